section
-- ===== PART A: goes FIRST, ahead of the names: the tables' words, and 'selects' of the private methods out of them =====
/-- a private method of a class that the tables say can be made, by its rows of tables_1 -/
def lw_okq (q : MethodName × Nat) : Prop := (q.1.cls ≠ "java/lang/invoke/MethodHandle" ∧ q.1.cls ≠ "java/lang/invoke/VarHandle") ∧ Cond.instantiable q.1.cls q.2 ∈ tables_1 ∧ Cond.privateMethod q.1 ∈ tables_1 ∧ Cond.instanceMethod q.1 ∈ tables_1
theorem lw_p0 : lw_okq (⟨"PuddleMinistriesModel", "lay", "(III)V"⟩, 10) := ⟨⟨by decide +kernel, by decide +kernel⟩, List.mem_of_getElem? (i := 439) (by decide +kernel), List.mem_of_getElem? (i := 445) (by decide +kernel), List.mem_of_getElem? (i := 446) (by decide +kernel)⟩
theorem lw_p1 : lw_okq (⟨"PuddleMinistriesModel", "record", "()V"⟩, 10) := ⟨⟨by decide +kernel, by decide +kernel⟩, List.mem_of_getElem? (i := 439) (by decide +kernel), List.mem_of_getElem? (i := 498) (by decide +kernel), List.mem_of_getElem? (i := 499) (by decide +kernel)⟩
theorem lw_p2 : lw_okq (⟨"PuddleMinistriesModel", "of", "(II)I"⟩, 10) := ⟨⟨by decide +kernel, by decide +kernel⟩, List.mem_of_getElem? (i := 439) (by decide +kernel), List.mem_of_getElem? (i := 516) (by decide +kernel), List.mem_of_getElem? (i := 517) (by decide +kernel)⟩
theorem lw_p3 : lw_okq (⟨"PuddleMinistriesModel", "drainAbove", "(II)V"⟩, 10) := ⟨⟨by decide +kernel, by decide +kernel⟩, List.mem_of_getElem? (i := 439) (by decide +kernel), List.mem_of_getElem? (i := 520) (by decide +kernel), List.mem_of_getElem? (i := 521) (by decide +kernel)⟩
theorem lw_p4 : lw_okq (⟨"PuddleMinistriesModel", "hasDucks", "(I)Z"⟩, 10) := ⟨⟨by decide +kernel, by decide +kernel⟩, List.mem_of_getElem? (i := 439) (by decide +kernel), List.mem_of_getElem? (i := 528) (by decide +kernel), List.mem_of_getElem? (i := 529) (by decide +kernel)⟩
theorem lw_p5 : lw_okq (⟨"PuddleMinistriesModel", "ofWalker", "(II)I"⟩, 10) := ⟨⟨by decide +kernel, by decide +kernel⟩, List.mem_of_getElem? (i := 439) (by decide +kernel), List.mem_of_getElem? (i := 539) (by decide +kernel), List.mem_of_getElem? (i := 540) (by decide +kernel)⟩
theorem lw_p6 : lw_okq (⟨"PuddleMinistriesModel", "layWalker", "(III)V"⟩, 10) := ⟨⟨by decide +kernel, by decide +kernel⟩, List.mem_of_getElem? (i := 439) (by decide +kernel), List.mem_of_getElem? (i := 543) (by decide +kernel), List.mem_of_getElem? (i := 544) (by decide +kernel)⟩
theorem lw_p7 : lw_okq (⟨"PuddleMinistriesModel", "permits", "(I)I"⟩, 10) := ⟨⟨by decide +kernel, by decide +kernel⟩, List.mem_of_getElem? (i := 439) (by decide +kernel), List.mem_of_getElem? (i := 551) (by decide +kernel), List.mem_of_getElem? (i := 552) (by decide +kernel)⟩
theorem lw_p8 : lw_okq (⟨"PuddleMinistriesModel", "days", "(II)I"⟩, 10) := ⟨⟨by decide +kernel, by decide +kernel⟩, List.mem_of_getElem? (i := 439) (by decide +kernel), List.mem_of_getElem? (i := 555) (by decide +kernel), List.mem_of_getElem? (i := 556) (by decide +kernel)⟩
theorem lw_p9 : lw_okq (⟨"PuddleMinistriesModel", "allowed", "(III)I"⟩, 10) := ⟨⟨by decide +kernel, by decide +kernel⟩, List.mem_of_getElem? (i := 439) (by decide +kernel), List.mem_of_getElem? (i := 566) (by decide +kernel), List.mem_of_getElem? (i := 567) (by decide +kernel)⟩
theorem lw_p10 : lw_okq (⟨"PuddleMinistriesModel", "reasonNow", "(II)I"⟩, 10) := ⟨⟨by decide +kernel, by decide +kernel⟩, List.mem_of_getElem? (i := 439) (by decide +kernel), List.mem_of_getElem? (i := 570) (by decide +kernel), List.mem_of_getElem? (i := 571) (by decide +kernel)⟩
theorem lw_p11 : lw_okq (⟨"PuddleMinistriesModel", "reason", "(III)I"⟩, 10) := ⟨⟨by decide +kernel, by decide +kernel⟩, List.mem_of_getElem? (i := 439) (by decide +kernel), List.mem_of_getElem? (i := 574) (by decide +kernel), List.mem_of_getElem? (i := 575) (by decide +kernel)⟩
theorem lw_p12 : lw_okq (⟨"PuddleMinistriesModel", "isFrozen", "(I)Z"⟩, 10) := ⟨⟨by decide +kernel, by decide +kernel⟩, List.mem_of_getElem? (i := 439) (by decide +kernel), List.mem_of_getElem? (i := 578) (by decide +kernel), List.mem_of_getElem? (i := 579) (by decide +kernel)⟩
theorem lw_p13 : lw_okq (⟨"PuddleMinistriesModel", "depth", "(I)I"⟩, 10) := ⟨⟨by decide +kernel, by decide +kernel⟩, List.mem_of_getElem? (i := 439) (by decide +kernel), List.mem_of_getElem? (i := 582) (by decide +kernel), List.mem_of_getElem? (i := 583) (by decide +kernel)⟩
theorem lw_p14 : lw_okq (⟨"PuddleMinistriesModel", "duties", "(III)I"⟩, 10) := ⟨⟨by decide +kernel, by decide +kernel⟩, List.mem_of_getElem? (i := 439) (by decide +kernel), List.mem_of_getElem? (i := 586) (by decide +kernel), List.mem_of_getElem? (i := 587) (by decide +kernel)⟩
theorem lw_p15 : lw_okq (⟨"PuddleMinistriesModel", "duty", "(I)I"⟩, 10) := ⟨⟨by decide +kernel, by decide +kernel⟩, List.mem_of_getElem? (i := 439) (by decide +kernel), List.mem_of_getElem? (i := 590) (by decide +kernel), List.mem_of_getElem? (i := 591) (by decide +kernel)⟩
def lw_privs_1 : List (MethodName × Nat) := [(⟨"PuddleMinistriesModel", "lay", "(III)V"⟩, 10), (⟨"PuddleMinistriesModel", "record", "()V"⟩, 10), (⟨"PuddleMinistriesModel", "of", "(II)I"⟩, 10), (⟨"PuddleMinistriesModel", "drainAbove", "(II)V"⟩, 10), (⟨"PuddleMinistriesModel", "hasDucks", "(I)Z"⟩, 10), (⟨"PuddleMinistriesModel", "ofWalker", "(II)I"⟩, 10), (⟨"PuddleMinistriesModel", "layWalker", "(III)V"⟩, 10), (⟨"PuddleMinistriesModel", "permits", "(I)I"⟩, 10), (⟨"PuddleMinistriesModel", "days", "(II)I"⟩, 10), (⟨"PuddleMinistriesModel", "allowed", "(III)I"⟩, 10), (⟨"PuddleMinistriesModel", "reasonNow", "(II)I"⟩, 10), (⟨"PuddleMinistriesModel", "reason", "(III)I"⟩, 10), (⟨"PuddleMinistriesModel", "isFrozen", "(I)Z"⟩, 10), (⟨"PuddleMinistriesModel", "depth", "(I)I"⟩, 10), (⟨"PuddleMinistriesModel", "duties", "(III)I"⟩, 10), (⟨"PuddleMinistriesModel", "duty", "(I)I"⟩, 10)]
theorem lw_r1 : ∀ q ∈ lw_privs_1, lw_okq q := List.forall_mem_cons.mpr ⟨lw_p0, List.forall_mem_cons.mpr ⟨lw_p1, List.forall_mem_cons.mpr ⟨lw_p2, List.forall_mem_cons.mpr ⟨lw_p3, List.forall_mem_cons.mpr ⟨lw_p4, List.forall_mem_cons.mpr ⟨lw_p5, List.forall_mem_cons.mpr ⟨lw_p6, List.forall_mem_cons.mpr ⟨lw_p7, List.forall_mem_cons.mpr ⟨lw_p8, List.forall_mem_cons.mpr ⟨lw_p9, List.forall_mem_cons.mpr ⟨lw_p10, List.forall_mem_cons.mpr ⟨lw_p11, List.forall_mem_cons.mpr ⟨lw_p12, List.forall_mem_cons.mpr ⟨lw_p13, List.forall_mem_cons.mpr ⟨lw_p14, List.forall_mem_cons.mpr ⟨lw_p15, fun _ h => absurd h List.not_mem_nil⟩⟩⟩⟩⟩⟩⟩⟩⟩⟩⟩⟩⟩⟩⟩⟩
theorem lw_p16 : lw_okq (⟨"PuddleMinistriesModel", "passNow", "(I)V"⟩, 10) := ⟨⟨by decide +kernel, by decide +kernel⟩, List.mem_of_getElem? (i := 439) (by decide +kernel), List.mem_of_getElem? (i := 602) (by decide +kernel), List.mem_of_getElem? (i := 603) (by decide +kernel)⟩
theorem lw_p17 : lw_okq (⟨"PuddleMinistriesModel", "sun", "()V"⟩, 10) := ⟨⟨by decide +kernel, by decide +kernel⟩, List.mem_of_getElem? (i := 439) (by decide +kernel), List.mem_of_getElem? (i := 606) (by decide +kernel), List.mem_of_getElem? (i := 607) (by decide +kernel)⟩
theorem lw_p18 : lw_okq (⟨"PuddleMinistriesModel", "rain", "(I)V"⟩, 10) := ⟨⟨by decide +kernel, by decide +kernel⟩, List.mem_of_getElem? (i := 439) (by decide +kernel), List.mem_of_getElem? (i := 610) (by decide +kernel), List.mem_of_getElem? (i := 611) (by decide +kernel)⟩
theorem lw_p19 : lw_okq (⟨"PuddleMinistriesModel", "frost", "()V"⟩, 10) := ⟨⟨by decide +kernel, by decide +kernel⟩, List.mem_of_getElem? (i := 439) (by decide +kernel), List.mem_of_getElem? (i := 614) (by decide +kernel), List.mem_of_getElem? (i := 615) (by decide +kernel)⟩
theorem lw_p20 : lw_okq (⟨"PuddleMinistriesModel", "endDay", "()V"⟩, 10) := ⟨⟨by decide +kernel, by decide +kernel⟩, List.mem_of_getElem? (i := 439) (by decide +kernel), List.mem_of_getElem? (i := 618) (by decide +kernel), List.mem_of_getElem? (i := 619) (by decide +kernel)⟩
theorem lw_p21 : lw_okq (⟨"PuddleMinistriesModel", "water", "()I"⟩, 10) := ⟨⟨by decide +kernel, by decide +kernel⟩, List.mem_of_getElem? (i := 439) (by decide +kernel), List.mem_of_getElem? (i := 622) (by decide +kernel), List.mem_of_getElem? (i := 623) (by decide +kernel)⟩
theorem lw_p22 : lw_okq (⟨"PuddleMinistriesModel", "readPad", "()Z"⟩, 10) := ⟨⟨by decide +kernel, by decide +kernel⟩, List.mem_of_getElem? (i := 439) (by decide +kernel), List.mem_of_getElem? (i := 639) (by decide +kernel), List.mem_of_getElem? (i := 640) (by decide +kernel)⟩
theorem lw_p23 : lw_okq (⟨"PuddleMinistriesModel", "readHour", "()I"⟩, 10) := ⟨⟨by decide +kernel, by decide +kernel⟩, List.mem_of_getElem? (i := 439) (by decide +kernel), List.mem_of_getElem? (i := 643) (by decide +kernel), List.mem_of_getElem? (i := 644) (by decide +kernel)⟩
theorem lw_p24 : lw_okq (⟨"PuddleMinistriesModel", "permitted", "(I)I"⟩, 10) := ⟨⟨by decide +kernel, by decide +kernel⟩, List.mem_of_getElem? (i := 439) (by decide +kernel), List.mem_of_getElem? (i := 655) (by decide +kernel), List.mem_of_getElem? (i := 656) (by decide +kernel)⟩
theorem lw_p25 : lw_okq (⟨"PuddleMinistriesModel", "may", "(II)I"⟩, 10) := ⟨⟨by decide +kernel, by decide +kernel⟩, List.mem_of_getElem? (i := 439) (by decide +kernel), List.mem_of_getElem? (i := 663) (by decide +kernel), List.mem_of_getElem? (i := 664) (by decide +kernel)⟩
theorem lw_p26 : lw_okq (⟨"PuddleMinistriesModel", "puddlesWith", "(I)I"⟩, 10) := ⟨⟨by decide +kernel, by decide +kernel⟩, List.mem_of_getElem? (i := 439) (by decide +kernel), List.mem_of_getElem? (i := 679) (by decide +kernel), List.mem_of_getElem? (i := 680) (by decide +kernel)⟩
theorem lw_p27 : lw_okq (⟨"PuddleMinistriesModel", "allPermits", "()I"⟩, 10) := ⟨⟨by decide +kernel, by decide +kernel⟩, List.mem_of_getElem? (i := 439) (by decide +kernel), List.mem_of_getElem? (i := 683) (by decide +kernel), List.mem_of_getElem? (i := 684) (by decide +kernel)⟩
theorem lw_p28 : lw_okq (⟨"PuddleMinistriesModel", "sumOfWalkers", "(I)I"⟩, 10) := ⟨⟨by decide +kernel, by decide +kernel⟩, List.mem_of_getElem? (i := 439) (by decide +kernel), List.mem_of_getElem? (i := 687) (by decide +kernel), List.mem_of_getElem? (i := 688) (by decide +kernel)⟩
def lw_privs_2 : List (MethodName × Nat) := [(⟨"PuddleMinistriesModel", "passNow", "(I)V"⟩, 10), (⟨"PuddleMinistriesModel", "sun", "()V"⟩, 10), (⟨"PuddleMinistriesModel", "rain", "(I)V"⟩, 10), (⟨"PuddleMinistriesModel", "frost", "()V"⟩, 10), (⟨"PuddleMinistriesModel", "endDay", "()V"⟩, 10), (⟨"PuddleMinistriesModel", "water", "()I"⟩, 10), (⟨"PuddleMinistriesModel", "readPad", "()Z"⟩, 10), (⟨"PuddleMinistriesModel", "readHour", "()I"⟩, 10), (⟨"PuddleMinistriesModel", "permitted", "(I)I"⟩, 10), (⟨"PuddleMinistriesModel", "may", "(II)I"⟩, 10), (⟨"PuddleMinistriesModel", "puddlesWith", "(I)I"⟩, 10), (⟨"PuddleMinistriesModel", "allPermits", "()I"⟩, 10), (⟨"PuddleMinistriesModel", "sumOfWalkers", "(I)I"⟩, 10)]
theorem lw_r2 : ∀ q ∈ lw_privs_2, lw_okq q := List.forall_mem_cons.mpr ⟨lw_p16, List.forall_mem_cons.mpr ⟨lw_p17, List.forall_mem_cons.mpr ⟨lw_p18, List.forall_mem_cons.mpr ⟨lw_p19, List.forall_mem_cons.mpr ⟨lw_p20, List.forall_mem_cons.mpr ⟨lw_p21, List.forall_mem_cons.mpr ⟨lw_p22, List.forall_mem_cons.mpr ⟨lw_p23, List.forall_mem_cons.mpr ⟨lw_p24, List.forall_mem_cons.mpr ⟨lw_p25, List.forall_mem_cons.mpr ⟨lw_p26, List.forall_mem_cons.mpr ⟨lw_p27, List.forall_mem_cons.mpr ⟨lw_p28, fun _ h => absurd h List.not_mem_nil⟩⟩⟩⟩⟩⟩⟩⟩⟩⟩⟩⟩⟩
def lw_privs : List (MethodName × Nat) := lw_privs_1 ++ (lw_privs_2)
def lw_tbl : List Cond := k2_sels lw_privs ++ tables_1
theorem lw_privs_ok : ∀ q ∈ lw_privs, lw_okq q := by
  show ∀ q ∈ lw_privs_1 ++ (lw_privs_2), lw_okq q
  exact List.forall_mem_append.mpr ⟨lw_r1, lw_r2⟩
-- ===== end of PART A; then your names; then what follows =====
end
section
/-! ===== BEGIN words of one list among another's, by their places ===== -/
theorem goodIn_r {big : List Cond} (ws : List Cond) (ps : List Nat) (hp : ws = ps.filterMap (fun i => big[i]?)) (h : ws.all goodWord = true) : GoodIn big ws := by
  intro w hw
  have h1 := List.all_eq_true.mp h w hw
  rw [hp] at hw
  obtain ⟨i, -, hi⟩ := List.mem_filterMap.mp hw
  have hm : w ∈ big := by first | exact List.mem_of_getElem? hi | exact List.getElem?_mem hi
  exact ⟨hm, good_of_word h1⟩
theorem goodIn_app {big a b : List Cond} (ha : GoodIn big a) (hb : GoodIn big b) : GoodIn big (a ++ b) := fun w h => (List.mem_append.mp h).elim (ha w) (hb w)
theorem goodIn_ca {big a b : List Cond} {c : Cond} (ha : GoodIn big (c :: a)) (hb : GoodIn big b) : GoodIn big (c :: (a ++ b)) := fun w h => (List.mem_cons.mp h).elim (fun e => ha w (List.mem_cons.mpr (Or.inl e))) (fun h => (List.mem_append.mp h).elim (fun h => ha w (List.mem_cons.mpr (Or.inr h))) (hb w))
theorem goodIn_sub {big ws : List Cond} (hm : ∀ w ∈ ws, w ∈ big) (h : ws.all goodWord = true) : GoodIn big ws := fun w hw => ⟨hm w hw, good_of_word (List.all_eq_true.mp h w hw)⟩
/-! ===== END ===== -/

/-! ===== BEGIN printed: names, fields, word lists, decode rows ===== -/
def RX0 : String := "PuddleMinistries$History"
def TX0 : u_T := fun k => match k with
  | 0 => ("PuddleMinistries$History", "kept", "[LPuddleMinistries$Street;", true)
  | _ => ("PuddleMinistries$History", "size", "I", false)
def tyX0 : Nat → FieldType := fun k => match k with
  | 0 => .array (.object "PuddleMinistries$Street")
  | _ => .int
abbrev wsX00 : List Cond := u_ws RX0 TX0 2
theorem nmX0 : ∀ a, a < 2 → ∀ b, b < 2 → a ≠ b → (TX0 a).2.1 ≠ (TX0 b).2.1 := by decide +kernel
theorem tyX0_ok : ∀ k, k < 2 → parseFieldDescriptor (TX0 k).2.2.1 = some (tyX0 k) := by decide +kernel
abbrev cX0_init : ByteArray := prog_2_method_1_code
def yX0_init : MethodName := ⟨RX0, "<init>", "()V"⟩
abbrev cX0_record : ByteArray := prog_2_method_2_code
def yX0_record : MethodName := ⟨RX0, "record", "(LPuddleMinistries$Street;)V"⟩
abbrev cX0_dropOldest : ByteArray := prog_2_method_3_code
def yX0_dropOldest : MethodName := ⟨RX0, "dropOldest", "()V"⟩
abbrev cX0_takeBack : ByteArray := prog_2_method_4_code
def yX0_takeBack : MethodName := ⟨RX0, "takeBack", "(LPuddleMinistries$Street;)V"⟩
def RX1 : String := "PuddleMinistries$Pad"
def TX1 : u_T := fun k => match k with
  | 0 => ("PuddleMinistries$Pad", "signs", "[C", true)
  | _ => ("PuddleMinistries$Pad", "length", "I", false)
def tyX1 : Nat → FieldType := fun k => match k with
  | 0 => .array .char
  | _ => .int
abbrev wsX10 : List Cond := u_ws RX1 TX1 2
theorem nmX1 : ∀ a, a < 2 → ∀ b, b < 2 → a ≠ b → (TX1 a).2.1 ≠ (TX1 b).2.1 := by decide +kernel
theorem tyX1_ok : ∀ k, k < 2 → parseFieldDescriptor (TX1 k).2.2.1 = some (tyX1 k) := by decide +kernel
abbrev cX1_init : ByteArray := prog_3_method_1_code
def yX1_init : MethodName := ⟨RX1, "<init>", "()V"⟩
abbrev cX1_charactersIn : ByteArray := prog_3_method_2_code
def yX1_charactersIn : MethodName := ⟨RX1, "charactersIn", "(J)I"⟩
abbrev cX1_append : ByteArray := prog_3_method_3_code
def yX1_append : MethodName := ⟨RX1, "append", "(JI)V"⟩
abbrev cX1_findFault : ByteArray := prog_3_method_4_code
def yX1_findFault : MethodName := ⟨RX1, "findFault", "()I"⟩
abbrev cX1_isAmount : ByteArray := prog_3_method_5_code
def yX1_isAmount : MethodName := ⟨RX1, "isAmount", "(C)Z"⟩
abbrev cX1_beginsHour : ByteArray := prog_3_method_6_code
def yX1_beginsHour : MethodName := ⟨RX1, "beginsHour", "(C)Z"⟩
abbrev cX1_weatherAt : ByteArray := prog_3_method_7_code
def yX1_weatherAt : MethodName := ⟨RX1, "weatherAt", "(I)I"⟩
abbrev cX1_daysTold : ByteArray := prog_3_method_8_code
def yX1_daysTold : MethodName := ⟨RX1, "daysTold", "()I"⟩
def RX2 : String := "PuddleMinistries$Slots"
def TX2 : u_T := fun k => match k with
  | 0 => ("PuddleMinistries$Slots", "kept", "[LPuddleMinistries$Street;", true)
  | _ => ("PuddleMinistries$Slots", "used", "[Z", true)
def tyX2 : Nat → FieldType := fun k => match k with
  | 0 => .array (.object "PuddleMinistries$Street")
  | _ => .array .boolean
abbrev wsX20 : List Cond := u_ws RX2 TX2 2
theorem nmX2 : ∀ a, a < 2 → ∀ b, b < 2 → a ≠ b → (TX2 a).2.1 ≠ (TX2 b).2.1 := by decide +kernel
theorem tyX2_ok : ∀ k, k < 2 → parseFieldDescriptor (TX2 k).2.2.1 = some (tyX2 k) := by decide +kernel
abbrev cX2_init : ByteArray := prog_4_method_1_code
def yX2_init : MethodName := ⟨RX2, "<init>", "()V"⟩
def RX3 : String := "PuddleMinistries$Street"
def TX3 : u_T := fun k => match k with
  | 0 => ("PuddleMinistries$Street", "settings", "[I", true)
  | 1 => ("PuddleMinistries$Street", "brims", "[I", true)
  | 2 => ("PuddleMinistries$Street", "waters", "[I", true)
  | 3 => ("PuddleMinistries$Street", "crossingsOf", "[I", true)
  | 4 => ("PuddleMinistries$Street", "shoesOf", "[I", true)
  | 5 => ("PuddleMinistries$Street", "owedBy", "[I", true)
  | 6 => ("PuddleMinistries$Street", "paidBy", "[I", true)
  | 7 => ("PuddleMinistries$Street", "crossedBy", "[I", true)
  | 8 => ("PuddleMinistries$Street", "permitDays", "[I", true)
  | 9 => ("PuddleMinistries$Street", "frozenSet", "I", false)
  | 10 => ("PuddleMinistries$Street", "ducksSet", "I", false)
  | 11 => ("PuddleMinistries$Street", "days", "I", false)
  | 12 => ("PuddleMinistries$Street", "fell", "I", false)
  | 13 => ("PuddleMinistries$Street", "dried", "I", false)
  | _ => ("PuddleMinistries$Street", "drained", "I", false)
def tyX3 : Nat → FieldType := fun k => match k with
  | 0 => .array .int
  | 1 => .array .int
  | 2 => .array .int
  | 3 => .array .int
  | 4 => .array .int
  | 5 => .array .int
  | 6 => .array .int
  | 7 => .array .int
  | 8 => .array .int
  | 9 => .int
  | 10 => .int
  | 11 => .int
  | 12 => .int
  | 13 => .int
  | _ => .int
abbrev wsX30 : List Cond := u_ws RX3 TX3 15
theorem nmX3 : ∀ a, a < 15 → ∀ b, b < 15 → a ≠ b → (TX3 a).2.1 ≠ (TX3 b).2.1 := by decide +kernel
theorem tyX3_ok : ∀ k, k < 15 → parseFieldDescriptor (TX3 k).2.2.1 = some (tyX3 k) := by decide +kernel
abbrev cX3_init : ByteArray := prog_5_method_1_code
def yX3_init : MethodName := ⟨RX3, "<init>", "()V"⟩
abbrev cX3_copyFrom : ByteArray := prog_5_method_2_code
def yX3_copyFrom : MethodName := ⟨RX3, "copyFrom", "(LPuddleMinistries$Street;)V"⟩
abbrev cX3_depth : ByteArray := prog_5_method_3_code
def yX3_depth : MethodName := ⟨RX3, "depth", "(I)I"⟩
abbrev cX3_isFrozen : ByteArray := prog_5_method_4_code
def yX3_isFrozen : MethodName := ⟨RX3, "isFrozen", "(I)Z"⟩
abbrev cX3_hasDucks : ByteArray := prog_5_method_5_code
def yX3_hasDucks : MethodName := ⟨RX3, "hasDucks", "(I)Z"⟩
abbrev cX3_thaw : ByteArray := prog_5_method_6_code
def yX3_thaw : MethodName := ⟨RX3, "thaw", "(I)V"⟩
abbrev cX3_drainDownTo : ByteArray := prog_5_method_7_code
def yX3_drainDownTo : MethodName := ⟨RX3, "drainDownTo", "(II)V"⟩
abbrev cX3_letPass : ByteArray := prog_5_method_8_code
def yX3_letPass : MethodName := ⟨RX3, "letPass", "(I)V"⟩
abbrev cX3_rain : ByteArray := prog_5_method_9_code
def yX3_rain : MethodName := ⟨RX3, "rain", "(I)V"⟩
abbrev cX3_shine : ByteArray := prog_5_method_10_code
def yX3_shine : MethodName := ⟨RX3, "shine", "()V"⟩
abbrev cX3_freeze : ByteArray := prog_5_method_11_code
def yX3_freeze : MethodName := ⟨RX3, "freeze", "()V"⟩
abbrev cX3_endDay : ByteArray := prog_5_method_12_code
def yX3_endDay : MethodName := ⟨RX3, "endDay", "()V"⟩
abbrev cX3_agePermitsAt : ByteArray := prog_5_method_13_code
def yX3_agePermitsAt : MethodName := ⟨RX3, "agePermitsAt", "(I)V"⟩
abbrev cX3_hasPermit : ByteArray := prog_5_method_14_code
def yX3_hasPermit : MethodName := ⟨RX3, "hasPermit", "(II)Z"⟩
abbrev cX3_permitsOf : ByteArray := prog_5_method_15_code
def yX3_permitsOf : MethodName := ⟨RX3, "permitsOf", "(I)I"⟩
abbrev cX3_permitHoldersAt : ByteArray := prog_5_method_16_code
def yX3_permitHoldersAt : MethodName := ⟨RX3, "permitHoldersAt", "(I)I"⟩
abbrev cX3_allPermits : ByteArray := prog_5_method_17_code
def yX3_allPermits : MethodName := ⟨RX3, "allPermits", "()I"⟩
abbrev cX3_reasonAgainst : ByteArray := prog_5_method_18_code
def yX3_reasonAgainst : MethodName := ⟨RX3, "reasonAgainst", "(III)I"⟩
abbrev cX3_depthKeptOut : ByteArray := prog_5_method_19_code
def yX3_depthKeptOut : MethodName := ⟨RX3, "depthKeptOut", "(I)I"⟩
abbrev cX3_mayCross : ByteArray := prog_5_method_20_code
def yX3_mayCross : MethodName := ⟨RX3, "mayCross", "(II)Z"⟩
abbrev cX3_allowedFor : ByteArray := prog_5_method_21_code
def yX3_allowedFor : MethodName := ⟨RX3, "allowedFor", "(I)I"⟩
abbrev cX3_allowsAllWith : ByteArray := prog_5_method_22_code
def yX3_allowsAllWith : MethodName := ⟨RX3, "allowsAllWith", "(II)Z"⟩
abbrev cX3_dutyAt : ByteArray := prog_5_method_23_code
def yX3_dutyAt : MethodName := ⟨RX3, "dutyAt", "(I)I"⟩
abbrev cX3_cross : ByteArray := prog_5_method_24_code
def yX3_cross : MethodName := ⟨RX3, "cross", "(II)V"⟩
abbrev cX3_stepsUntilBlocked : ByteArray := prog_5_method_25_code
def yX3_stepsUntilBlocked : MethodName := ⟨RX3, "stepsUntilBlocked", "(III)I"⟩
abbrev cX3_costBySteps : ByteArray := prog_5_method_26_code
def yX3_costBySteps : MethodName := ⟨RX3, "costBySteps", "(III)I"⟩
abbrev cX3_costByBlock : ByteArray := prog_5_method_27_code
def yX3_costByBlock : MethodName := ⟨RX3, "costByBlock", "(III)I"⟩
def RX4 : String := "PuddleMinistries"
def TX4 : u_T := fun k => match k with
  | 0 => ("PuddleMinistries", "street", "LPuddleMinistries$Street;", true)
  | 1 => ("PuddleMinistries", "pad", "LPuddleMinistries$Pad;", true)
  | 2 => ("PuddleMinistries", "history", "LPuddleMinistries$History;", true)
  | _ => ("PuddleMinistries", "slots", "LPuddleMinistries$Slots;", true)
def tyX4 : Nat → FieldType := fun k => match k with
  | 0 => .object "PuddleMinistries$Street"
  | 1 => .object "PuddleMinistries$Pad"
  | 2 => .object "PuddleMinistries$History"
  | _ => .object "PuddleMinistries$Slots"
abbrev wsX40 : List Cond := u_ws RX4 TX4 4
theorem nmX4 : ∀ a, a < 4 → ∀ b, b < 4 → a ≠ b → (TX4 a).2.1 ≠ (TX4 b).2.1 := by decide +kernel
theorem tyX4_ok : ∀ k, k < 4 → parseFieldDescriptor (TX4 k).2.2.1 = some (tyX4 k) := by decide +kernel
abbrev cX4_init : ByteArray := prog_1_method_1_code
def yX4_init : MethodName := ⟨RX4, "<init>", "()V"⟩
abbrev cX4_set : ByteArray := prog_1_method_2_code
def yX4_set : MethodName := ⟨RX4, "set", "(II)I"⟩
abbrev cX4_brim : ByteArray := prog_1_method_3_code
def yX4_brim : MethodName := ⟨RX4, "brim", "(II)I"⟩
abbrev cX4_drain : ByteArray := prog_1_method_4_code
def yX4_drain : MethodName := ⟨RX4, "drain", "(I)I"⟩
abbrev cX4_shoes : ByteArray := prog_1_method_5_code
def yX4_shoes : MethodName := ⟨RX4, "shoes", "(II)I"⟩
abbrev cX4_permit : ByteArray := prog_1_method_6_code
def yX4_permit : MethodName := ⟨RX4, "permit", "(II)I"⟩
abbrev cX4_walk : ByteArray := prog_1_method_7_code
def yX4_walk : MethodName := ⟨RX4, "walk", "(III)I"⟩
abbrev cX4_pay : ByteArray := prog_1_method_8_code
def yX4_pay : MethodName := ⟨RX4, "pay", "(I)I"⟩
abbrev cX4_pass : ByteArray := prog_1_method_9_code
def yX4_pass : MethodName := ⟨RX4, "pass", "(I)I"⟩
abbrev cX4_read : ByteArray := prog_1_method_10_code
def yX4_read : MethodName := ⟨RX4, "read", "()I"⟩
abbrev cX4_puddle : ByteArray := prog_1_method_11_code
def yX4_puddle : MethodName := ⟨RX4, "puddle", "(II)I"⟩
abbrev cX4_walker : ByteArray := prog_1_method_12_code
def yX4_walker : MethodName := ⟨RX4, "walker", "(II)I"⟩
abbrev cX4_why : ByteArray := prog_1_method_13_code
def yX4_why : MethodName := ⟨RX4, "why", "(II)I"⟩
abbrev cX4_holds : ByteArray := prog_1_method_14_code
def yX4_holds : MethodName := ⟨RX4, "holds", "(II)I"⟩
abbrev cX4_count : ByteArray := prog_1_method_15_code
def yX4_count : MethodName := ⟨RX4, "count", "(I)I"⟩
abbrev cX4_cost : ByteArray := prog_1_method_16_code
def yX4_cost : MethodName := ⟨RX4, "cost", "(IIII)I"⟩
abbrev cX4_untilDry : ByteArray := prog_1_method_17_code
def yX4_untilDry : MethodName := ⟨RX4, "untilDry", "(I)I"⟩
abbrev cX4_leastShoes : ByteArray := prog_1_method_18_code
def yX4_leastShoes : MethodName := ⟨RX4, "leastShoes", "(I)I"⟩
abbrev cX4_longestWalk : ByteArray := prog_1_method_19_code
def yX4_longestWalk : MethodName := ⟨RX4, "longestWalk", "(II)I"⟩
abbrev cX4_put : ByteArray := prog_1_method_20_code
def yX4_put : MethodName := ⟨RX4, "put", "(J)I"⟩
abbrev cX4_wipe : ByteArray := prog_1_method_21_code
def yX4_wipe : MethodName := ⟨RX4, "wipe", "()I"⟩
abbrev cX4_fault : ByteArray := prog_1_method_22_code
def yX4_fault : MethodName := ⟨RX4, "fault", "()I"⟩
abbrev cX4_undo : ByteArray := prog_1_method_23_code
def yX4_undo : MethodName := ⟨RX4, "undo", "()I"⟩
abbrev cX4_save : ByteArray := prog_1_method_24_code
def yX4_save : MethodName := ⟨RX4, "save", "(I)I"⟩
abbrev cX4_restore : ByteArray := prog_1_method_25_code
def yX4_restore : MethodName := ⟨RX4, "restore", "(I)I"⟩
abbrev cX4_isPuddle : ByteArray := prog_1_method_26_code
def yX4_isPuddle : MethodName := ⟨RX4, "isPuddle", "(I)Z"⟩
abbrev cX4_isWalker : ByteArray := prog_1_method_27_code
def yX4_isWalker : MethodName := ⟨RX4, "isWalker", "(I)Z"⟩
abbrev cX4_isIn : ByteArray := prog_1_method_28_code
def yX4_isIn : MethodName := ⟨RX4, "isIn", "(II)Z"⟩
abbrev cX4_placeOf : ByteArray := prog_1_method_29_code
def yX4_placeOf : MethodName := ⟨RX4, "placeOf", "(II)I"⟩
abbrev cX4_placeAfter : ByteArray := prog_1_method_30_code
def yX4_placeAfter : MethodName := ⟨RX4, "placeAfter", "(III)I"⟩
abbrev cX4_sum : ByteArray := prog_1_method_31_code
def yX4_sum : MethodName := ⟨RX4, "sum", "([I)I"⟩
abbrev cX4_copy : ByteArray := prog_1_method_32_code
def yX4_copy : MethodName := ⟨RX4, "copy", "([I[I)V"⟩
def RX5 : String := "PuddleMinistriesModel"
def TX5 : u_T := fun k => match k with
  | 0 => ("PuddleMinistriesModel", "z", "[I", true)
  | 1 => ("PuddleMinistriesModel", "past", "[I", true)
  | 2 => ("PuddleMinistriesModel", "states", "I", false)
  | 3 => ("PuddleMinistriesModel", "slots", "[I", true)
  | 4 => ("PuddleMinistriesModel", "isSaved", "[Z", true)
  | 5 => ("PuddleMinistriesModel", "pad", "[I", true)
  | 6 => ("PuddleMinistriesModel", "typed", "I", false)
  | 7 => ("PuddleMinistriesModel", "spot", "I", false)
  | 8 => ("PuddleMinistriesModel", "told", "[I", true)
  | _ => ("PuddleMinistriesModel", "toldMany", "I", false)
def tyX5 : Nat → FieldType := fun k => match k with
  | 0 => .array .int
  | 1 => .array .int
  | 2 => .int
  | 3 => .array .int
  | 4 => .array .boolean
  | 5 => .array .int
  | 6 => .int
  | 7 => .int
  | 8 => .array .int
  | _ => .int
abbrev wsX50 : List Cond := u_ws RX5 TX5 10
theorem nmX5 : ∀ a, a < 10 → ∀ b, b < 10 → a ≠ b → (TX5 a).2.1 ≠ (TX5 b).2.1 := by decide +kernel
theorem tyX5_ok : ∀ k, k < 10 → parseFieldDescriptor (TX5 k).2.2.1 = some (tyX5 k) := by decide +kernel
abbrev cX5_init : ByteArray := prog_7_method_1_code
def yX5_init : MethodName := ⟨RX5, "<init>", "()V"⟩
abbrev cX5_in : ByteArray := prog_7_method_2_code
def yX5_in : MethodName := ⟨RX5, "in", "(III)Z"⟩
abbrev cX5_isPuddle : ByteArray := prog_7_method_3_code
def yX5_isPuddle : MethodName := ⟨RX5, "isPuddle", "(I)Z"⟩
abbrev cX5_isWalker : ByteArray := prog_7_method_4_code
def yX5_isWalker : MethodName := ⟨RX5, "isWalker", "(I)Z"⟩
abbrev cX5_of : ByteArray := prog_7_method_5_code
def yX5_of : MethodName := ⟨RX5, "of", "(II)I"⟩
abbrev cX5_lay : ByteArray := prog_7_method_6_code
def yX5_lay : MethodName := ⟨RX5, "lay", "(III)V"⟩
abbrev cX5_ofWalker : ByteArray := prog_7_method_7_code
def yX5_ofWalker : MethodName := ⟨RX5, "ofWalker", "(II)I"⟩
abbrev cX5_layWalker : ByteArray := prog_7_method_8_code
def yX5_layWalker : MethodName := ⟨RX5, "layWalker", "(III)V"⟩
abbrev cX5_days : ByteArray := prog_7_method_9_code
def yX5_days : MethodName := ⟨RX5, "days", "(II)I"⟩
abbrev cX5_isFrozen : ByteArray := prog_7_method_10_code
def yX5_isFrozen : MethodName := ⟨RX5, "isFrozen", "(I)Z"⟩
abbrev cX5_depth : ByteArray := prog_7_method_11_code
def yX5_depth : MethodName := ⟨RX5, "depth", "(I)I"⟩
abbrev cX5_copyState : ByteArray := prog_7_method_12_code
def yX5_copyState : MethodName := ⟨RX5, "copyState", "([II[II)V"⟩
abbrev cX5_record : ByteArray := prog_7_method_13_code
def yX5_record : MethodName := ⟨RX5, "record", "()V"⟩
abbrev cX5_undo : ByteArray := prog_7_method_14_code
def yX5_undo : MethodName := ⟨RX5, "undo", "()I"⟩
abbrev cX5_save : ByteArray := prog_7_method_15_code
def yX5_save : MethodName := ⟨RX5, "save", "(I)I"⟩
abbrev cX5_restore : ByteArray := prog_7_method_16_code
def yX5_restore : MethodName := ⟨RX5, "restore", "(I)I"⟩
abbrev cX5_isValue : ByteArray := prog_7_method_17_code
def yX5_isValue : MethodName := ⟨RX5, "isValue", "(II)Z"⟩
abbrev cX5_set : ByteArray := prog_7_method_18_code
def yX5_set : MethodName := ⟨RX5, "set", "(II)I"⟩
abbrev cX5_drainAbove : ByteArray := prog_7_method_19_code
def yX5_drainAbove : MethodName := ⟨RX5, "drainAbove", "(II)V"⟩
abbrev cX5_brim : ByteArray := prog_7_method_20_code
def yX5_brim : MethodName := ⟨RX5, "brim", "(II)I"⟩
abbrev cX5_hasDucks : ByteArray := prog_7_method_21_code
def yX5_hasDucks : MethodName := ⟨RX5, "hasDucks", "(I)Z"⟩
abbrev cX5_drain : ByteArray := prog_7_method_22_code
def yX5_drain : MethodName := ⟨RX5, "drain", "(I)I"⟩
abbrev cX5_shoes : ByteArray := prog_7_method_23_code
def yX5_shoes : MethodName := ⟨RX5, "shoes", "(II)I"⟩
abbrev cX5_size : ByteArray := prog_7_method_24_code
def yX5_size : MethodName := ⟨RX5, "size", "(I)I"⟩
abbrev cX5_permits : ByteArray := prog_7_method_25_code
def yX5_permits : MethodName := ⟨RX5, "permits", "(I)I"⟩
abbrev cX5_permit : ByteArray := prog_7_method_26_code
def yX5_permit : MethodName := ⟨RX5, "permit", "(II)I"⟩
abbrev cX5_reason : ByteArray := prog_7_method_27_code
def yX5_reason : MethodName := ⟨RX5, "reason", "(III)I"⟩
abbrev cX5_reasonNow : ByteArray := prog_7_method_28_code
def yX5_reasonNow : MethodName := ⟨RX5, "reasonNow", "(II)I"⟩
abbrev cX5_duty : ByteArray := prog_7_method_29_code
def yX5_duty : MethodName := ⟨RX5, "duty", "(I)I"⟩
abbrev cX5_allowed : ByteArray := prog_7_method_30_code
def yX5_allowed : MethodName := ⟨RX5, "allowed", "(III)I"⟩
abbrev cX5_duties : ByteArray := prog_7_method_31_code
def yX5_duties : MethodName := ⟨RX5, "duties", "(III)I"⟩
abbrev cX5_walk : ByteArray := prog_7_method_32_code
def yX5_walk : MethodName := ⟨RX5, "walk", "(III)I"⟩
abbrev cX5_pay : ByteArray := prog_7_method_33_code
def yX5_pay : MethodName := ⟨RX5, "pay", "(I)I"⟩
abbrev cX5_sun : ByteArray := prog_7_method_34_code
def yX5_sun : MethodName := ⟨RX5, "sun", "()V"⟩
abbrev cX5_rain : ByteArray := prog_7_method_35_code
def yX5_rain : MethodName := ⟨RX5, "rain", "(I)V"⟩
abbrev cX5_frost : ByteArray := prog_7_method_36_code
def yX5_frost : MethodName := ⟨RX5, "frost", "()V"⟩
abbrev cX5_endDay : ByteArray := prog_7_method_37_code
def yX5_endDay : MethodName := ⟨RX5, "endDay", "()V"⟩
abbrev cX5_passNow : ByteArray := prog_7_method_38_code
def yX5_passNow : MethodName := ⟨RX5, "passNow", "(I)V"⟩
abbrev cX5_water : ByteArray := prog_7_method_39_code
def yX5_water : MethodName := ⟨RX5, "water", "()I"⟩
abbrev cX5_pass : ByteArray := prog_7_method_40_code
def yX5_pass : MethodName := ⟨RX5, "pass", "(I)I"⟩
abbrev cX5_put : ByteArray := prog_7_method_41_code
def yX5_put : MethodName := ⟨RX5, "put", "(J)I"⟩
abbrev cX5_wipe : ByteArray := prog_7_method_42_code
def yX5_wipe : MethodName := ⟨RX5, "wipe", "()I"⟩
abbrev cX5_readHour : ByteArray := prog_7_method_43_code
def yX5_readHour : MethodName := ⟨RX5, "readHour", "()I"⟩
abbrev cX5_readPad : ByteArray := prog_7_method_44_code
def yX5_readPad : MethodName := ⟨RX5, "readPad", "()Z"⟩
abbrev cX5_fault : ByteArray := prog_7_method_45_code
def yX5_fault : MethodName := ⟨RX5, "fault", "()I"⟩
abbrev cX5_read : ByteArray := prog_7_method_46_code
def yX5_read : MethodName := ⟨RX5, "read", "()I"⟩
abbrev cX5_permitted : ByteArray := prog_7_method_47_code
def yX5_permitted : MethodName := ⟨RX5, "permitted", "(I)I"⟩
abbrev cX5_puddle : ByteArray := prog_7_method_48_code
def yX5_puddle : MethodName := ⟨RX5, "puddle", "(II)I"⟩
abbrev cX5_may : ByteArray := prog_7_method_49_code
def yX5_may : MethodName := ⟨RX5, "may", "(II)I"⟩
abbrev cX5_walker : ByteArray := prog_7_method_50_code
def yX5_walker : MethodName := ⟨RX5, "walker", "(II)I"⟩
abbrev cX5_why : ByteArray := prog_7_method_51_code
def yX5_why : MethodName := ⟨RX5, "why", "(II)I"⟩
abbrev cX5_holds : ByteArray := prog_7_method_52_code
def yX5_holds : MethodName := ⟨RX5, "holds", "(II)I"⟩
abbrev cX5_puddlesWith : ByteArray := prog_7_method_53_code
def yX5_puddlesWith : MethodName := ⟨RX5, "puddlesWith", "(I)I"⟩
abbrev cX5_allPermits : ByteArray := prog_7_method_54_code
def yX5_allPermits : MethodName := ⟨RX5, "allPermits", "()I"⟩
abbrev cX5_sumOfWalkers : ByteArray := prog_7_method_55_code
def yX5_sumOfWalkers : MethodName := ⟨RX5, "sumOfWalkers", "(I)I"⟩
abbrev cX5_count : ByteArray := prog_7_method_56_code
def yX5_count : MethodName := ⟨RX5, "count", "(I)I"⟩
abbrev cX5_cost : ByteArray := prog_7_method_57_code
def yX5_cost : MethodName := ⟨RX5, "cost", "(IIII)I"⟩
abbrev cX5_untilDry : ByteArray := prog_7_method_58_code
def yX5_untilDry : MethodName := ⟨RX5, "untilDry", "(I)I"⟩
abbrev cX5_leastShoes : ByteArray := prog_7_method_59_code
def yX5_leastShoes : MethodName := ⟨RX5, "leastShoes", "(I)I"⟩
abbrev cX5_longestWalk : ByteArray := prog_7_method_60_code
def yX5_longestWalk : MethodName := ⟨RX5, "longestWalk", "(II)I"⟩
def RJ6 : String := "java/lang/Integer"
def TJ6 : u_T := fun k => match k with
  | _ => ("", "", "", false)
def tyJ6 : Nat → FieldType := fun k => match k with
  | _ => .int
abbrev wsJ60 : List Cond := u_ws RJ6 TJ6 0
theorem nmJ6 : ∀ a, a < 0 → ∀ b, b < 0 → a ≠ b → (TJ6 a).2.1 ≠ (TJ6 b).2.1 := by decide +kernel
theorem tyJ6_ok : ∀ k, k < 0 → parseFieldDescriptor (TJ6 k).2.2.1 = some (tyJ6 k) := by decide +kernel
abbrev cJ6_bitCount_0f7a4 : ByteArray := prog_8_method_49_code
def yJ6_bitCount_0f7a4 : MethodName := ⟨RJ6, "bitCount", "(I)I"⟩
def RJ9 : String := "java/lang/Math"
def TJ9 : u_T := fun k => match k with
  | _ => ("", "", "", false)
def tyJ9 : Nat → FieldType := fun k => match k with
  | _ => .int
abbrev wsJ90 : List Cond := u_ws RJ9 TJ9 0
theorem nmJ9 : ∀ a, a < 0 → ∀ b, b < 0 → a ≠ b → (TJ9 a).2.1 ≠ (TJ9 b).2.1 := by decide +kernel
theorem tyJ9_ok : ∀ k, k < 0 → parseFieldDescriptor (TJ9 k).2.2.1 = some (tyJ9 k) := by decide +kernel
abbrev cJ9_abs_0f7a4 : ByteArray := prog_9_method_59_code
def yJ9_abs_0f7a4 : MethodName := ⟨RJ9, "abs", "(I)I"⟩
abbrev cJ9_min_7cf53 : ByteArray := prog_9_method_69_code
def yJ9_min_7cf53 : MethodName := ⟨RJ9, "min", "(II)I"⟩
def RL : String := "PuddleMinistriesLaw"
abbrev cL_law : ByteArray := code
def yL_law : MethodName := ⟨RL, "law", "([I)Z"⟩
def wsX3_init : List Cond := .code yX3_init cX3_init 2 none :: ([.methodLink RX3 3 objectInit, .instanceMethod objectInit, .code objectInit ⟨#[0xb1]⟩ 1 none, .arrayClass .int, .fieldLink RX3 9 "PuddleMinistries$Street" "settings" "[I", .fieldLink RX3 15 "PuddleMinistries$Street" "brims" "[I", .fieldLink RX3 18 "PuddleMinistries$Street" "waters" "[I", .fieldLink RX3 21 "PuddleMinistries$Street" "crossingsOf" "[I", .fieldLink RX3 24 "PuddleMinistries$Street" "shoesOf" "[I", .fieldLink RX3 27 "PuddleMinistries$Street" "owedBy" "[I", .fieldLink RX3 30 "PuddleMinistries$Street" "paidBy" "[I", .fieldLink RX3 33 "PuddleMinistries$Street" "crossedBy" "[I", .fieldLink RX3 36 "PuddleMinistries$Street" "permitDays" "[I"] ++ wsX30)
def wsX0_init : List Cond := .code yX0_init cX0_init 2 none :: ([.methodLink RX0 3 objectInit, .instanceMethod objectInit, .code objectInit ⟨#[0xb1]⟩ 1 none, .classLink RX0 9 RX3, .fieldLink RX0 11 "PuddleMinistries$History" "kept" "[LPuddleMinistries$Street;", .instantiable RX3 15, .initialized RX3, .methodLink RX0 17 yX3_init, .instanceMethod yX3_init, .code yX3_init cX3_init 2 none, .methodLink RX3 3 objectInit, .arrayClass .int, .fieldLink RX3 9 "PuddleMinistries$Street" "settings" "[I", .fieldLink RX3 15 "PuddleMinistries$Street" "brims" "[I", .fieldLink RX3 18 "PuddleMinistries$Street" "waters" "[I", .fieldLink RX3 21 "PuddleMinistries$Street" "crossingsOf" "[I", .fieldLink RX3 24 "PuddleMinistries$Street" "shoesOf" "[I", .fieldLink RX3 27 "PuddleMinistries$Street" "owedBy" "[I", .fieldLink RX3 30 "PuddleMinistries$Street" "paidBy" "[I", .fieldLink RX3 33 "PuddleMinistries$Street" "crossedBy" "[I", .fieldLink RX3 36 "PuddleMinistries$Street" "permitDays" "[I"] ++ wsX00 ++ wsX30)
def wsX0_dropOldest : List Cond := .code yX0_dropOldest cX0_dropOldest 3 none :: ([.fieldLink RX0 11 "PuddleMinistries$History" "kept" "[LPuddleMinistries$Street;", .fieldLink RX0 18 "PuddleMinistries$History" "size" "I"] ++ wsX00)
def wsX4_copy : List Cond := .code yX4_copy cX4_copy 3 none :: ([])
def wsX3_copyFrom : List Cond := .code yX3_copyFrom cX3_copyFrom 2 none :: ([.fieldLink RX3 9 "PuddleMinistries$Street" "settings" "[I", .fieldLink RX3 15 "PuddleMinistries$Street" "brims" "[I", .fieldLink RX3 18 "PuddleMinistries$Street" "waters" "[I", .fieldLink RX3 21 "PuddleMinistries$Street" "crossingsOf" "[I", .fieldLink RX3 24 "PuddleMinistries$Street" "shoesOf" "[I", .fieldLink RX3 27 "PuddleMinistries$Street" "owedBy" "[I", .fieldLink RX3 30 "PuddleMinistries$Street" "paidBy" "[I", .fieldLink RX3 33 "PuddleMinistries$Street" "crossedBy" "[I", .fieldLink RX3 36 "PuddleMinistries$Street" "permitDays" "[I", .fieldLink RX3 46 "PuddleMinistries$Street" "frozenSet" "I", .fieldLink RX3 50 "PuddleMinistries$Street" "ducksSet" "I", .fieldLink RX3 53 "PuddleMinistries$Street" "days" "I", .fieldLink RX3 56 "PuddleMinistries$Street" "fell" "I", .fieldLink RX3 59 "PuddleMinistries$Street" "dried" "I", .fieldLink RX3 62 "PuddleMinistries$Street" "drained" "I", .static yX4_copy, .initialized RX4, .code yX4_copy cX4_copy 3 none] ++ wsX30)
def wsX0_record_r1 : List Cond := [Cond.fieldLink RX0 18 "PuddleMinistries$History" "size" "I", Cond.fieldLink RX0 11 "PuddleMinistries$History" "kept" "[LPuddleMinistries$Street;", Cond.methodLink RX0 22 yX0_dropOldest, Cond.instanceMethod yX0_dropOldest, Cond.selects RX0 yX0_dropOldest yX0_dropOldest, Cond.initialized RX0, Cond.code yX0_dropOldest cX0_dropOldest 3 none, Cond.methodLink RX0 25 yX3_copyFrom, Cond.instanceMethod yX3_copyFrom, Cond.selects RX3 yX3_copyFrom yX3_copyFrom, Cond.initialized RX3, Cond.code yX3_copyFrom cX3_copyFrom 2 none, Cond.fieldLink RX3 9 "PuddleMinistries$Street" "settings" "[I", Cond.fieldLink RX3 15 "PuddleMinistries$Street" "brims" "[I", Cond.fieldLink RX3 18 "PuddleMinistries$Street" "waters" "[I", Cond.fieldLink RX3 21 "PuddleMinistries$Street" "crossingsOf" "[I", Cond.fieldLink RX3 24 "PuddleMinistries$Street" "shoesOf" "[I", Cond.fieldLink RX3 27 "PuddleMinistries$Street" "owedBy" "[I", Cond.fieldLink RX3 30 "PuddleMinistries$Street" "paidBy" "[I", Cond.fieldLink RX3 33 "PuddleMinistries$Street" "crossedBy" "[I", Cond.fieldLink RX3 36 "PuddleMinistries$Street" "permitDays" "[I", Cond.fieldLink RX3 46 "PuddleMinistries$Street" "frozenSet" "I", Cond.fieldLink RX3 50 "PuddleMinistries$Street" "ducksSet" "I", Cond.fieldLink RX3 53 "PuddleMinistries$Street" "days" "I"]
def wsX0_record_r2 : List Cond := [Cond.fieldLink RX3 56 "PuddleMinistries$Street" "fell" "I", Cond.fieldLink RX3 59 "PuddleMinistries$Street" "dried" "I", Cond.fieldLink RX3 62 "PuddleMinistries$Street" "drained" "I", Cond.static yX4_copy, Cond.initialized RX4, Cond.code yX4_copy cX4_copy 3 none]
def wsX0_record : List Cond := .code yX0_record cX0_record 2 none :: ((wsX0_record_r1 ++ wsX0_record_r2) ++ wsX00 ++ wsX30)
def wsX0_takeBack_r1 : List Cond := [Cond.fieldLink RX0 18 "PuddleMinistries$History" "size" "I", Cond.fieldLink RX0 11 "PuddleMinistries$History" "kept" "[LPuddleMinistries$Street;", Cond.methodLink RX0 25 yX3_copyFrom, Cond.instanceMethod yX3_copyFrom, Cond.selects RX3 yX3_copyFrom yX3_copyFrom, Cond.initialized RX3, Cond.code yX3_copyFrom cX3_copyFrom 2 none, Cond.fieldLink RX3 9 "PuddleMinistries$Street" "settings" "[I", Cond.fieldLink RX3 15 "PuddleMinistries$Street" "brims" "[I", Cond.fieldLink RX3 18 "PuddleMinistries$Street" "waters" "[I", Cond.fieldLink RX3 21 "PuddleMinistries$Street" "crossingsOf" "[I", Cond.fieldLink RX3 24 "PuddleMinistries$Street" "shoesOf" "[I", Cond.fieldLink RX3 27 "PuddleMinistries$Street" "owedBy" "[I", Cond.fieldLink RX3 30 "PuddleMinistries$Street" "paidBy" "[I", Cond.fieldLink RX3 33 "PuddleMinistries$Street" "crossedBy" "[I", Cond.fieldLink RX3 36 "PuddleMinistries$Street" "permitDays" "[I", Cond.fieldLink RX3 46 "PuddleMinistries$Street" "frozenSet" "I", Cond.fieldLink RX3 50 "PuddleMinistries$Street" "ducksSet" "I", Cond.fieldLink RX3 53 "PuddleMinistries$Street" "days" "I", Cond.fieldLink RX3 56 "PuddleMinistries$Street" "fell" "I", Cond.fieldLink RX3 59 "PuddleMinistries$Street" "dried" "I", Cond.fieldLink RX3 62 "PuddleMinistries$Street" "drained" "I", Cond.static yX4_copy, Cond.initialized RX4]
def wsX0_takeBack_r2 : List Cond := [Cond.code yX4_copy cX4_copy 3 none]
def wsX0_takeBack : List Cond := .code yX0_takeBack cX0_takeBack 2 none :: ((wsX0_takeBack_r1 ++ wsX0_takeBack_r2) ++ wsX00 ++ wsX30)
def wsX1_init : List Cond := .code yX1_init cX1_init 1 none :: ([.methodLink RX1 3 objectInit, .instanceMethod objectInit, .code objectInit ⟨#[0xb1]⟩ 1 none, .arrayClass .char, .fieldLink RX1 11 "PuddleMinistries$Pad" "signs" "[C"] ++ wsX10)
def wsX1_charactersIn : List Cond := .code yX1_charactersIn cX1_charactersIn 7 (some .int) :: ([.constantLong RX1 15 (255), .constantLong RX1 17 (33), .constantLong RX1 19 (126)])
def wsX1_append : List Cond := .code yX1_append cX1_append 5 none :: ([.fieldLink RX1 21 "PuddleMinistries$Pad" "length" "I", .fieldLink RX1 11 "PuddleMinistries$Pad" "signs" "[C", .constantLong RX1 15 (255)] ++ wsX10)
def wsX1_isAmount : List Cond := .code yX1_isAmount cX1_isAmount 1 (some .boolean) :: ([])
def wsX1_beginsHour : List Cond := .code yX1_beginsHour cX1_beginsHour 1 (some .boolean) :: ([])
def wsX1_findFault : List Cond := .code yX1_findFault cX1_findFault 4 (some .int) :: ([.fieldLink RX1 21 "PuddleMinistries$Pad" "length" "I", .fieldLink RX1 11 "PuddleMinistries$Pad" "signs" "[C", .methodLink RX1 25 yX1_isAmount, .static yX1_isAmount, .initialized RX1, .code yX1_isAmount cX1_isAmount 1 (some .boolean), .methodLink RX1 29 yX1_beginsHour, .static yX1_beginsHour, .code yX1_beginsHour cX1_beginsHour 1 (some .boolean)] ++ wsX10)
def wsX1_weatherAt : List Cond := .code yX1_weatherAt cX1_weatherAt 3 (some .int) :: ([.fieldLink RX1 11 "PuddleMinistries$Pad" "signs" "[C", .methodLink RX1 25 yX1_isAmount, .static yX1_isAmount, .initialized RX1, .code yX1_isAmount cX1_isAmount 1 (some .boolean)] ++ wsX10)
def wsX1_daysTold : List Cond := .code yX1_daysTold cX1_daysTold 3 (some .int) :: ([.fieldLink RX1 21 "PuddleMinistries$Pad" "length" "I", .methodLink RX1 32 yX1_weatherAt, .instanceMethod yX1_weatherAt, .selects RX1 yX1_weatherAt yX1_weatherAt, .initialized RX1, .code yX1_weatherAt cX1_weatherAt 3 (some .int), .fieldLink RX1 11 "PuddleMinistries$Pad" "signs" "[C", .methodLink RX1 25 yX1_isAmount, .static yX1_isAmount, .code yX1_isAmount cX1_isAmount 1 (some .boolean)] ++ wsX10)
def wsX2_init : List Cond := .code yX2_init cX2_init 2 none :: ([.methodLink RX2 3 objectInit, .instanceMethod objectInit, .code objectInit ⟨#[0xb1]⟩ 1 none, .classLink RX2 9 RX3, .fieldLink RX2 11 "PuddleMinistries$Slots" "kept" "[LPuddleMinistries$Street;", .arrayClass .boolean, .fieldLink RX2 17 "PuddleMinistries$Slots" "used" "[Z", .instantiable RX3 15, .initialized RX3, .methodLink RX2 21 yX3_init, .instanceMethod yX3_init, .code yX3_init cX3_init 2 none, .methodLink RX3 3 objectInit, .arrayClass .int, .fieldLink RX3 9 "PuddleMinistries$Street" "settings" "[I", .fieldLink RX3 15 "PuddleMinistries$Street" "brims" "[I", .fieldLink RX3 18 "PuddleMinistries$Street" "waters" "[I", .fieldLink RX3 21 "PuddleMinistries$Street" "crossingsOf" "[I", .fieldLink RX3 24 "PuddleMinistries$Street" "shoesOf" "[I", .fieldLink RX3 27 "PuddleMinistries$Street" "owedBy" "[I", .fieldLink RX3 30 "PuddleMinistries$Street" "paidBy" "[I", .fieldLink RX3 33 "PuddleMinistries$Street" "crossedBy" "[I", .fieldLink RX3 36 "PuddleMinistries$Street" "permitDays" "[I"] ++ wsX20 ++ wsX30)
def wsX3_depth : List Cond := .code yX3_depth cX3_depth 2 (some .int) :: ([.fieldLink RX3 18 "PuddleMinistries$Street" "waters" "[I"] ++ wsX30)
def wsX4_isIn : List Cond := .code yX4_isIn cX4_isIn 2 (some .boolean) :: ([])
def wsX3_isFrozen : List Cond := .code yX3_isFrozen cX3_isFrozen 2 (some .boolean) :: ([.fieldLink RX3 46 "PuddleMinistries$Street" "frozenSet" "I", .static yX4_isIn, .initialized RX4, .code yX4_isIn cX4_isIn 2 (some .boolean)] ++ wsX30)
def wsX3_hasDucks : List Cond := .code yX3_hasDucks cX3_hasDucks 2 (some .boolean) :: ([.fieldLink RX3 50 "PuddleMinistries$Street" "ducksSet" "I", .static yX4_isIn, .initialized RX4, .code yX4_isIn cX4_isIn 2 (some .boolean)] ++ wsX30)
def wsX3_thaw : List Cond := .code yX3_thaw cX3_thaw 2 none :: ([.fieldLink RX3 46 "PuddleMinistries$Street" "frozenSet" "I"] ++ wsX30)
def wsX3_drainDownTo : List Cond := .code yX3_drainDownTo cX3_drainDownTo 4 none :: ([.fieldLink RX3 18 "PuddleMinistries$Street" "waters" "[I", .fieldLink RX3 62 "PuddleMinistries$Street" "drained" "I"] ++ wsX30)
def wsX3_shine : List Cond := .code yX3_shine cX3_shine 3 none :: ([.fieldLink RX3 18 "PuddleMinistries$Street" "waters" "[I", .fieldLink RX3 9 "PuddleMinistries$Street" "settings" "[I", .methodLink RX3 86 Lib.Math.min.name, .static Lib.Math.min.name, .initialized "java/lang/Math", .code Lib.Math.min.name Lib.Math.min.code 2 (some .int), .fieldLink RX3 59 "PuddleMinistries$Street" "dried" "I", .fieldLink RX3 46 "PuddleMinistries$Street" "frozenSet" "I", .methodLink RX3 82 yX3_isFrozen, .instanceMethod yX3_isFrozen, .selects RX3 yX3_isFrozen yX3_isFrozen, .initialized RX3, .code yX3_isFrozen cX3_isFrozen 2 (some .boolean), .static yX4_isIn, .initialized RX4, .code yX4_isIn cX4_isIn 2 (some .boolean)] ++ wsX30)
def wsX3_freeze : List Cond := .code yX3_freeze cX3_freeze 2 none :: ([.fieldLink RX3 46 "PuddleMinistries$Street" "frozenSet" "I", .methodLink RX3 92 yX3_depth, .instanceMethod yX3_depth, .selects RX3 yX3_depth yX3_depth, .initialized RX3, .code yX3_depth cX3_depth 2 (some .int), .fieldLink RX3 18 "PuddleMinistries$Street" "waters" "[I"] ++ wsX30)
def wsX4_placeOf : List Cond := .code yX4_placeOf cX4_placeOf 2 (some .int) :: ([])
def wsX3_agePermitsAt : List Cond := .code yX3_agePermitsAt cX3_agePermitsAt 4 none :: ([.fieldLink RX3 36 "PuddleMinistries$Street" "permitDays" "[I", .static yX4_placeOf, .initialized RX4, .code yX4_placeOf cX4_placeOf 2 (some .int)] ++ wsX30)
def wsX3_endDay : List Cond := .code yX3_endDay cX3_endDay 2 none :: ([.fieldLink RX3 50 "PuddleMinistries$Street" "ducksSet" "I", .fieldLink RX3 18 "PuddleMinistries$Street" "waters" "[I", .fieldLink RX3 9 "PuddleMinistries$Street" "settings" "[I", .fieldLink RX3 53 "PuddleMinistries$Street" "days" "I", .methodLink RX3 82 yX3_isFrozen, .instanceMethod yX3_isFrozen, .selects RX3 yX3_isFrozen yX3_isFrozen, .initialized RX3, .code yX3_isFrozen cX3_isFrozen 2 (some .boolean), .fieldLink RX3 46 "PuddleMinistries$Street" "frozenSet" "I", .static yX4_isIn, .initialized RX4, .code yX4_isIn cX4_isIn 2 (some .boolean), .methodLink RX3 96 yX3_agePermitsAt, .instanceMethod yX3_agePermitsAt, .selects RX3 yX3_agePermitsAt yX3_agePermitsAt, .code yX3_agePermitsAt cX3_agePermitsAt 4 none, .fieldLink RX3 36 "PuddleMinistries$Street" "permitDays" "[I", .static yX4_placeOf, .code yX4_placeOf cX4_placeOf 2 (some .int)] ++ wsX30)
def wsX3_rain : List Cond := .code yX3_rain cX3_rain 5 none :: ([.fieldLink RX3 62 "PuddleMinistries$Street" "drained" "I", .fieldLink RX3 56 "PuddleMinistries$Street" "fell" "I", .fieldLink RX3 18 "PuddleMinistries$Street" "waters" "[I", .fieldLink RX3 15 "PuddleMinistries$Street" "brims" "[I", .methodLink RX3 86 Lib.Math.min.name, .static Lib.Math.min.name, .initialized "java/lang/Math", .code Lib.Math.min.name Lib.Math.min.code 2 (some .int), .methodLink RX3 82 yX3_isFrozen, .instanceMethod yX3_isFrozen, .selects RX3 yX3_isFrozen yX3_isFrozen, .initialized RX3, .code yX3_isFrozen cX3_isFrozen 2 (some .boolean), .fieldLink RX3 46 "PuddleMinistries$Street" "frozenSet" "I", .static yX4_isIn, .initialized RX4, .code yX4_isIn cX4_isIn 2 (some .boolean)] ++ wsX30)
def wsX3_letPass_r1 : List Cond := [Cond.methodLink RX3 69 yX3_shine, Cond.instanceMethod yX3_shine, Cond.selects RX3 yX3_shine yX3_shine, Cond.initialized RX3, Cond.code yX3_shine cX3_shine 3 none, Cond.fieldLink RX3 18 "PuddleMinistries$Street" "waters" "[I", Cond.fieldLink RX3 9 "PuddleMinistries$Street" "settings" "[I", Cond.methodLink RX3 86 Lib.Math.min.name, Cond.static Lib.Math.min.name, Cond.initialized "java/lang/Math", Cond.code Lib.Math.min.name Lib.Math.min.code 2 (some .int), Cond.fieldLink RX3 59 "PuddleMinistries$Street" "dried" "I", Cond.fieldLink RX3 46 "PuddleMinistries$Street" "frozenSet" "I", Cond.methodLink RX3 82 yX3_isFrozen, Cond.instanceMethod yX3_isFrozen, Cond.selects RX3 yX3_isFrozen yX3_isFrozen, Cond.code yX3_isFrozen cX3_isFrozen 2 (some .boolean), Cond.static yX4_isIn, Cond.initialized RX4, Cond.code yX4_isIn cX4_isIn 2 (some .boolean), Cond.methodLink RX3 72 yX3_freeze, Cond.instanceMethod yX3_freeze, Cond.selects RX3 yX3_freeze yX3_freeze, Cond.code yX3_freeze cX3_freeze 2 none]
def wsX3_letPass_r2 : List Cond := [Cond.methodLink RX3 92 yX3_depth, Cond.instanceMethod yX3_depth, Cond.selects RX3 yX3_depth yX3_depth, Cond.code yX3_depth cX3_depth 2 (some .int), Cond.methodLink RX3 75 yX3_endDay, Cond.instanceMethod yX3_endDay, Cond.selects RX3 yX3_endDay yX3_endDay, Cond.code yX3_endDay cX3_endDay 2 none, Cond.fieldLink RX3 50 "PuddleMinistries$Street" "ducksSet" "I", Cond.fieldLink RX3 53 "PuddleMinistries$Street" "days" "I", Cond.methodLink RX3 96 yX3_agePermitsAt, Cond.instanceMethod yX3_agePermitsAt, Cond.selects RX3 yX3_agePermitsAt yX3_agePermitsAt, Cond.code yX3_agePermitsAt cX3_agePermitsAt 4 none, Cond.fieldLink RX3 36 "PuddleMinistries$Street" "permitDays" "[I", Cond.static yX4_placeOf, Cond.code yX4_placeOf cX4_placeOf 2 (some .int), Cond.methodLink RX3 78 yX3_rain, Cond.instanceMethod yX3_rain, Cond.selects RX3 yX3_rain yX3_rain, Cond.code yX3_rain cX3_rain 5 none, Cond.fieldLink RX3 62 "PuddleMinistries$Street" "drained" "I", Cond.fieldLink RX3 56 "PuddleMinistries$Street" "fell" "I", Cond.fieldLink RX3 15 "PuddleMinistries$Street" "brims" "[I"]
def wsX3_letPass : List Cond := .code yX3_letPass cX3_letPass 2 none :: ((wsX3_letPass_r1 ++ wsX3_letPass_r2) ++ wsX30)
def wsX3_hasPermit : List Cond := .code yX3_hasPermit cX3_hasPermit 3 (some .boolean) :: ([.fieldLink RX3 36 "PuddleMinistries$Street" "permitDays" "[I", .static yX4_placeOf, .initialized RX4, .code yX4_placeOf cX4_placeOf 2 (some .int)] ++ wsX30)
def wsX3_permitsOf : List Cond := .code yX3_permitsOf cX3_permitsOf 4 (some .int) :: ([.methodLink RX3 102 yX3_hasPermit, .instanceMethod yX3_hasPermit, .selects RX3 yX3_hasPermit yX3_hasPermit, .initialized RX3, .code yX3_hasPermit cX3_hasPermit 3 (some .boolean), .fieldLink RX3 36 "PuddleMinistries$Street" "permitDays" "[I", .static yX4_placeOf, .initialized RX4, .code yX4_placeOf cX4_placeOf 2 (some .int)] ++ wsX30)
def wsX3_permitHoldersAt : List Cond := .code yX3_permitHoldersAt cX3_permitHoldersAt 4 (some .int) :: ([.methodLink RX3 102 yX3_hasPermit, .instanceMethod yX3_hasPermit, .selects RX3 yX3_hasPermit yX3_hasPermit, .initialized RX3, .code yX3_hasPermit cX3_hasPermit 3 (some .boolean), .fieldLink RX3 36 "PuddleMinistries$Street" "permitDays" "[I", .static yX4_placeOf, .initialized RX4, .code yX4_placeOf cX4_placeOf 2 (some .int)] ++ wsX30)
def wsJ6_bitCount_0f7a4 : List Cond := .code yJ6_bitCount_0f7a4 cJ6_bitCount_0f7a4 1 (some .int) :: ([.constant RJ6 265 (1431655765), .constant RJ6 266 (858993459), .constant RJ6 267 (252645135)])
def wsX3_allPermits : List Cond := .code yX3_allPermits cX3_allPermits 3 (some .int) :: ([.methodLink RX3 105 yX3_permitsOf, .instanceMethod yX3_permitsOf, .selects RX3 yX3_permitsOf yX3_permitsOf, .initialized RX3, .code yX3_permitsOf cX3_permitsOf 4 (some .int), .methodLink RX3 102 yX3_hasPermit, .instanceMethod yX3_hasPermit, .selects RX3 yX3_hasPermit yX3_hasPermit, .code yX3_hasPermit cX3_hasPermit 3 (some .boolean), .fieldLink RX3 36 "PuddleMinistries$Street" "permitDays" "[I", .static yX4_placeOf, .initialized RX4, .code yX4_placeOf cX4_placeOf 2 (some .int), .methodLink RX3 108 yJ6_bitCount_0f7a4, .static yJ6_bitCount_0f7a4, .initialized RJ6, .code yJ6_bitCount_0f7a4 cJ6_bitCount_0f7a4 1 (some .int), .constant RJ6 265 (1431655765), .constant RJ6 266 (858993459), .constant RJ6 267 (252645135)] ++ wsX30)
def wsX3_depthKeptOut : List Cond := .code yX3_depthKeptOut cX3_depthKeptOut 1 (some .int) :: ([])
def wsX3_reasonAgainst_r1 : List Cond := [Cond.methodLink RX3 113 yX3_hasDucks, Cond.instanceMethod yX3_hasDucks, Cond.selects RX3 yX3_hasDucks yX3_hasDucks, Cond.initialized RX3, Cond.code yX3_hasDucks cX3_hasDucks 2 (some .boolean), Cond.fieldLink RX3 50 "PuddleMinistries$Street" "ducksSet" "I", Cond.static yX4_isIn, Cond.initialized RX4, Cond.code yX4_isIn cX4_isIn 2 (some .boolean), Cond.methodLink RX3 102 yX3_hasPermit, Cond.instanceMethod yX3_hasPermit, Cond.selects RX3 yX3_hasPermit yX3_hasPermit, Cond.code yX3_hasPermit cX3_hasPermit 3 (some .boolean), Cond.fieldLink RX3 36 "PuddleMinistries$Street" "permitDays" "[I", Cond.static yX4_placeOf, Cond.code yX4_placeOf cX4_placeOf 2 (some .int), Cond.methodLink RX3 92 yX3_depth, Cond.instanceMethod yX3_depth, Cond.selects RX3 yX3_depth yX3_depth, Cond.code yX3_depth cX3_depth 2 (some .int), Cond.fieldLink RX3 18 "PuddleMinistries$Street" "waters" "[I", Cond.methodLink RX3 82 yX3_isFrozen, Cond.instanceMethod yX3_isFrozen, Cond.selects RX3 yX3_isFrozen yX3_isFrozen]
def wsX3_reasonAgainst_r2 : List Cond := [Cond.code yX3_isFrozen cX3_isFrozen 2 (some .boolean), Cond.fieldLink RX3 46 "PuddleMinistries$Street" "frozenSet" "I", Cond.methodLink RX3 116 yX3_depthKeptOut, Cond.static yX3_depthKeptOut, Cond.code yX3_depthKeptOut cX3_depthKeptOut 1 (some .int)]
def wsX3_reasonAgainst : List Cond := .code yX3_reasonAgainst cX3_reasonAgainst 5 (some .int) :: ((wsX3_reasonAgainst_r1 ++ wsX3_reasonAgainst_r2) ++ wsX30)
def wsX3_mayCross_r1 : List Cond := [Cond.fieldLink RX3 24 "PuddleMinistries$Street" "shoesOf" "[I", Cond.methodLink RX3 119 yX3_reasonAgainst, Cond.instanceMethod yX3_reasonAgainst, Cond.selects RX3 yX3_reasonAgainst yX3_reasonAgainst, Cond.initialized RX3, Cond.code yX3_reasonAgainst cX3_reasonAgainst 5 (some .int), Cond.methodLink RX3 113 yX3_hasDucks, Cond.instanceMethod yX3_hasDucks, Cond.selects RX3 yX3_hasDucks yX3_hasDucks, Cond.code yX3_hasDucks cX3_hasDucks 2 (some .boolean), Cond.fieldLink RX3 50 "PuddleMinistries$Street" "ducksSet" "I", Cond.static yX4_isIn, Cond.initialized RX4, Cond.code yX4_isIn cX4_isIn 2 (some .boolean), Cond.methodLink RX3 102 yX3_hasPermit, Cond.instanceMethod yX3_hasPermit, Cond.selects RX3 yX3_hasPermit yX3_hasPermit, Cond.code yX3_hasPermit cX3_hasPermit 3 (some .boolean), Cond.fieldLink RX3 36 "PuddleMinistries$Street" "permitDays" "[I", Cond.static yX4_placeOf, Cond.code yX4_placeOf cX4_placeOf 2 (some .int), Cond.methodLink RX3 92 yX3_depth, Cond.instanceMethod yX3_depth, Cond.selects RX3 yX3_depth yX3_depth]
def wsX3_mayCross_r2 : List Cond := [Cond.code yX3_depth cX3_depth 2 (some .int), Cond.fieldLink RX3 18 "PuddleMinistries$Street" "waters" "[I", Cond.methodLink RX3 82 yX3_isFrozen, Cond.instanceMethod yX3_isFrozen, Cond.selects RX3 yX3_isFrozen yX3_isFrozen, Cond.code yX3_isFrozen cX3_isFrozen 2 (some .boolean), Cond.fieldLink RX3 46 "PuddleMinistries$Street" "frozenSet" "I", Cond.methodLink RX3 116 yX3_depthKeptOut, Cond.static yX3_depthKeptOut, Cond.code yX3_depthKeptOut cX3_depthKeptOut 1 (some .int)]
def wsX3_mayCross : List Cond := .code yX3_mayCross cX3_mayCross 3 (some .boolean) :: ((wsX3_mayCross_r1 ++ wsX3_mayCross_r2) ++ wsX30)
def wsX3_allowedFor_r1 : List Cond := [Cond.methodLink RX3 123 yX3_mayCross, Cond.instanceMethod yX3_mayCross, Cond.selects RX3 yX3_mayCross yX3_mayCross, Cond.initialized RX3, Cond.code yX3_mayCross cX3_mayCross 3 (some .boolean), Cond.fieldLink RX3 24 "PuddleMinistries$Street" "shoesOf" "[I", Cond.methodLink RX3 119 yX3_reasonAgainst, Cond.instanceMethod yX3_reasonAgainst, Cond.selects RX3 yX3_reasonAgainst yX3_reasonAgainst, Cond.code yX3_reasonAgainst cX3_reasonAgainst 5 (some .int), Cond.methodLink RX3 113 yX3_hasDucks, Cond.instanceMethod yX3_hasDucks, Cond.selects RX3 yX3_hasDucks yX3_hasDucks, Cond.code yX3_hasDucks cX3_hasDucks 2 (some .boolean), Cond.fieldLink RX3 50 "PuddleMinistries$Street" "ducksSet" "I", Cond.static yX4_isIn, Cond.initialized RX4, Cond.code yX4_isIn cX4_isIn 2 (some .boolean), Cond.methodLink RX3 102 yX3_hasPermit, Cond.instanceMethod yX3_hasPermit, Cond.selects RX3 yX3_hasPermit yX3_hasPermit, Cond.code yX3_hasPermit cX3_hasPermit 3 (some .boolean), Cond.fieldLink RX3 36 "PuddleMinistries$Street" "permitDays" "[I", Cond.static yX4_placeOf]
def wsX3_allowedFor_r2 : List Cond := [Cond.code yX4_placeOf cX4_placeOf 2 (some .int), Cond.methodLink RX3 92 yX3_depth, Cond.instanceMethod yX3_depth, Cond.selects RX3 yX3_depth yX3_depth, Cond.code yX3_depth cX3_depth 2 (some .int), Cond.fieldLink RX3 18 "PuddleMinistries$Street" "waters" "[I", Cond.methodLink RX3 82 yX3_isFrozen, Cond.instanceMethod yX3_isFrozen, Cond.selects RX3 yX3_isFrozen yX3_isFrozen, Cond.code yX3_isFrozen cX3_isFrozen 2 (some .boolean), Cond.fieldLink RX3 46 "PuddleMinistries$Street" "frozenSet" "I", Cond.methodLink RX3 116 yX3_depthKeptOut, Cond.static yX3_depthKeptOut, Cond.code yX3_depthKeptOut cX3_depthKeptOut 1 (some .int)]
def wsX3_allowedFor : List Cond := .code yX3_allowedFor cX3_allowedFor 4 (some .int) :: ((wsX3_allowedFor_r1 ++ wsX3_allowedFor_r2) ++ wsX30)
def wsX3_allowsAllWith_r1 : List Cond := [Cond.methodLink RX3 119 yX3_reasonAgainst, Cond.instanceMethod yX3_reasonAgainst, Cond.selects RX3 yX3_reasonAgainst yX3_reasonAgainst, Cond.initialized RX3, Cond.code yX3_reasonAgainst cX3_reasonAgainst 5 (some .int), Cond.methodLink RX3 113 yX3_hasDucks, Cond.instanceMethod yX3_hasDucks, Cond.selects RX3 yX3_hasDucks yX3_hasDucks, Cond.code yX3_hasDucks cX3_hasDucks 2 (some .boolean), Cond.fieldLink RX3 50 "PuddleMinistries$Street" "ducksSet" "I", Cond.static yX4_isIn, Cond.initialized RX4, Cond.code yX4_isIn cX4_isIn 2 (some .boolean), Cond.methodLink RX3 102 yX3_hasPermit, Cond.instanceMethod yX3_hasPermit, Cond.selects RX3 yX3_hasPermit yX3_hasPermit, Cond.code yX3_hasPermit cX3_hasPermit 3 (some .boolean), Cond.fieldLink RX3 36 "PuddleMinistries$Street" "permitDays" "[I", Cond.static yX4_placeOf, Cond.code yX4_placeOf cX4_placeOf 2 (some .int), Cond.methodLink RX3 92 yX3_depth, Cond.instanceMethod yX3_depth, Cond.selects RX3 yX3_depth yX3_depth, Cond.code yX3_depth cX3_depth 2 (some .int)]
def wsX3_allowsAllWith_r2 : List Cond := [Cond.fieldLink RX3 18 "PuddleMinistries$Street" "waters" "[I", Cond.methodLink RX3 82 yX3_isFrozen, Cond.instanceMethod yX3_isFrozen, Cond.selects RX3 yX3_isFrozen yX3_isFrozen, Cond.code yX3_isFrozen cX3_isFrozen 2 (some .boolean), Cond.fieldLink RX3 46 "PuddleMinistries$Street" "frozenSet" "I", Cond.methodLink RX3 116 yX3_depthKeptOut, Cond.static yX3_depthKeptOut, Cond.code yX3_depthKeptOut cX3_depthKeptOut 1 (some .int)]
def wsX3_allowsAllWith : List Cond := .code yX3_allowsAllWith cX3_allowsAllWith 4 (some .boolean) :: ((wsX3_allowsAllWith_r1 ++ wsX3_allowsAllWith_r2) ++ wsX30)
def wsX3_dutyAt : List Cond := .code yX3_dutyAt cX3_dutyAt 2 (some .int) :: ([.fieldLink RX3 9 "PuddleMinistries$Street" "settings" "[I", .methodLink RX3 82 yX3_isFrozen, .instanceMethod yX3_isFrozen, .selects RX3 yX3_isFrozen yX3_isFrozen, .initialized RX3, .code yX3_isFrozen cX3_isFrozen 2 (some .boolean), .fieldLink RX3 46 "PuddleMinistries$Street" "frozenSet" "I", .static yX4_isIn, .initialized RX4, .code yX4_isIn cX4_isIn 2 (some .boolean), .methodLink RX3 92 yX3_depth, .instanceMethod yX3_depth, .selects RX3 yX3_depth yX3_depth, .code yX3_depth cX3_depth 2 (some .int), .fieldLink RX3 18 "PuddleMinistries$Street" "waters" "[I"] ++ wsX30)
def wsX3_cross : List Cond := .code yX3_cross cX3_cross 3 none :: ([.fieldLink RX3 27 "PuddleMinistries$Street" "owedBy" "[I", .fieldLink RX3 33 "PuddleMinistries$Street" "crossedBy" "[I", .fieldLink RX3 21 "PuddleMinistries$Street" "crossingsOf" "[I", .methodLink RX3 126 yX3_dutyAt, .instanceMethod yX3_dutyAt, .selects RX3 yX3_dutyAt yX3_dutyAt, .initialized RX3, .code yX3_dutyAt cX3_dutyAt 2 (some .int), .fieldLink RX3 9 "PuddleMinistries$Street" "settings" "[I", .methodLink RX3 82 yX3_isFrozen, .instanceMethod yX3_isFrozen, .selects RX3 yX3_isFrozen yX3_isFrozen, .code yX3_isFrozen cX3_isFrozen 2 (some .boolean), .fieldLink RX3 46 "PuddleMinistries$Street" "frozenSet" "I", .static yX4_isIn, .initialized RX4, .code yX4_isIn cX4_isIn 2 (some .boolean), .methodLink RX3 92 yX3_depth, .instanceMethod yX3_depth, .selects RX3 yX3_depth yX3_depth, .code yX3_depth cX3_depth 2 (some .int), .fieldLink RX3 18 "PuddleMinistries$Street" "waters" "[I"] ++ wsX30)
def wsX4_placeAfter : List Cond := .code yX4_placeAfter cX4_placeAfter 3 (some .int) :: ([])
def wsX3_stepsUntilBlocked_r1 : List Cond := [Cond.methodLink RX3 129 Lib.Math.abs.name, Cond.static Lib.Math.abs.name, Cond.initialized "java/lang/Math", Cond.code Lib.Math.abs.name Lib.Math.abs.code 1 (some .int), Cond.static yX4_placeAfter, Cond.initialized RX4, Cond.code yX4_placeAfter cX4_placeAfter 3 (some .int), Cond.methodLink RX3 123 yX3_mayCross, Cond.instanceMethod yX3_mayCross, Cond.selects RX3 yX3_mayCross yX3_mayCross, Cond.initialized RX3, Cond.code yX3_mayCross cX3_mayCross 3 (some .boolean), Cond.fieldLink RX3 24 "PuddleMinistries$Street" "shoesOf" "[I", Cond.methodLink RX3 119 yX3_reasonAgainst, Cond.instanceMethod yX3_reasonAgainst, Cond.selects RX3 yX3_reasonAgainst yX3_reasonAgainst, Cond.code yX3_reasonAgainst cX3_reasonAgainst 5 (some .int), Cond.methodLink RX3 113 yX3_hasDucks, Cond.instanceMethod yX3_hasDucks, Cond.selects RX3 yX3_hasDucks yX3_hasDucks, Cond.code yX3_hasDucks cX3_hasDucks 2 (some .boolean), Cond.fieldLink RX3 50 "PuddleMinistries$Street" "ducksSet" "I", Cond.static yX4_isIn, Cond.code yX4_isIn cX4_isIn 2 (some .boolean)]
def wsX3_stepsUntilBlocked_r2 : List Cond := [Cond.methodLink RX3 102 yX3_hasPermit, Cond.instanceMethod yX3_hasPermit, Cond.selects RX3 yX3_hasPermit yX3_hasPermit, Cond.code yX3_hasPermit cX3_hasPermit 3 (some .boolean), Cond.fieldLink RX3 36 "PuddleMinistries$Street" "permitDays" "[I", Cond.static yX4_placeOf, Cond.code yX4_placeOf cX4_placeOf 2 (some .int), Cond.methodLink RX3 92 yX3_depth, Cond.instanceMethod yX3_depth, Cond.selects RX3 yX3_depth yX3_depth, Cond.code yX3_depth cX3_depth 2 (some .int), Cond.fieldLink RX3 18 "PuddleMinistries$Street" "waters" "[I", Cond.methodLink RX3 82 yX3_isFrozen, Cond.instanceMethod yX3_isFrozen, Cond.selects RX3 yX3_isFrozen yX3_isFrozen, Cond.code yX3_isFrozen cX3_isFrozen 2 (some .boolean), Cond.fieldLink RX3 46 "PuddleMinistries$Street" "frozenSet" "I", Cond.methodLink RX3 116 yX3_depthKeptOut, Cond.static yX3_depthKeptOut, Cond.code yX3_depthKeptOut cX3_depthKeptOut 1 (some .int)]
def wsX3_stepsUntilBlocked : List Cond := .code yX3_stepsUntilBlocked cX3_stepsUntilBlocked 6 (some .int) :: ((wsX3_stepsUntilBlocked_r1 ++ wsX3_stepsUntilBlocked_r2) ++ wsX30)
def wsX3_costBySteps_r1 : List Cond := [Cond.methodLink RX3 129 Lib.Math.abs.name, Cond.static Lib.Math.abs.name, Cond.initialized "java/lang/Math", Cond.code Lib.Math.abs.name Lib.Math.abs.code 1 (some .int), Cond.static yX4_placeAfter, Cond.initialized RX4, Cond.code yX4_placeAfter cX4_placeAfter 3 (some .int), Cond.methodLink RX3 123 yX3_mayCross, Cond.instanceMethod yX3_mayCross, Cond.selects RX3 yX3_mayCross yX3_mayCross, Cond.initialized RX3, Cond.code yX3_mayCross cX3_mayCross 3 (some .boolean), Cond.fieldLink RX3 24 "PuddleMinistries$Street" "shoesOf" "[I", Cond.methodLink RX3 119 yX3_reasonAgainst, Cond.instanceMethod yX3_reasonAgainst, Cond.selects RX3 yX3_reasonAgainst yX3_reasonAgainst, Cond.code yX3_reasonAgainst cX3_reasonAgainst 5 (some .int), Cond.methodLink RX3 113 yX3_hasDucks, Cond.instanceMethod yX3_hasDucks, Cond.selects RX3 yX3_hasDucks yX3_hasDucks, Cond.code yX3_hasDucks cX3_hasDucks 2 (some .boolean), Cond.fieldLink RX3 50 "PuddleMinistries$Street" "ducksSet" "I", Cond.static yX4_isIn, Cond.code yX4_isIn cX4_isIn 2 (some .boolean)]
def wsX3_costBySteps_r2 : List Cond := [Cond.methodLink RX3 102 yX3_hasPermit, Cond.instanceMethod yX3_hasPermit, Cond.selects RX3 yX3_hasPermit yX3_hasPermit, Cond.code yX3_hasPermit cX3_hasPermit 3 (some .boolean), Cond.fieldLink RX3 36 "PuddleMinistries$Street" "permitDays" "[I", Cond.static yX4_placeOf, Cond.code yX4_placeOf cX4_placeOf 2 (some .int), Cond.methodLink RX3 92 yX3_depth, Cond.instanceMethod yX3_depth, Cond.selects RX3 yX3_depth yX3_depth, Cond.code yX3_depth cX3_depth 2 (some .int), Cond.fieldLink RX3 18 "PuddleMinistries$Street" "waters" "[I", Cond.methodLink RX3 82 yX3_isFrozen, Cond.instanceMethod yX3_isFrozen, Cond.selects RX3 yX3_isFrozen yX3_isFrozen, Cond.code yX3_isFrozen cX3_isFrozen 2 (some .boolean), Cond.fieldLink RX3 46 "PuddleMinistries$Street" "frozenSet" "I", Cond.methodLink RX3 116 yX3_depthKeptOut, Cond.static yX3_depthKeptOut, Cond.code yX3_depthKeptOut cX3_depthKeptOut 1 (some .int), Cond.methodLink RX3 126 yX3_dutyAt, Cond.instanceMethod yX3_dutyAt, Cond.selects RX3 yX3_dutyAt yX3_dutyAt, Cond.code yX3_dutyAt cX3_dutyAt 2 (some .int)]
def wsX3_costBySteps_r3 : List Cond := [Cond.fieldLink RX3 9 "PuddleMinistries$Street" "settings" "[I"]
def wsX3_costBySteps : List Cond := .code yX3_costBySteps cX3_costBySteps 8 (some .int) :: ((wsX3_costBySteps_r1 ++ (wsX3_costBySteps_r2 ++ wsX3_costBySteps_r3)) ++ wsX30)
def wsX3_costByBlock_r1 : List Cond := [Cond.methodLink RX3 135 yX3_stepsUntilBlocked, Cond.instanceMethod yX3_stepsUntilBlocked, Cond.selects RX3 yX3_stepsUntilBlocked yX3_stepsUntilBlocked, Cond.initialized RX3, Cond.code yX3_stepsUntilBlocked cX3_stepsUntilBlocked 6 (some .int), Cond.methodLink RX3 129 Lib.Math.abs.name, Cond.static Lib.Math.abs.name, Cond.initialized "java/lang/Math", Cond.code Lib.Math.abs.name Lib.Math.abs.code 1 (some .int), Cond.static yX4_placeAfter, Cond.initialized RX4, Cond.code yX4_placeAfter cX4_placeAfter 3 (some .int), Cond.methodLink RX3 123 yX3_mayCross, Cond.instanceMethod yX3_mayCross, Cond.selects RX3 yX3_mayCross yX3_mayCross, Cond.code yX3_mayCross cX3_mayCross 3 (some .boolean), Cond.fieldLink RX3 24 "PuddleMinistries$Street" "shoesOf" "[I", Cond.methodLink RX3 119 yX3_reasonAgainst, Cond.instanceMethod yX3_reasonAgainst, Cond.selects RX3 yX3_reasonAgainst yX3_reasonAgainst, Cond.code yX3_reasonAgainst cX3_reasonAgainst 5 (some .int), Cond.methodLink RX3 113 yX3_hasDucks, Cond.instanceMethod yX3_hasDucks, Cond.selects RX3 yX3_hasDucks yX3_hasDucks]
def wsX3_costByBlock_r2 : List Cond := [Cond.code yX3_hasDucks cX3_hasDucks 2 (some .boolean), Cond.fieldLink RX3 50 "PuddleMinistries$Street" "ducksSet" "I", Cond.static yX4_isIn, Cond.code yX4_isIn cX4_isIn 2 (some .boolean), Cond.methodLink RX3 102 yX3_hasPermit, Cond.instanceMethod yX3_hasPermit, Cond.selects RX3 yX3_hasPermit yX3_hasPermit, Cond.code yX3_hasPermit cX3_hasPermit 3 (some .boolean), Cond.fieldLink RX3 36 "PuddleMinistries$Street" "permitDays" "[I", Cond.static yX4_placeOf, Cond.code yX4_placeOf cX4_placeOf 2 (some .int), Cond.methodLink RX3 92 yX3_depth, Cond.instanceMethod yX3_depth, Cond.selects RX3 yX3_depth yX3_depth, Cond.code yX3_depth cX3_depth 2 (some .int), Cond.fieldLink RX3 18 "PuddleMinistries$Street" "waters" "[I", Cond.methodLink RX3 82 yX3_isFrozen, Cond.instanceMethod yX3_isFrozen, Cond.selects RX3 yX3_isFrozen yX3_isFrozen, Cond.code yX3_isFrozen cX3_isFrozen 2 (some .boolean), Cond.fieldLink RX3 46 "PuddleMinistries$Street" "frozenSet" "I", Cond.methodLink RX3 116 yX3_depthKeptOut, Cond.static yX3_depthKeptOut, Cond.code yX3_depthKeptOut cX3_depthKeptOut 1 (some .int)]
def wsX3_costByBlock_r3 : List Cond := [Cond.methodLink RX3 126 yX3_dutyAt, Cond.instanceMethod yX3_dutyAt, Cond.selects RX3 yX3_dutyAt yX3_dutyAt, Cond.code yX3_dutyAt cX3_dutyAt 2 (some .int), Cond.fieldLink RX3 9 "PuddleMinistries$Street" "settings" "[I"]
def wsX3_costByBlock : List Cond := .code yX3_costByBlock cX3_costByBlock 7 (some .int) :: ((wsX3_costByBlock_r1 ++ (wsX3_costByBlock_r2 ++ wsX3_costByBlock_r3)) ++ wsX30)
def wsX4_init_r1 : List Cond := [Cond.methodLink RX4 1 objectInit, Cond.instanceMethod objectInit, Cond.code objectInit ⟨#[0xb1]⟩ 1 none, Cond.classLink RX4 7 RX3, Cond.instantiable RX3 15, Cond.initialized RX3, Cond.fieldLink RX4 10 "PuddleMinistries" "street" "LPuddleMinistries$Street;", Cond.classLink RX4 16 RX1, Cond.instantiable RX1 2, Cond.initialized RX1, Cond.fieldLink RX4 19 "PuddleMinistries" "pad" "LPuddleMinistries$Pad;", Cond.classLink RX4 23 RX0, Cond.instantiable RX0 2, Cond.initialized RX0, Cond.fieldLink RX4 26 "PuddleMinistries" "history" "LPuddleMinistries$History;", Cond.classLink RX4 30 RX2, Cond.instantiable RX2 2, Cond.initialized RX2, Cond.fieldLink RX4 33 "PuddleMinistries" "slots" "LPuddleMinistries$Slots;", Cond.methodLink RX4 9 yX3_init, Cond.instanceMethod yX3_init, Cond.code yX3_init cX3_init 2 none, Cond.methodLink RX3 3 objectInit, Cond.arrayClass .int]
def wsX4_init_r2 : List Cond := [Cond.fieldLink RX3 9 "PuddleMinistries$Street" "settings" "[I", Cond.fieldLink RX3 15 "PuddleMinistries$Street" "brims" "[I", Cond.fieldLink RX3 18 "PuddleMinistries$Street" "waters" "[I", Cond.fieldLink RX3 21 "PuddleMinistries$Street" "crossingsOf" "[I", Cond.fieldLink RX3 24 "PuddleMinistries$Street" "shoesOf" "[I", Cond.fieldLink RX3 27 "PuddleMinistries$Street" "owedBy" "[I", Cond.fieldLink RX3 30 "PuddleMinistries$Street" "paidBy" "[I", Cond.fieldLink RX3 33 "PuddleMinistries$Street" "crossedBy" "[I", Cond.fieldLink RX3 36 "PuddleMinistries$Street" "permitDays" "[I", Cond.instanceMethod yX1_init, Cond.code yX1_init cX1_init 1 none, Cond.methodLink RX1 3 objectInit, Cond.arrayClass .char, Cond.fieldLink RX1 11 "PuddleMinistries$Pad" "signs" "[C", Cond.methodLink RX4 25 yX0_init, Cond.instanceMethod yX0_init, Cond.code yX0_init cX0_init 2 none, Cond.methodLink RX0 3 objectInit, Cond.classLink RX0 9 RX3, Cond.fieldLink RX0 11 "PuddleMinistries$History" "kept" "[LPuddleMinistries$Street;", Cond.methodLink RX0 17 yX3_init, Cond.methodLink RX4 32 yX2_init, Cond.instanceMethod yX2_init, Cond.code yX2_init cX2_init 2 none]
def wsX4_init_r3 : List Cond := [Cond.methodLink RX2 3 objectInit, Cond.classLink RX2 9 RX3, Cond.fieldLink RX2 11 "PuddleMinistries$Slots" "kept" "[LPuddleMinistries$Street;", Cond.arrayClass .boolean, Cond.fieldLink RX2 17 "PuddleMinistries$Slots" "used" "[Z", Cond.methodLink RX2 21 yX3_init]
def wsX4_init : List Cond := .code yX4_init cX4_init 1 none :: ((wsX4_init_r1 ++ (wsX4_init_r2 ++ wsX4_init_r3)) ++ wsX30 ++ wsX40 ++ wsX10 ++ wsX00 ++ wsX20)
def wsX4_set_r1 : List Cond := [Cond.fieldLink RX4 37 "PuddleMinistries" "LEAST_SETTING" "[I", Cond.fieldLink RX4 41 "PuddleMinistries" "MOST_SETTING" "[I", Cond.fieldLink RX4 26 "PuddleMinistries" "history" "LPuddleMinistries$History;", Cond.fieldLink RX4 10 "PuddleMinistries" "street" "LPuddleMinistries$Street;", Cond.fieldLink RX4 48 "PuddleMinistries$Street" "settings" "[I", Cond.methodLink RX4 44 yX0_record, Cond.instanceMethod yX0_record, Cond.selects RX0 yX0_record yX0_record, Cond.initialized RX0, Cond.code yX0_record cX0_record 2 none, Cond.fieldLink RX0 18 "PuddleMinistries$History" "size" "I", Cond.fieldLink RX0 11 "PuddleMinistries$History" "kept" "[LPuddleMinistries$Street;", Cond.methodLink RX0 22 yX0_dropOldest, Cond.instanceMethod yX0_dropOldest, Cond.selects RX0 yX0_dropOldest yX0_dropOldest, Cond.code yX0_dropOldest cX0_dropOldest 3 none, Cond.methodLink RX0 25 yX3_copyFrom, Cond.instanceMethod yX3_copyFrom, Cond.selects RX3 yX3_copyFrom yX3_copyFrom, Cond.initialized RX3, Cond.code yX3_copyFrom cX3_copyFrom 2 none, Cond.fieldLink RX3 9 "PuddleMinistries$Street" "settings" "[I", Cond.fieldLink RX3 15 "PuddleMinistries$Street" "brims" "[I", Cond.fieldLink RX3 18 "PuddleMinistries$Street" "waters" "[I"]
def wsX4_set_r2 : List Cond := [Cond.fieldLink RX3 21 "PuddleMinistries$Street" "crossingsOf" "[I", Cond.fieldLink RX3 24 "PuddleMinistries$Street" "shoesOf" "[I", Cond.fieldLink RX3 27 "PuddleMinistries$Street" "owedBy" "[I", Cond.fieldLink RX3 30 "PuddleMinistries$Street" "paidBy" "[I", Cond.fieldLink RX3 33 "PuddleMinistries$Street" "crossedBy" "[I", Cond.fieldLink RX3 36 "PuddleMinistries$Street" "permitDays" "[I", Cond.fieldLink RX3 46 "PuddleMinistries$Street" "frozenSet" "I", Cond.fieldLink RX3 50 "PuddleMinistries$Street" "ducksSet" "I", Cond.fieldLink RX3 53 "PuddleMinistries$Street" "days" "I", Cond.fieldLink RX3 56 "PuddleMinistries$Street" "fell" "I", Cond.fieldLink RX3 59 "PuddleMinistries$Street" "dried" "I", Cond.fieldLink RX3 62 "PuddleMinistries$Street" "drained" "I", Cond.static yX4_copy, Cond.initialized RX4, Cond.code yX4_copy cX4_copy 3 none]
def wsX4_set : List Cond := .code yX4_set cX4_set 4 (some .int) :: ((wsX4_set_r1 ++ wsX4_set_r2) ++ wsX40 ++ wsX30 ++ wsX00)
def wsX4_isPuddle : List Cond := .code yX4_isPuddle cX4_isPuddle 1 (some .boolean) :: ([])
def wsX4_brim_r1 : List Cond := [Cond.fieldLink RX4 26 "PuddleMinistries" "history" "LPuddleMinistries$History;", Cond.fieldLink RX4 10 "PuddleMinistries" "street" "LPuddleMinistries$Street;", Cond.fieldLink RX4 55 "PuddleMinistries$Street" "brims" "[I", Cond.methodLink RX4 51 yX4_isPuddle, Cond.static yX4_isPuddle, Cond.initialized RX4, Cond.code yX4_isPuddle cX4_isPuddle 1 (some .boolean), Cond.methodLink RX4 44 yX0_record, Cond.instanceMethod yX0_record, Cond.selects RX0 yX0_record yX0_record, Cond.initialized RX0, Cond.code yX0_record cX0_record 2 none, Cond.fieldLink RX0 18 "PuddleMinistries$History" "size" "I", Cond.fieldLink RX0 11 "PuddleMinistries$History" "kept" "[LPuddleMinistries$Street;", Cond.methodLink RX0 22 yX0_dropOldest, Cond.instanceMethod yX0_dropOldest, Cond.selects RX0 yX0_dropOldest yX0_dropOldest, Cond.code yX0_dropOldest cX0_dropOldest 3 none, Cond.methodLink RX0 25 yX3_copyFrom, Cond.instanceMethod yX3_copyFrom, Cond.selects RX3 yX3_copyFrom yX3_copyFrom, Cond.initialized RX3, Cond.code yX3_copyFrom cX3_copyFrom 2 none, Cond.fieldLink RX3 9 "PuddleMinistries$Street" "settings" "[I"]
def wsX4_brim_r2 : List Cond := [Cond.fieldLink RX3 15 "PuddleMinistries$Street" "brims" "[I", Cond.fieldLink RX3 18 "PuddleMinistries$Street" "waters" "[I", Cond.fieldLink RX3 21 "PuddleMinistries$Street" "crossingsOf" "[I", Cond.fieldLink RX3 24 "PuddleMinistries$Street" "shoesOf" "[I", Cond.fieldLink RX3 27 "PuddleMinistries$Street" "owedBy" "[I", Cond.fieldLink RX3 30 "PuddleMinistries$Street" "paidBy" "[I", Cond.fieldLink RX3 33 "PuddleMinistries$Street" "crossedBy" "[I", Cond.fieldLink RX3 36 "PuddleMinistries$Street" "permitDays" "[I", Cond.fieldLink RX3 46 "PuddleMinistries$Street" "frozenSet" "I", Cond.fieldLink RX3 50 "PuddleMinistries$Street" "ducksSet" "I", Cond.fieldLink RX3 53 "PuddleMinistries$Street" "days" "I", Cond.fieldLink RX3 56 "PuddleMinistries$Street" "fell" "I", Cond.fieldLink RX3 59 "PuddleMinistries$Street" "dried" "I", Cond.fieldLink RX3 62 "PuddleMinistries$Street" "drained" "I", Cond.static yX4_copy, Cond.code yX4_copy cX4_copy 3 none, Cond.methodLink RX4 58 yX3_drainDownTo, Cond.instanceMethod yX3_drainDownTo, Cond.selects RX3 yX3_drainDownTo yX3_drainDownTo, Cond.code yX3_drainDownTo cX3_drainDownTo 4 none]
def wsX4_brim : List Cond := .code yX4_brim cX4_brim 4 (some .int) :: ((wsX4_brim_r1 ++ wsX4_brim_r2) ++ wsX40 ++ wsX30 ++ wsX00)
def wsX4_drain_r1 : List Cond := [Cond.fieldLink RX4 10 "PuddleMinistries" "street" "LPuddleMinistries$Street;", Cond.fieldLink RX4 26 "PuddleMinistries" "history" "LPuddleMinistries$History;", Cond.fieldLink RX4 65 "PuddleMinistries$Street" "waters" "[I", Cond.methodLink RX4 51 yX4_isPuddle, Cond.static yX4_isPuddle, Cond.initialized RX4, Cond.code yX4_isPuddle cX4_isPuddle 1 (some .boolean), Cond.methodLink RX4 62 yX3_hasDucks, Cond.instanceMethod yX3_hasDucks, Cond.selects RX3 yX3_hasDucks yX3_hasDucks, Cond.initialized RX3, Cond.code yX3_hasDucks cX3_hasDucks 2 (some .boolean), Cond.fieldLink RX3 50 "PuddleMinistries$Street" "ducksSet" "I", Cond.static yX4_isIn, Cond.code yX4_isIn cX4_isIn 2 (some .boolean), Cond.methodLink RX4 44 yX0_record, Cond.instanceMethod yX0_record, Cond.selects RX0 yX0_record yX0_record, Cond.initialized RX0, Cond.code yX0_record cX0_record 2 none, Cond.fieldLink RX0 18 "PuddleMinistries$History" "size" "I", Cond.fieldLink RX0 11 "PuddleMinistries$History" "kept" "[LPuddleMinistries$Street;", Cond.methodLink RX0 22 yX0_dropOldest, Cond.instanceMethod yX0_dropOldest]
def wsX4_drain_r2 : List Cond := [Cond.selects RX0 yX0_dropOldest yX0_dropOldest, Cond.code yX0_dropOldest cX0_dropOldest 3 none, Cond.methodLink RX0 25 yX3_copyFrom, Cond.instanceMethod yX3_copyFrom, Cond.selects RX3 yX3_copyFrom yX3_copyFrom, Cond.code yX3_copyFrom cX3_copyFrom 2 none, Cond.fieldLink RX3 9 "PuddleMinistries$Street" "settings" "[I", Cond.fieldLink RX3 15 "PuddleMinistries$Street" "brims" "[I", Cond.fieldLink RX3 18 "PuddleMinistries$Street" "waters" "[I", Cond.fieldLink RX3 21 "PuddleMinistries$Street" "crossingsOf" "[I", Cond.fieldLink RX3 24 "PuddleMinistries$Street" "shoesOf" "[I", Cond.fieldLink RX3 27 "PuddleMinistries$Street" "owedBy" "[I", Cond.fieldLink RX3 30 "PuddleMinistries$Street" "paidBy" "[I", Cond.fieldLink RX3 33 "PuddleMinistries$Street" "crossedBy" "[I", Cond.fieldLink RX3 36 "PuddleMinistries$Street" "permitDays" "[I", Cond.fieldLink RX3 46 "PuddleMinistries$Street" "frozenSet" "I", Cond.fieldLink RX3 53 "PuddleMinistries$Street" "days" "I", Cond.fieldLink RX3 56 "PuddleMinistries$Street" "fell" "I", Cond.fieldLink RX3 59 "PuddleMinistries$Street" "dried" "I", Cond.fieldLink RX3 62 "PuddleMinistries$Street" "drained" "I", Cond.static yX4_copy, Cond.code yX4_copy cX4_copy 3 none, Cond.methodLink RX4 58 yX3_drainDownTo, Cond.instanceMethod yX3_drainDownTo]
def wsX4_drain_r3 : List Cond := [Cond.selects RX3 yX3_drainDownTo yX3_drainDownTo, Cond.code yX3_drainDownTo cX3_drainDownTo 4 none, Cond.methodLink RX4 68 yX3_thaw, Cond.instanceMethod yX3_thaw, Cond.selects RX3 yX3_thaw yX3_thaw, Cond.code yX3_thaw cX3_thaw 2 none]
def wsX4_drain : List Cond := .code yX4_drain cX4_drain 3 (some .int) :: ((wsX4_drain_r1 ++ (wsX4_drain_r2 ++ wsX4_drain_r3)) ++ wsX40 ++ wsX30 ++ wsX00)
def wsX4_isWalker : List Cond := .code yX4_isWalker cX4_isWalker 1 (some .boolean) :: ([])
def wsX4_shoes_r1 : List Cond := [Cond.fieldLink RX4 26 "PuddleMinistries" "history" "LPuddleMinistries$History;", Cond.fieldLink RX4 10 "PuddleMinistries" "street" "LPuddleMinistries$Street;", Cond.fieldLink RX4 75 "PuddleMinistries$Street" "shoesOf" "[I", Cond.methodLink RX4 72 yX4_isWalker, Cond.static yX4_isWalker, Cond.initialized RX4, Cond.code yX4_isWalker cX4_isWalker 1 (some .boolean), Cond.methodLink RX4 44 yX0_record, Cond.instanceMethod yX0_record, Cond.selects RX0 yX0_record yX0_record, Cond.initialized RX0, Cond.code yX0_record cX0_record 2 none, Cond.fieldLink RX0 18 "PuddleMinistries$History" "size" "I", Cond.fieldLink RX0 11 "PuddleMinistries$History" "kept" "[LPuddleMinistries$Street;", Cond.methodLink RX0 22 yX0_dropOldest, Cond.instanceMethod yX0_dropOldest, Cond.selects RX0 yX0_dropOldest yX0_dropOldest, Cond.code yX0_dropOldest cX0_dropOldest 3 none, Cond.methodLink RX0 25 yX3_copyFrom, Cond.instanceMethod yX3_copyFrom, Cond.selects RX3 yX3_copyFrom yX3_copyFrom, Cond.initialized RX3, Cond.code yX3_copyFrom cX3_copyFrom 2 none, Cond.fieldLink RX3 9 "PuddleMinistries$Street" "settings" "[I"]
def wsX4_shoes_r2 : List Cond := [Cond.fieldLink RX3 15 "PuddleMinistries$Street" "brims" "[I", Cond.fieldLink RX3 18 "PuddleMinistries$Street" "waters" "[I", Cond.fieldLink RX3 21 "PuddleMinistries$Street" "crossingsOf" "[I", Cond.fieldLink RX3 24 "PuddleMinistries$Street" "shoesOf" "[I", Cond.fieldLink RX3 27 "PuddleMinistries$Street" "owedBy" "[I", Cond.fieldLink RX3 30 "PuddleMinistries$Street" "paidBy" "[I", Cond.fieldLink RX3 33 "PuddleMinistries$Street" "crossedBy" "[I", Cond.fieldLink RX3 36 "PuddleMinistries$Street" "permitDays" "[I", Cond.fieldLink RX3 46 "PuddleMinistries$Street" "frozenSet" "I", Cond.fieldLink RX3 50 "PuddleMinistries$Street" "ducksSet" "I", Cond.fieldLink RX3 53 "PuddleMinistries$Street" "days" "I", Cond.fieldLink RX3 56 "PuddleMinistries$Street" "fell" "I", Cond.fieldLink RX3 59 "PuddleMinistries$Street" "dried" "I", Cond.fieldLink RX3 62 "PuddleMinistries$Street" "drained" "I", Cond.static yX4_copy, Cond.code yX4_copy cX4_copy 3 none]
def wsX4_shoes : List Cond := .code yX4_shoes cX4_shoes 4 (some .int) :: ((wsX4_shoes_r1 ++ wsX4_shoes_r2) ++ wsX40 ++ wsX30 ++ wsX00)
def wsX4_permit_r1 : List Cond := [Cond.fieldLink RX4 10 "PuddleMinistries" "street" "LPuddleMinistries$Street;", Cond.fieldLink RX4 26 "PuddleMinistries" "history" "LPuddleMinistries$History;", Cond.fieldLink RX4 78 "PuddleMinistries$Street" "permitDays" "[I", Cond.fieldLink RX4 48 "PuddleMinistries$Street" "settings" "[I", Cond.methodLink RX4 72 yX4_isWalker, Cond.static yX4_isWalker, Cond.initialized RX4, Cond.code yX4_isWalker cX4_isWalker 1 (some .boolean), Cond.methodLink RX4 51 yX4_isPuddle, Cond.static yX4_isPuddle, Cond.code yX4_isPuddle cX4_isPuddle 1 (some .boolean), Cond.methodLink RX4 62 yX3_hasDucks, Cond.instanceMethod yX3_hasDucks, Cond.selects RX3 yX3_hasDucks yX3_hasDucks, Cond.initialized RX3, Cond.code yX3_hasDucks cX3_hasDucks 2 (some .boolean), Cond.fieldLink RX3 50 "PuddleMinistries$Street" "ducksSet" "I", Cond.static yX4_isIn, Cond.code yX4_isIn cX4_isIn 2 (some .boolean), Cond.methodLink RX4 44 yX0_record, Cond.instanceMethod yX0_record, Cond.selects RX0 yX0_record yX0_record, Cond.initialized RX0, Cond.code yX0_record cX0_record 2 none]
def wsX4_permit_r2 : List Cond := [Cond.fieldLink RX0 18 "PuddleMinistries$History" "size" "I", Cond.fieldLink RX0 11 "PuddleMinistries$History" "kept" "[LPuddleMinistries$Street;", Cond.methodLink RX0 22 yX0_dropOldest, Cond.instanceMethod yX0_dropOldest, Cond.selects RX0 yX0_dropOldest yX0_dropOldest, Cond.code yX0_dropOldest cX0_dropOldest 3 none, Cond.methodLink RX0 25 yX3_copyFrom, Cond.instanceMethod yX3_copyFrom, Cond.selects RX3 yX3_copyFrom yX3_copyFrom, Cond.code yX3_copyFrom cX3_copyFrom 2 none, Cond.fieldLink RX3 9 "PuddleMinistries$Street" "settings" "[I", Cond.fieldLink RX3 15 "PuddleMinistries$Street" "brims" "[I", Cond.fieldLink RX3 18 "PuddleMinistries$Street" "waters" "[I", Cond.fieldLink RX3 21 "PuddleMinistries$Street" "crossingsOf" "[I", Cond.fieldLink RX3 24 "PuddleMinistries$Street" "shoesOf" "[I", Cond.fieldLink RX3 27 "PuddleMinistries$Street" "owedBy" "[I", Cond.fieldLink RX3 30 "PuddleMinistries$Street" "paidBy" "[I", Cond.fieldLink RX3 33 "PuddleMinistries$Street" "crossedBy" "[I", Cond.fieldLink RX3 36 "PuddleMinistries$Street" "permitDays" "[I", Cond.fieldLink RX3 46 "PuddleMinistries$Street" "frozenSet" "I", Cond.fieldLink RX3 53 "PuddleMinistries$Street" "days" "I", Cond.fieldLink RX3 56 "PuddleMinistries$Street" "fell" "I", Cond.fieldLink RX3 59 "PuddleMinistries$Street" "dried" "I", Cond.fieldLink RX3 62 "PuddleMinistries$Street" "drained" "I"]
def wsX4_permit_r3 : List Cond := [Cond.static yX4_copy, Cond.code yX4_copy cX4_copy 3 none, Cond.methodLink RX4 81 yX4_placeOf, Cond.static yX4_placeOf, Cond.code yX4_placeOf cX4_placeOf 2 (some .int), Cond.methodLink RX4 85 yX3_permitsOf, Cond.instanceMethod yX3_permitsOf, Cond.selects RX3 yX3_permitsOf yX3_permitsOf, Cond.code yX3_permitsOf cX3_permitsOf 4 (some .int), Cond.methodLink RX3 102 yX3_hasPermit, Cond.instanceMethod yX3_hasPermit, Cond.selects RX3 yX3_hasPermit yX3_hasPermit, Cond.code yX3_hasPermit cX3_hasPermit 3 (some .boolean), Cond.methodLink RX4 89 yJ6_bitCount_0f7a4, Cond.static yJ6_bitCount_0f7a4, Cond.initialized RJ6, Cond.code yJ6_bitCount_0f7a4 cJ6_bitCount_0f7a4 1 (some .int), Cond.constant RJ6 265 (1431655765), Cond.constant RJ6 266 (858993459), Cond.constant RJ6 267 (252645135)]
def wsX4_permit : List Cond := .code yX4_permit cX4_permit 3 (some .int) :: ((wsX4_permit_r1 ++ (wsX4_permit_r2 ++ wsX4_permit_r3)) ++ wsX40 ++ wsX30 ++ wsX00)
def wsX4_walk_r1 : List Cond := [Cond.fieldLink RX4 26 "PuddleMinistries" "history" "LPuddleMinistries$History;", Cond.fieldLink RX4 10 "PuddleMinistries" "street" "LPuddleMinistries$Street;", Cond.methodLink RX4 72 yX4_isWalker, Cond.static yX4_isWalker, Cond.initialized RX4, Cond.code yX4_isWalker cX4_isWalker 1 (some .boolean), Cond.methodLink RX4 51 yX4_isPuddle, Cond.static yX4_isPuddle, Cond.code yX4_isPuddle cX4_isPuddle 1 (some .boolean), Cond.methodLink RX4 44 yX0_record, Cond.instanceMethod yX0_record, Cond.selects RX0 yX0_record yX0_record, Cond.initialized RX0, Cond.code yX0_record cX0_record 2 none, Cond.fieldLink RX0 18 "PuddleMinistries$History" "size" "I", Cond.fieldLink RX0 11 "PuddleMinistries$History" "kept" "[LPuddleMinistries$Street;", Cond.methodLink RX0 22 yX0_dropOldest, Cond.instanceMethod yX0_dropOldest, Cond.selects RX0 yX0_dropOldest yX0_dropOldest, Cond.code yX0_dropOldest cX0_dropOldest 3 none, Cond.methodLink RX0 25 yX3_copyFrom, Cond.instanceMethod yX3_copyFrom, Cond.selects RX3 yX3_copyFrom yX3_copyFrom, Cond.initialized RX3]
def wsX4_walk_r2 : List Cond := [Cond.code yX3_copyFrom cX3_copyFrom 2 none, Cond.fieldLink RX3 9 "PuddleMinistries$Street" "settings" "[I", Cond.fieldLink RX3 15 "PuddleMinistries$Street" "brims" "[I", Cond.fieldLink RX3 18 "PuddleMinistries$Street" "waters" "[I", Cond.fieldLink RX3 21 "PuddleMinistries$Street" "crossingsOf" "[I", Cond.fieldLink RX3 24 "PuddleMinistries$Street" "shoesOf" "[I", Cond.fieldLink RX3 27 "PuddleMinistries$Street" "owedBy" "[I", Cond.fieldLink RX3 30 "PuddleMinistries$Street" "paidBy" "[I", Cond.fieldLink RX3 33 "PuddleMinistries$Street" "crossedBy" "[I", Cond.fieldLink RX3 36 "PuddleMinistries$Street" "permitDays" "[I", Cond.fieldLink RX3 46 "PuddleMinistries$Street" "frozenSet" "I", Cond.fieldLink RX3 50 "PuddleMinistries$Street" "ducksSet" "I", Cond.fieldLink RX3 53 "PuddleMinistries$Street" "days" "I", Cond.fieldLink RX3 56 "PuddleMinistries$Street" "fell" "I", Cond.fieldLink RX3 59 "PuddleMinistries$Street" "dried" "I", Cond.fieldLink RX3 62 "PuddleMinistries$Street" "drained" "I", Cond.static yX4_copy, Cond.code yX4_copy cX4_copy 3 none, Cond.methodLink RX4 94 yX3_stepsUntilBlocked, Cond.instanceMethod yX3_stepsUntilBlocked, Cond.selects RX3 yX3_stepsUntilBlocked yX3_stepsUntilBlocked, Cond.code yX3_stepsUntilBlocked cX3_stepsUntilBlocked 6 (some .int), Cond.methodLink RX3 129 Lib.Math.abs.name, Cond.static Lib.Math.abs.name]
def wsX4_walk_r3 : List Cond := [Cond.initialized "java/lang/Math", Cond.code Lib.Math.abs.name Lib.Math.abs.code 1 (some .int), Cond.static yX4_placeAfter, Cond.code yX4_placeAfter cX4_placeAfter 3 (some .int), Cond.methodLink RX3 123 yX3_mayCross, Cond.instanceMethod yX3_mayCross, Cond.selects RX3 yX3_mayCross yX3_mayCross, Cond.code yX3_mayCross cX3_mayCross 3 (some .boolean), Cond.methodLink RX3 119 yX3_reasonAgainst, Cond.instanceMethod yX3_reasonAgainst, Cond.selects RX3 yX3_reasonAgainst yX3_reasonAgainst, Cond.code yX3_reasonAgainst cX3_reasonAgainst 5 (some .int), Cond.methodLink RX3 113 yX3_hasDucks, Cond.instanceMethod yX3_hasDucks, Cond.selects RX3 yX3_hasDucks yX3_hasDucks, Cond.code yX3_hasDucks cX3_hasDucks 2 (some .boolean), Cond.static yX4_isIn, Cond.code yX4_isIn cX4_isIn 2 (some .boolean), Cond.methodLink RX3 102 yX3_hasPermit, Cond.instanceMethod yX3_hasPermit, Cond.selects RX3 yX3_hasPermit yX3_hasPermit, Cond.code yX3_hasPermit cX3_hasPermit 3 (some .boolean), Cond.static yX4_placeOf, Cond.code yX4_placeOf cX4_placeOf 2 (some .int)]
def wsX4_walk_r4 : List Cond := [Cond.methodLink RX3 92 yX3_depth, Cond.instanceMethod yX3_depth, Cond.selects RX3 yX3_depth yX3_depth, Cond.code yX3_depth cX3_depth 2 (some .int), Cond.methodLink RX3 82 yX3_isFrozen, Cond.instanceMethod yX3_isFrozen, Cond.selects RX3 yX3_isFrozen yX3_isFrozen, Cond.code yX3_isFrozen cX3_isFrozen 2 (some .boolean), Cond.methodLink RX3 116 yX3_depthKeptOut, Cond.static yX3_depthKeptOut, Cond.code yX3_depthKeptOut cX3_depthKeptOut 1 (some .int), Cond.methodLink RX4 98 yX4_placeAfter, Cond.methodLink RX4 101 yX3_cross, Cond.instanceMethod yX3_cross, Cond.selects RX3 yX3_cross yX3_cross, Cond.code yX3_cross cX3_cross 3 none, Cond.methodLink RX3 126 yX3_dutyAt, Cond.instanceMethod yX3_dutyAt, Cond.selects RX3 yX3_dutyAt yX3_dutyAt, Cond.code yX3_dutyAt cX3_dutyAt 2 (some .int)]
def wsX4_walk : List Cond := .code yX4_walk cX4_walk 6 (some .int) :: ((wsX4_walk_r1 ++ (wsX4_walk_r2 ++ (wsX4_walk_r3 ++ wsX4_walk_r4))) ++ wsX40 ++ wsX00 ++ wsX30)
def wsX4_pay_r1 : List Cond := [Cond.fieldLink RX4 26 "PuddleMinistries" "history" "LPuddleMinistries$History;", Cond.fieldLink RX4 10 "PuddleMinistries" "street" "LPuddleMinistries$Street;", Cond.fieldLink RX4 104 "PuddleMinistries$Street" "owedBy" "[I", Cond.fieldLink RX4 107 "PuddleMinistries$Street" "paidBy" "[I", Cond.methodLink RX4 72 yX4_isWalker, Cond.static yX4_isWalker, Cond.initialized RX4, Cond.code yX4_isWalker cX4_isWalker 1 (some .boolean), Cond.methodLink RX4 44 yX0_record, Cond.instanceMethod yX0_record, Cond.selects RX0 yX0_record yX0_record, Cond.initialized RX0, Cond.code yX0_record cX0_record 2 none, Cond.fieldLink RX0 18 "PuddleMinistries$History" "size" "I", Cond.fieldLink RX0 11 "PuddleMinistries$History" "kept" "[LPuddleMinistries$Street;", Cond.methodLink RX0 22 yX0_dropOldest, Cond.instanceMethod yX0_dropOldest, Cond.selects RX0 yX0_dropOldest yX0_dropOldest, Cond.code yX0_dropOldest cX0_dropOldest 3 none, Cond.methodLink RX0 25 yX3_copyFrom, Cond.instanceMethod yX3_copyFrom, Cond.selects RX3 yX3_copyFrom yX3_copyFrom, Cond.initialized RX3, Cond.code yX3_copyFrom cX3_copyFrom 2 none]
def wsX4_pay_r2 : List Cond := [Cond.fieldLink RX3 9 "PuddleMinistries$Street" "settings" "[I", Cond.fieldLink RX3 15 "PuddleMinistries$Street" "brims" "[I", Cond.fieldLink RX3 18 "PuddleMinistries$Street" "waters" "[I", Cond.fieldLink RX3 21 "PuddleMinistries$Street" "crossingsOf" "[I", Cond.fieldLink RX3 24 "PuddleMinistries$Street" "shoesOf" "[I", Cond.fieldLink RX3 27 "PuddleMinistries$Street" "owedBy" "[I", Cond.fieldLink RX3 30 "PuddleMinistries$Street" "paidBy" "[I", Cond.fieldLink RX3 33 "PuddleMinistries$Street" "crossedBy" "[I", Cond.fieldLink RX3 36 "PuddleMinistries$Street" "permitDays" "[I", Cond.fieldLink RX3 46 "PuddleMinistries$Street" "frozenSet" "I", Cond.fieldLink RX3 50 "PuddleMinistries$Street" "ducksSet" "I", Cond.fieldLink RX3 53 "PuddleMinistries$Street" "days" "I", Cond.fieldLink RX3 56 "PuddleMinistries$Street" "fell" "I", Cond.fieldLink RX3 59 "PuddleMinistries$Street" "dried" "I", Cond.fieldLink RX3 62 "PuddleMinistries$Street" "drained" "I", Cond.static yX4_copy, Cond.code yX4_copy cX4_copy 3 none]
def wsX4_pay : List Cond := .code yX4_pay cX4_pay 3 (some .int) :: ((wsX4_pay_r1 ++ wsX4_pay_r2) ++ wsX40 ++ wsX30 ++ wsX00)
def wsX4_sum : List Cond := .code yX4_sum cX4_sum 6 (some .int) :: ([])
def wsX4_pass_r1 : List Cond := [Cond.fieldLink RX4 10 "PuddleMinistries" "street" "LPuddleMinistries$Street;", Cond.fieldLink RX4 110 "PuddleMinistries$Street" "days" "I", Cond.fieldLink RX4 26 "PuddleMinistries" "history" "LPuddleMinistries$History;", Cond.fieldLink RX4 65 "PuddleMinistries$Street" "waters" "[I", Cond.methodLink RX4 44 yX0_record, Cond.instanceMethod yX0_record, Cond.selects RX0 yX0_record yX0_record, Cond.initialized RX0, Cond.code yX0_record cX0_record 2 none, Cond.fieldLink RX0 18 "PuddleMinistries$History" "size" "I", Cond.fieldLink RX0 11 "PuddleMinistries$History" "kept" "[LPuddleMinistries$Street;", Cond.methodLink RX0 22 yX0_dropOldest, Cond.instanceMethod yX0_dropOldest, Cond.selects RX0 yX0_dropOldest yX0_dropOldest, Cond.code yX0_dropOldest cX0_dropOldest 3 none, Cond.methodLink RX0 25 yX3_copyFrom, Cond.instanceMethod yX3_copyFrom, Cond.selects RX3 yX3_copyFrom yX3_copyFrom, Cond.initialized RX3, Cond.code yX3_copyFrom cX3_copyFrom 2 none, Cond.fieldLink RX3 9 "PuddleMinistries$Street" "settings" "[I", Cond.fieldLink RX3 15 "PuddleMinistries$Street" "brims" "[I", Cond.fieldLink RX3 18 "PuddleMinistries$Street" "waters" "[I", Cond.fieldLink RX3 21 "PuddleMinistries$Street" "crossingsOf" "[I"]
def wsX4_pass_r2 : List Cond := [Cond.fieldLink RX3 24 "PuddleMinistries$Street" "shoesOf" "[I", Cond.fieldLink RX3 27 "PuddleMinistries$Street" "owedBy" "[I", Cond.fieldLink RX3 30 "PuddleMinistries$Street" "paidBy" "[I", Cond.fieldLink RX3 33 "PuddleMinistries$Street" "crossedBy" "[I", Cond.fieldLink RX3 36 "PuddleMinistries$Street" "permitDays" "[I", Cond.fieldLink RX3 46 "PuddleMinistries$Street" "frozenSet" "I", Cond.fieldLink RX3 50 "PuddleMinistries$Street" "ducksSet" "I", Cond.fieldLink RX3 53 "PuddleMinistries$Street" "days" "I", Cond.fieldLink RX3 56 "PuddleMinistries$Street" "fell" "I", Cond.fieldLink RX3 59 "PuddleMinistries$Street" "dried" "I", Cond.fieldLink RX3 62 "PuddleMinistries$Street" "drained" "I", Cond.static yX4_copy, Cond.initialized RX4, Cond.code yX4_copy cX4_copy 3 none, Cond.methodLink RX4 114 yX3_letPass, Cond.instanceMethod yX3_letPass, Cond.selects RX3 yX3_letPass yX3_letPass, Cond.code yX3_letPass cX3_letPass 2 none, Cond.methodLink RX3 69 yX3_shine, Cond.instanceMethod yX3_shine, Cond.selects RX3 yX3_shine yX3_shine, Cond.code yX3_shine cX3_shine 3 none, Cond.methodLink RX3 86 Lib.Math.min.name, Cond.static Lib.Math.min.name]
def wsX4_pass_r3 : List Cond := [Cond.initialized "java/lang/Math", Cond.code Lib.Math.min.name Lib.Math.min.code 2 (some .int), Cond.methodLink RX3 82 yX3_isFrozen, Cond.instanceMethod yX3_isFrozen, Cond.selects RX3 yX3_isFrozen yX3_isFrozen, Cond.code yX3_isFrozen cX3_isFrozen 2 (some .boolean), Cond.static yX4_isIn, Cond.code yX4_isIn cX4_isIn 2 (some .boolean), Cond.methodLink RX3 72 yX3_freeze, Cond.instanceMethod yX3_freeze, Cond.selects RX3 yX3_freeze yX3_freeze, Cond.code yX3_freeze cX3_freeze 2 none, Cond.methodLink RX3 92 yX3_depth, Cond.instanceMethod yX3_depth, Cond.selects RX3 yX3_depth yX3_depth, Cond.code yX3_depth cX3_depth 2 (some .int), Cond.methodLink RX3 75 yX3_endDay, Cond.instanceMethod yX3_endDay, Cond.selects RX3 yX3_endDay yX3_endDay, Cond.code yX3_endDay cX3_endDay 2 none, Cond.methodLink RX3 96 yX3_agePermitsAt, Cond.instanceMethod yX3_agePermitsAt, Cond.selects RX3 yX3_agePermitsAt yX3_agePermitsAt, Cond.code yX3_agePermitsAt cX3_agePermitsAt 4 none]
def wsX4_pass_r4 : List Cond := [Cond.static yX4_placeOf, Cond.code yX4_placeOf cX4_placeOf 2 (some .int), Cond.methodLink RX3 78 yX3_rain, Cond.instanceMethod yX3_rain, Cond.selects RX3 yX3_rain yX3_rain, Cond.code yX3_rain cX3_rain 5 none, Cond.methodLink RX4 117 yX4_sum, Cond.static yX4_sum, Cond.code yX4_sum cX4_sum 6 (some .int)]
def wsX4_pass : List Cond := .code yX4_pass cX4_pass 2 (some .int) :: ((wsX4_pass_r1 ++ (wsX4_pass_r2 ++ (wsX4_pass_r3 ++ wsX4_pass_r4))) ++ wsX40 ++ wsX30 ++ wsX00)
def wsX4_read_r1 : List Cond := [Cond.fieldLink RX4 19 "PuddleMinistries" "pad" "LPuddleMinistries$Pad;", Cond.fieldLink RX4 10 "PuddleMinistries" "street" "LPuddleMinistries$Street;", Cond.fieldLink RX4 110 "PuddleMinistries$Street" "days" "I", Cond.fieldLink RX4 26 "PuddleMinistries" "history" "LPuddleMinistries$History;", Cond.fieldLink RX4 128 "PuddleMinistries$Pad" "length" "I", Cond.fieldLink RX4 65 "PuddleMinistries$Street" "waters" "[I", Cond.methodLink RX4 121 yX1_findFault, Cond.instanceMethod yX1_findFault, Cond.selects RX1 yX1_findFault yX1_findFault, Cond.initialized RX1, Cond.code yX1_findFault cX1_findFault 4 (some .int), Cond.fieldLink RX1 21 "PuddleMinistries$Pad" "length" "I", Cond.fieldLink RX1 11 "PuddleMinistries$Pad" "signs" "[C", Cond.methodLink RX1 25 yX1_isAmount, Cond.static yX1_isAmount, Cond.code yX1_isAmount cX1_isAmount 1 (some .boolean), Cond.methodLink RX1 29 yX1_beginsHour, Cond.static yX1_beginsHour, Cond.code yX1_beginsHour cX1_beginsHour 1 (some .boolean), Cond.methodLink RX4 125 yX1_daysTold, Cond.instanceMethod yX1_daysTold, Cond.selects RX1 yX1_daysTold yX1_daysTold, Cond.code yX1_daysTold cX1_daysTold 3 (some .int), Cond.methodLink RX1 32 yX1_weatherAt]
def wsX4_read_r2 : List Cond := [Cond.instanceMethod yX1_weatherAt, Cond.selects RX1 yX1_weatherAt yX1_weatherAt, Cond.code yX1_weatherAt cX1_weatherAt 3 (some .int), Cond.methodLink RX4 44 yX0_record, Cond.instanceMethod yX0_record, Cond.selects RX0 yX0_record yX0_record, Cond.initialized RX0, Cond.code yX0_record cX0_record 2 none, Cond.fieldLink RX0 18 "PuddleMinistries$History" "size" "I", Cond.fieldLink RX0 11 "PuddleMinistries$History" "kept" "[LPuddleMinistries$Street;", Cond.methodLink RX0 22 yX0_dropOldest, Cond.instanceMethod yX0_dropOldest, Cond.selects RX0 yX0_dropOldest yX0_dropOldest, Cond.code yX0_dropOldest cX0_dropOldest 3 none, Cond.methodLink RX0 25 yX3_copyFrom, Cond.instanceMethod yX3_copyFrom, Cond.selects RX3 yX3_copyFrom yX3_copyFrom, Cond.initialized RX3, Cond.code yX3_copyFrom cX3_copyFrom 2 none, Cond.fieldLink RX3 9 "PuddleMinistries$Street" "settings" "[I", Cond.fieldLink RX3 15 "PuddleMinistries$Street" "brims" "[I", Cond.fieldLink RX3 18 "PuddleMinistries$Street" "waters" "[I", Cond.fieldLink RX3 21 "PuddleMinistries$Street" "crossingsOf" "[I", Cond.fieldLink RX3 24 "PuddleMinistries$Street" "shoesOf" "[I"]
def wsX4_read_r3 : List Cond := [Cond.fieldLink RX3 27 "PuddleMinistries$Street" "owedBy" "[I", Cond.fieldLink RX3 30 "PuddleMinistries$Street" "paidBy" "[I", Cond.fieldLink RX3 33 "PuddleMinistries$Street" "crossedBy" "[I", Cond.fieldLink RX3 36 "PuddleMinistries$Street" "permitDays" "[I", Cond.fieldLink RX3 46 "PuddleMinistries$Street" "frozenSet" "I", Cond.fieldLink RX3 50 "PuddleMinistries$Street" "ducksSet" "I", Cond.fieldLink RX3 53 "PuddleMinistries$Street" "days" "I", Cond.fieldLink RX3 56 "PuddleMinistries$Street" "fell" "I", Cond.fieldLink RX3 59 "PuddleMinistries$Street" "dried" "I", Cond.fieldLink RX3 62 "PuddleMinistries$Street" "drained" "I", Cond.static yX4_copy, Cond.initialized RX4, Cond.code yX4_copy cX4_copy 3 none, Cond.methodLink RX4 131 yX1_weatherAt, Cond.methodLink RX4 114 yX3_letPass, Cond.instanceMethod yX3_letPass, Cond.selects RX3 yX3_letPass yX3_letPass, Cond.code yX3_letPass cX3_letPass 2 none, Cond.methodLink RX3 69 yX3_shine, Cond.instanceMethod yX3_shine, Cond.selects RX3 yX3_shine yX3_shine, Cond.code yX3_shine cX3_shine 3 none, Cond.methodLink RX3 86 Lib.Math.min.name, Cond.static Lib.Math.min.name]
def wsX4_read_r4 : List Cond := [Cond.initialized "java/lang/Math", Cond.code Lib.Math.min.name Lib.Math.min.code 2 (some .int), Cond.methodLink RX3 82 yX3_isFrozen, Cond.instanceMethod yX3_isFrozen, Cond.selects RX3 yX3_isFrozen yX3_isFrozen, Cond.code yX3_isFrozen cX3_isFrozen 2 (some .boolean), Cond.static yX4_isIn, Cond.code yX4_isIn cX4_isIn 2 (some .boolean), Cond.methodLink RX3 72 yX3_freeze, Cond.instanceMethod yX3_freeze, Cond.selects RX3 yX3_freeze yX3_freeze, Cond.code yX3_freeze cX3_freeze 2 none, Cond.methodLink RX3 92 yX3_depth, Cond.instanceMethod yX3_depth, Cond.selects RX3 yX3_depth yX3_depth, Cond.code yX3_depth cX3_depth 2 (some .int), Cond.methodLink RX3 75 yX3_endDay, Cond.instanceMethod yX3_endDay, Cond.selects RX3 yX3_endDay yX3_endDay, Cond.code yX3_endDay cX3_endDay 2 none, Cond.methodLink RX3 96 yX3_agePermitsAt, Cond.instanceMethod yX3_agePermitsAt, Cond.selects RX3 yX3_agePermitsAt yX3_agePermitsAt, Cond.code yX3_agePermitsAt cX3_agePermitsAt 4 none]
def wsX4_read_r5 : List Cond := [Cond.static yX4_placeOf, Cond.code yX4_placeOf cX4_placeOf 2 (some .int), Cond.methodLink RX3 78 yX3_rain, Cond.instanceMethod yX3_rain, Cond.selects RX3 yX3_rain yX3_rain, Cond.code yX3_rain cX3_rain 5 none, Cond.methodLink RX4 117 yX4_sum, Cond.static yX4_sum, Cond.code yX4_sum cX4_sum 6 (some .int)]
def wsX4_read : List Cond := .code yX4_read cX4_read 2 (some .int) :: ((wsX4_read_r1 ++ (wsX4_read_r2 ++ (wsX4_read_r3 ++ (wsX4_read_r4 ++ wsX4_read_r5)))) ++ wsX40 ++ wsX30 ++ wsX10 ++ wsX00)
def wsX4_puddle_r1 : List Cond := [Cond.fieldLink RX4 10 "PuddleMinistries" "street" "LPuddleMinistries$Street;", Cond.fieldLink RX4 55 "PuddleMinistries$Street" "brims" "[I", Cond.fieldLink RX4 65 "PuddleMinistries$Street" "waters" "[I", Cond.fieldLink RX4 140 "PuddleMinistries$Street" "crossingsOf" "[I", Cond.methodLink RX4 51 yX4_isPuddle, Cond.static yX4_isPuddle, Cond.initialized RX4, Cond.code yX4_isPuddle cX4_isPuddle 1 (some .boolean), Cond.methodLink RX4 134 yX3_depth, Cond.instanceMethod yX3_depth, Cond.selects RX3 yX3_depth yX3_depth, Cond.initialized RX3, Cond.code yX3_depth cX3_depth 2 (some .int), Cond.fieldLink RX3 18 "PuddleMinistries$Street" "waters" "[I", Cond.methodLink RX4 137 yX3_isFrozen, Cond.instanceMethod yX3_isFrozen, Cond.selects RX3 yX3_isFrozen yX3_isFrozen, Cond.code yX3_isFrozen cX3_isFrozen 2 (some .boolean), Cond.fieldLink RX3 46 "PuddleMinistries$Street" "frozenSet" "I", Cond.static yX4_isIn, Cond.code yX4_isIn cX4_isIn 2 (some .boolean), Cond.methodLink RX4 62 yX3_hasDucks, Cond.instanceMethod yX3_hasDucks, Cond.selects RX3 yX3_hasDucks yX3_hasDucks]
def wsX4_puddle_r2 : List Cond := [Cond.code yX3_hasDucks cX3_hasDucks 2 (some .boolean), Cond.fieldLink RX3 50 "PuddleMinistries$Street" "ducksSet" "I", Cond.methodLink RX4 143 yX3_permitHoldersAt, Cond.instanceMethod yX3_permitHoldersAt, Cond.selects RX3 yX3_permitHoldersAt yX3_permitHoldersAt, Cond.code yX3_permitHoldersAt cX3_permitHoldersAt 4 (some .int), Cond.methodLink RX3 102 yX3_hasPermit, Cond.instanceMethod yX3_hasPermit, Cond.selects RX3 yX3_hasPermit yX3_hasPermit, Cond.code yX3_hasPermit cX3_hasPermit 3 (some .boolean), Cond.fieldLink RX3 36 "PuddleMinistries$Street" "permitDays" "[I", Cond.static yX4_placeOf, Cond.code yX4_placeOf cX4_placeOf 2 (some .int)]
def wsX4_puddle : List Cond := .code yX4_puddle cX4_puddle 3 (some .int) :: ((wsX4_puddle_r1 ++ wsX4_puddle_r2) ++ wsX40 ++ wsX30)
def wsX4_walker_r1 : List Cond := [Cond.fieldLink RX4 10 "PuddleMinistries" "street" "LPuddleMinistries$Street;", Cond.fieldLink RX4 75 "PuddleMinistries$Street" "shoesOf" "[I", Cond.fieldLink RX4 104 "PuddleMinistries$Street" "owedBy" "[I", Cond.fieldLink RX4 107 "PuddleMinistries$Street" "paidBy" "[I", Cond.fieldLink RX4 146 "PuddleMinistries$Street" "crossedBy" "[I", Cond.methodLink RX4 72 yX4_isWalker, Cond.static yX4_isWalker, Cond.initialized RX4, Cond.code yX4_isWalker cX4_isWalker 1 (some .boolean), Cond.methodLink RX4 85 yX3_permitsOf, Cond.instanceMethod yX3_permitsOf, Cond.selects RX3 yX3_permitsOf yX3_permitsOf, Cond.initialized RX3, Cond.code yX3_permitsOf cX3_permitsOf 4 (some .int), Cond.methodLink RX3 102 yX3_hasPermit, Cond.instanceMethod yX3_hasPermit, Cond.selects RX3 yX3_hasPermit yX3_hasPermit, Cond.code yX3_hasPermit cX3_hasPermit 3 (some .boolean), Cond.fieldLink RX3 36 "PuddleMinistries$Street" "permitDays" "[I", Cond.static yX4_placeOf, Cond.code yX4_placeOf cX4_placeOf 2 (some .int), Cond.methodLink RX4 149 yX3_allowedFor, Cond.instanceMethod yX3_allowedFor, Cond.selects RX3 yX3_allowedFor yX3_allowedFor]
def wsX4_walker_r2 : List Cond := [Cond.code yX3_allowedFor cX3_allowedFor 4 (some .int), Cond.methodLink RX3 123 yX3_mayCross, Cond.instanceMethod yX3_mayCross, Cond.selects RX3 yX3_mayCross yX3_mayCross, Cond.code yX3_mayCross cX3_mayCross 3 (some .boolean), Cond.fieldLink RX3 24 "PuddleMinistries$Street" "shoesOf" "[I", Cond.methodLink RX3 119 yX3_reasonAgainst, Cond.instanceMethod yX3_reasonAgainst, Cond.selects RX3 yX3_reasonAgainst yX3_reasonAgainst, Cond.code yX3_reasonAgainst cX3_reasonAgainst 5 (some .int), Cond.methodLink RX3 113 yX3_hasDucks, Cond.instanceMethod yX3_hasDucks, Cond.selects RX3 yX3_hasDucks yX3_hasDucks, Cond.code yX3_hasDucks cX3_hasDucks 2 (some .boolean), Cond.fieldLink RX3 50 "PuddleMinistries$Street" "ducksSet" "I", Cond.static yX4_isIn, Cond.code yX4_isIn cX4_isIn 2 (some .boolean), Cond.methodLink RX3 92 yX3_depth, Cond.instanceMethod yX3_depth, Cond.selects RX3 yX3_depth yX3_depth, Cond.code yX3_depth cX3_depth 2 (some .int), Cond.fieldLink RX3 18 "PuddleMinistries$Street" "waters" "[I", Cond.methodLink RX3 82 yX3_isFrozen, Cond.instanceMethod yX3_isFrozen]
def wsX4_walker_r3 : List Cond := [Cond.selects RX3 yX3_isFrozen yX3_isFrozen, Cond.code yX3_isFrozen cX3_isFrozen 2 (some .boolean), Cond.fieldLink RX3 46 "PuddleMinistries$Street" "frozenSet" "I", Cond.methodLink RX3 116 yX3_depthKeptOut, Cond.static yX3_depthKeptOut, Cond.code yX3_depthKeptOut cX3_depthKeptOut 1 (some .int)]
def wsX4_walker : List Cond := .code yX4_walker cX4_walker 3 (some .int) :: ((wsX4_walker_r1 ++ (wsX4_walker_r2 ++ wsX4_walker_r3)) ++ wsX40 ++ wsX30)
def wsX4_why_r1 : List Cond := [Cond.fieldLink RX4 10 "PuddleMinistries" "street" "LPuddleMinistries$Street;", Cond.fieldLink RX4 75 "PuddleMinistries$Street" "shoesOf" "[I", Cond.methodLink RX4 72 yX4_isWalker, Cond.static yX4_isWalker, Cond.initialized RX4, Cond.code yX4_isWalker cX4_isWalker 1 (some .boolean), Cond.methodLink RX4 51 yX4_isPuddle, Cond.static yX4_isPuddle, Cond.code yX4_isPuddle cX4_isPuddle 1 (some .boolean), Cond.methodLink RX4 152 yX3_reasonAgainst, Cond.instanceMethod yX3_reasonAgainst, Cond.selects RX3 yX3_reasonAgainst yX3_reasonAgainst, Cond.initialized RX3, Cond.code yX3_reasonAgainst cX3_reasonAgainst 5 (some .int), Cond.methodLink RX3 113 yX3_hasDucks, Cond.instanceMethod yX3_hasDucks, Cond.selects RX3 yX3_hasDucks yX3_hasDucks, Cond.code yX3_hasDucks cX3_hasDucks 2 (some .boolean), Cond.fieldLink RX3 50 "PuddleMinistries$Street" "ducksSet" "I", Cond.static yX4_isIn, Cond.code yX4_isIn cX4_isIn 2 (some .boolean), Cond.methodLink RX3 102 yX3_hasPermit, Cond.instanceMethod yX3_hasPermit, Cond.selects RX3 yX3_hasPermit yX3_hasPermit]
def wsX4_why_r2 : List Cond := [Cond.code yX3_hasPermit cX3_hasPermit 3 (some .boolean), Cond.fieldLink RX3 36 "PuddleMinistries$Street" "permitDays" "[I", Cond.static yX4_placeOf, Cond.code yX4_placeOf cX4_placeOf 2 (some .int), Cond.methodLink RX3 92 yX3_depth, Cond.instanceMethod yX3_depth, Cond.selects RX3 yX3_depth yX3_depth, Cond.code yX3_depth cX3_depth 2 (some .int), Cond.fieldLink RX3 18 "PuddleMinistries$Street" "waters" "[I", Cond.methodLink RX3 82 yX3_isFrozen, Cond.instanceMethod yX3_isFrozen, Cond.selects RX3 yX3_isFrozen yX3_isFrozen, Cond.code yX3_isFrozen cX3_isFrozen 2 (some .boolean), Cond.fieldLink RX3 46 "PuddleMinistries$Street" "frozenSet" "I", Cond.methodLink RX3 116 yX3_depthKeptOut, Cond.static yX3_depthKeptOut, Cond.code yX3_depthKeptOut cX3_depthKeptOut 1 (some .int)]
def wsX4_why : List Cond := .code yX4_why cX4_why 3 (some .int) :: ((wsX4_why_r1 ++ wsX4_why_r2) ++ wsX40 ++ wsX30)
def wsX4_holds : List Cond := .code yX4_holds cX4_holds 4 (some .int) :: ([.fieldLink RX4 10 "PuddleMinistries" "street" "LPuddleMinistries$Street;", .fieldLink RX4 78 "PuddleMinistries$Street" "permitDays" "[I", .methodLink RX4 72 yX4_isWalker, .static yX4_isWalker, .initialized RX4, .code yX4_isWalker cX4_isWalker 1 (some .boolean), .methodLink RX4 51 yX4_isPuddle, .static yX4_isPuddle, .code yX4_isPuddle cX4_isPuddle 1 (some .boolean), .methodLink RX4 81 yX4_placeOf, .static yX4_placeOf, .code yX4_placeOf cX4_placeOf 2 (some .int)] ++ wsX40 ++ wsX30)
def wsX4_count_r1 : List Cond := [Cond.fieldLink RX4 10 "PuddleMinistries" "street" "LPuddleMinistries$Street;", Cond.fieldLink RX4 48 "PuddleMinistries$Street" "settings" "[I", Cond.fieldLink RX4 110 "PuddleMinistries$Street" "days" "I", Cond.fieldLink RX4 65 "PuddleMinistries$Street" "waters" "[I", Cond.fieldLink RX4 155 "PuddleMinistries$Street" "fell" "I", Cond.fieldLink RX4 158 "PuddleMinistries$Street" "dried" "I", Cond.fieldLink RX4 161 "PuddleMinistries$Street" "drained" "I", Cond.fieldLink RX4 164 "PuddleMinistries$Street" "frozenSet" "I", Cond.fieldLink RX4 167 "PuddleMinistries$Street" "ducksSet" "I", Cond.fieldLink RX4 104 "PuddleMinistries$Street" "owedBy" "[I", Cond.fieldLink RX4 107 "PuddleMinistries$Street" "paidBy" "[I", Cond.fieldLink RX4 19 "PuddleMinistries" "pad" "LPuddleMinistries$Pad;", Cond.fieldLink RX4 128 "PuddleMinistries$Pad" "length" "I", Cond.fieldLink RX4 26 "PuddleMinistries" "history" "LPuddleMinistries$History;", Cond.fieldLink RX4 173 "PuddleMinistries$History" "size" "I", Cond.methodLink RX4 117 yX4_sum, Cond.static yX4_sum, Cond.initialized RX4, Cond.code yX4_sum cX4_sum 6 (some .int), Cond.methodLink RX4 170 yX3_allPermits, Cond.instanceMethod yX3_allPermits, Cond.selects RX3 yX3_allPermits yX3_allPermits, Cond.initialized RX3, Cond.code yX3_allPermits cX3_allPermits 3 (some .int)]
def wsX4_count_r2 : List Cond := [Cond.methodLink RX3 105 yX3_permitsOf, Cond.instanceMethod yX3_permitsOf, Cond.selects RX3 yX3_permitsOf yX3_permitsOf, Cond.code yX3_permitsOf cX3_permitsOf 4 (some .int), Cond.methodLink RX3 102 yX3_hasPermit, Cond.instanceMethod yX3_hasPermit, Cond.selects RX3 yX3_hasPermit yX3_hasPermit, Cond.code yX3_hasPermit cX3_hasPermit 3 (some .boolean), Cond.fieldLink RX3 36 "PuddleMinistries$Street" "permitDays" "[I", Cond.static yX4_placeOf, Cond.code yX4_placeOf cX4_placeOf 2 (some .int), Cond.methodLink RX3 108 yJ6_bitCount_0f7a4, Cond.static yJ6_bitCount_0f7a4, Cond.initialized RJ6, Cond.code yJ6_bitCount_0f7a4 cJ6_bitCount_0f7a4 1 (some .int), Cond.constant RJ6 265 (1431655765), Cond.constant RJ6 266 (858993459), Cond.constant RJ6 267 (252645135)]
def wsX4_count : List Cond := .code yX4_count cX4_count 2 (some .int) :: ((wsX4_count_r1 ++ wsX4_count_r2) ++ wsX40 ++ wsX30 ++ wsX10 ++ wsX00)
def wsX4_cost_r1 : List Cond := [Cond.fieldLink RX4 10 "PuddleMinistries" "street" "LPuddleMinistries$Street;", Cond.methodLink RX4 72 yX4_isWalker, Cond.static yX4_isWalker, Cond.initialized RX4, Cond.code yX4_isWalker cX4_isWalker 1 (some .boolean), Cond.methodLink RX4 51 yX4_isPuddle, Cond.static yX4_isPuddle, Cond.code yX4_isPuddle cX4_isPuddle 1 (some .boolean), Cond.methodLink RX4 176 yX3_costBySteps, Cond.instanceMethod yX3_costBySteps, Cond.selects RX3 yX3_costBySteps yX3_costBySteps, Cond.initialized RX3, Cond.code yX3_costBySteps cX3_costBySteps 8 (some .int), Cond.methodLink RX3 129 Lib.Math.abs.name, Cond.static Lib.Math.abs.name, Cond.initialized "java/lang/Math", Cond.code Lib.Math.abs.name Lib.Math.abs.code 1 (some .int), Cond.static yX4_placeAfter, Cond.code yX4_placeAfter cX4_placeAfter 3 (some .int), Cond.methodLink RX3 123 yX3_mayCross, Cond.instanceMethod yX3_mayCross, Cond.selects RX3 yX3_mayCross yX3_mayCross, Cond.code yX3_mayCross cX3_mayCross 3 (some .boolean), Cond.fieldLink RX3 24 "PuddleMinistries$Street" "shoesOf" "[I"]
def wsX4_cost_r2 : List Cond := [Cond.methodLink RX3 119 yX3_reasonAgainst, Cond.instanceMethod yX3_reasonAgainst, Cond.selects RX3 yX3_reasonAgainst yX3_reasonAgainst, Cond.code yX3_reasonAgainst cX3_reasonAgainst 5 (some .int), Cond.methodLink RX3 113 yX3_hasDucks, Cond.instanceMethod yX3_hasDucks, Cond.selects RX3 yX3_hasDucks yX3_hasDucks, Cond.code yX3_hasDucks cX3_hasDucks 2 (some .boolean), Cond.fieldLink RX3 50 "PuddleMinistries$Street" "ducksSet" "I", Cond.static yX4_isIn, Cond.code yX4_isIn cX4_isIn 2 (some .boolean), Cond.methodLink RX3 102 yX3_hasPermit, Cond.instanceMethod yX3_hasPermit, Cond.selects RX3 yX3_hasPermit yX3_hasPermit, Cond.code yX3_hasPermit cX3_hasPermit 3 (some .boolean), Cond.fieldLink RX3 36 "PuddleMinistries$Street" "permitDays" "[I", Cond.static yX4_placeOf, Cond.code yX4_placeOf cX4_placeOf 2 (some .int), Cond.methodLink RX3 92 yX3_depth, Cond.instanceMethod yX3_depth, Cond.selects RX3 yX3_depth yX3_depth, Cond.code yX3_depth cX3_depth 2 (some .int), Cond.fieldLink RX3 18 "PuddleMinistries$Street" "waters" "[I", Cond.methodLink RX3 82 yX3_isFrozen]
def wsX4_cost_r3 : List Cond := [Cond.instanceMethod yX3_isFrozen, Cond.selects RX3 yX3_isFrozen yX3_isFrozen, Cond.code yX3_isFrozen cX3_isFrozen 2 (some .boolean), Cond.fieldLink RX3 46 "PuddleMinistries$Street" "frozenSet" "I", Cond.methodLink RX3 116 yX3_depthKeptOut, Cond.static yX3_depthKeptOut, Cond.code yX3_depthKeptOut cX3_depthKeptOut 1 (some .int), Cond.methodLink RX3 126 yX3_dutyAt, Cond.instanceMethod yX3_dutyAt, Cond.selects RX3 yX3_dutyAt yX3_dutyAt, Cond.code yX3_dutyAt cX3_dutyAt 2 (some .int), Cond.fieldLink RX3 9 "PuddleMinistries$Street" "settings" "[I", Cond.methodLink RX4 179 yX3_costByBlock, Cond.instanceMethod yX3_costByBlock, Cond.selects RX3 yX3_costByBlock yX3_costByBlock, Cond.code yX3_costByBlock cX3_costByBlock 7 (some .int), Cond.methodLink RX3 135 yX3_stepsUntilBlocked, Cond.instanceMethod yX3_stepsUntilBlocked, Cond.selects RX3 yX3_stepsUntilBlocked yX3_stepsUntilBlocked, Cond.code yX3_stepsUntilBlocked cX3_stepsUntilBlocked 6 (some .int)]
def wsX4_cost : List Cond := .code yX4_cost cX4_cost 5 (some .int) :: ((wsX4_cost_r1 ++ (wsX4_cost_r2 ++ wsX4_cost_r3)) ++ wsX40 ++ wsX30)
def wsX4_untilDry : List Cond := .code yX4_untilDry cX4_untilDry 5 (some .int) :: ([.fieldLink RX4 10 "PuddleMinistries" "street" "LPuddleMinistries$Street;", .fieldLink RX4 65 "PuddleMinistries$Street" "waters" "[I", .fieldLink RX4 48 "PuddleMinistries$Street" "settings" "[I", .methodLink RX4 51 yX4_isPuddle, .static yX4_isPuddle, .initialized RX4, .code yX4_isPuddle cX4_isPuddle 1 (some .boolean), .methodLink RX4 137 yX3_isFrozen, .instanceMethod yX3_isFrozen, .selects RX3 yX3_isFrozen yX3_isFrozen, .initialized RX3, .code yX3_isFrozen cX3_isFrozen 2 (some .boolean), .fieldLink RX3 46 "PuddleMinistries$Street" "frozenSet" "I", .static yX4_isIn, .code yX4_isIn cX4_isIn 2 (some .boolean)] ++ wsX40 ++ wsX30)
def wsX4_leastShoes_r1 : List Cond := [Cond.fieldLink RX4 10 "PuddleMinistries" "street" "LPuddleMinistries$Street;", Cond.methodLink RX4 72 yX4_isWalker, Cond.static yX4_isWalker, Cond.initialized RX4, Cond.code yX4_isWalker cX4_isWalker 1 (some .boolean), Cond.methodLink RX4 182 yX3_allowsAllWith, Cond.instanceMethod yX3_allowsAllWith, Cond.selects RX3 yX3_allowsAllWith yX3_allowsAllWith, Cond.initialized RX3, Cond.code yX3_allowsAllWith cX3_allowsAllWith 4 (some .boolean), Cond.methodLink RX3 119 yX3_reasonAgainst, Cond.instanceMethod yX3_reasonAgainst, Cond.selects RX3 yX3_reasonAgainst yX3_reasonAgainst, Cond.code yX3_reasonAgainst cX3_reasonAgainst 5 (some .int), Cond.methodLink RX3 113 yX3_hasDucks, Cond.instanceMethod yX3_hasDucks, Cond.selects RX3 yX3_hasDucks yX3_hasDucks, Cond.code yX3_hasDucks cX3_hasDucks 2 (some .boolean), Cond.fieldLink RX3 50 "PuddleMinistries$Street" "ducksSet" "I", Cond.static yX4_isIn, Cond.code yX4_isIn cX4_isIn 2 (some .boolean), Cond.methodLink RX3 102 yX3_hasPermit, Cond.instanceMethod yX3_hasPermit, Cond.selects RX3 yX3_hasPermit yX3_hasPermit]
def wsX4_leastShoes_r2 : List Cond := [Cond.code yX3_hasPermit cX3_hasPermit 3 (some .boolean), Cond.fieldLink RX3 36 "PuddleMinistries$Street" "permitDays" "[I", Cond.static yX4_placeOf, Cond.code yX4_placeOf cX4_placeOf 2 (some .int), Cond.methodLink RX3 92 yX3_depth, Cond.instanceMethod yX3_depth, Cond.selects RX3 yX3_depth yX3_depth, Cond.code yX3_depth cX3_depth 2 (some .int), Cond.fieldLink RX3 18 "PuddleMinistries$Street" "waters" "[I", Cond.methodLink RX3 82 yX3_isFrozen, Cond.instanceMethod yX3_isFrozen, Cond.selects RX3 yX3_isFrozen yX3_isFrozen, Cond.code yX3_isFrozen cX3_isFrozen 2 (some .boolean), Cond.fieldLink RX3 46 "PuddleMinistries$Street" "frozenSet" "I", Cond.methodLink RX3 116 yX3_depthKeptOut, Cond.static yX3_depthKeptOut, Cond.code yX3_depthKeptOut cX3_depthKeptOut 1 (some .int)]
def wsX4_leastShoes : List Cond := .code yX4_leastShoes cX4_leastShoes 3 (some .int) :: ((wsX4_leastShoes_r1 ++ wsX4_leastShoes_r2) ++ wsX40 ++ wsX30)
def wsX4_longestWalk_r1 : List Cond := [Cond.fieldLink RX4 10 "PuddleMinistries" "street" "LPuddleMinistries$Street;", Cond.methodLink RX4 72 yX4_isWalker, Cond.static yX4_isWalker, Cond.initialized RX4, Cond.code yX4_isWalker cX4_isWalker 1 (some .boolean), Cond.methodLink RX4 149 yX3_allowedFor, Cond.instanceMethod yX3_allowedFor, Cond.selects RX3 yX3_allowedFor yX3_allowedFor, Cond.initialized RX3, Cond.code yX3_allowedFor cX3_allowedFor 4 (some .int), Cond.methodLink RX3 123 yX3_mayCross, Cond.instanceMethod yX3_mayCross, Cond.selects RX3 yX3_mayCross yX3_mayCross, Cond.code yX3_mayCross cX3_mayCross 3 (some .boolean), Cond.fieldLink RX3 24 "PuddleMinistries$Street" "shoesOf" "[I", Cond.methodLink RX3 119 yX3_reasonAgainst, Cond.instanceMethod yX3_reasonAgainst, Cond.selects RX3 yX3_reasonAgainst yX3_reasonAgainst, Cond.code yX3_reasonAgainst cX3_reasonAgainst 5 (some .int), Cond.methodLink RX3 113 yX3_hasDucks, Cond.instanceMethod yX3_hasDucks, Cond.selects RX3 yX3_hasDucks yX3_hasDucks, Cond.code yX3_hasDucks cX3_hasDucks 2 (some .boolean), Cond.fieldLink RX3 50 "PuddleMinistries$Street" "ducksSet" "I"]
def wsX4_longestWalk_r2 : List Cond := [Cond.static yX4_isIn, Cond.code yX4_isIn cX4_isIn 2 (some .boolean), Cond.methodLink RX3 102 yX3_hasPermit, Cond.instanceMethod yX3_hasPermit, Cond.selects RX3 yX3_hasPermit yX3_hasPermit, Cond.code yX3_hasPermit cX3_hasPermit 3 (some .boolean), Cond.fieldLink RX3 36 "PuddleMinistries$Street" "permitDays" "[I", Cond.static yX4_placeOf, Cond.code yX4_placeOf cX4_placeOf 2 (some .int), Cond.methodLink RX3 92 yX3_depth, Cond.instanceMethod yX3_depth, Cond.selects RX3 yX3_depth yX3_depth, Cond.code yX3_depth cX3_depth 2 (some .int), Cond.fieldLink RX3 18 "PuddleMinistries$Street" "waters" "[I", Cond.methodLink RX3 82 yX3_isFrozen, Cond.instanceMethod yX3_isFrozen, Cond.selects RX3 yX3_isFrozen yX3_isFrozen, Cond.code yX3_isFrozen cX3_isFrozen 2 (some .boolean), Cond.fieldLink RX3 46 "PuddleMinistries$Street" "frozenSet" "I", Cond.methodLink RX3 116 yX3_depthKeptOut, Cond.static yX3_depthKeptOut, Cond.code yX3_depthKeptOut cX3_depthKeptOut 1 (some .int), Cond.methodLink RX4 186 yX4_isIn]
def wsX4_longestWalk : List Cond := .code yX4_longestWalk cX4_longestWalk 8 (some .int) :: ((wsX4_longestWalk_r1 ++ wsX4_longestWalk_r2) ++ wsX40 ++ wsX30)
def wsX4_put : List Cond := .code yX4_put cX4_put 4 (some .int) :: ([.fieldLink RX4 19 "PuddleMinistries" "pad" "LPuddleMinistries$Pad;", .fieldLink RX4 128 "PuddleMinistries$Pad" "length" "I", .methodLink RX4 189 yX1_charactersIn, .static yX1_charactersIn, .initialized RX1, .code yX1_charactersIn cX1_charactersIn 7 (some .int), .constantLong RX1 15 (255), .constantLong RX1 17 (33), .constantLong RX1 19 (126), .methodLink RX4 193 yX1_append, .instanceMethod yX1_append, .selects RX1 yX1_append yX1_append, .code yX1_append cX1_append 5 none, .fieldLink RX1 21 "PuddleMinistries$Pad" "length" "I", .fieldLink RX1 11 "PuddleMinistries$Pad" "signs" "[C"] ++ wsX40 ++ wsX10)
def wsX4_wipe : List Cond := .code yX4_wipe cX4_wipe 2 (some .int) :: ([.fieldLink RX4 19 "PuddleMinistries" "pad" "LPuddleMinistries$Pad;", .fieldLink RX4 128 "PuddleMinistries$Pad" "length" "I"] ++ wsX40 ++ wsX10)
def wsX4_fault : List Cond := .code yX4_fault cX4_fault 1 (some .int) :: ([.fieldLink RX4 19 "PuddleMinistries" "pad" "LPuddleMinistries$Pad;", .methodLink RX4 121 yX1_findFault, .instanceMethod yX1_findFault, .selects RX1 yX1_findFault yX1_findFault, .initialized RX1, .code yX1_findFault cX1_findFault 4 (some .int), .fieldLink RX1 21 "PuddleMinistries$Pad" "length" "I", .fieldLink RX1 11 "PuddleMinistries$Pad" "signs" "[C", .methodLink RX1 25 yX1_isAmount, .static yX1_isAmount, .code yX1_isAmount cX1_isAmount 1 (some .boolean), .methodLink RX1 29 yX1_beginsHour, .static yX1_beginsHour, .code yX1_beginsHour cX1_beginsHour 1 (some .boolean)] ++ wsX40 ++ wsX10)
def wsX4_undo_r1 : List Cond := [Cond.fieldLink RX4 26 "PuddleMinistries" "history" "LPuddleMinistries$History;", Cond.fieldLink RX4 173 "PuddleMinistries$History" "size" "I", Cond.fieldLink RX4 10 "PuddleMinistries" "street" "LPuddleMinistries$Street;", Cond.methodLink RX4 197 yX0_takeBack, Cond.instanceMethod yX0_takeBack, Cond.selects RX0 yX0_takeBack yX0_takeBack, Cond.initialized RX0, Cond.code yX0_takeBack cX0_takeBack 2 none, Cond.fieldLink RX0 18 "PuddleMinistries$History" "size" "I", Cond.fieldLink RX0 11 "PuddleMinistries$History" "kept" "[LPuddleMinistries$Street;", Cond.methodLink RX0 25 yX3_copyFrom, Cond.instanceMethod yX3_copyFrom, Cond.selects RX3 yX3_copyFrom yX3_copyFrom, Cond.initialized RX3, Cond.code yX3_copyFrom cX3_copyFrom 2 none, Cond.fieldLink RX3 9 "PuddleMinistries$Street" "settings" "[I", Cond.fieldLink RX3 15 "PuddleMinistries$Street" "brims" "[I", Cond.fieldLink RX3 18 "PuddleMinistries$Street" "waters" "[I", Cond.fieldLink RX3 21 "PuddleMinistries$Street" "crossingsOf" "[I", Cond.fieldLink RX3 24 "PuddleMinistries$Street" "shoesOf" "[I", Cond.fieldLink RX3 27 "PuddleMinistries$Street" "owedBy" "[I", Cond.fieldLink RX3 30 "PuddleMinistries$Street" "paidBy" "[I", Cond.fieldLink RX3 33 "PuddleMinistries$Street" "crossedBy" "[I", Cond.fieldLink RX3 36 "PuddleMinistries$Street" "permitDays" "[I"]
def wsX4_undo_r2 : List Cond := [Cond.fieldLink RX3 46 "PuddleMinistries$Street" "frozenSet" "I", Cond.fieldLink RX3 50 "PuddleMinistries$Street" "ducksSet" "I", Cond.fieldLink RX3 53 "PuddleMinistries$Street" "days" "I", Cond.fieldLink RX3 56 "PuddleMinistries$Street" "fell" "I", Cond.fieldLink RX3 59 "PuddleMinistries$Street" "dried" "I", Cond.fieldLink RX3 62 "PuddleMinistries$Street" "drained" "I", Cond.static yX4_copy, Cond.initialized RX4, Cond.code yX4_copy cX4_copy 3 none]
def wsX4_undo : List Cond := .code yX4_undo cX4_undo 1 (some .int) :: ((wsX4_undo_r1 ++ wsX4_undo_r2) ++ wsX40 ++ wsX00 ++ wsX30)
def wsX4_save_r1 : List Cond := [Cond.fieldLink RX4 33 "PuddleMinistries" "slots" "LPuddleMinistries$Slots;", Cond.fieldLink RX4 200 "PuddleMinistries$Slots" "kept" "[LPuddleMinistries$Street;", Cond.fieldLink RX4 10 "PuddleMinistries" "street" "LPuddleMinistries$Street;", Cond.fieldLink RX4 207 "PuddleMinistries$Slots" "used" "[Z", Cond.fieldLink RX4 110 "PuddleMinistries$Street" "days" "I", Cond.methodLink RX4 204 yX3_copyFrom, Cond.instanceMethod yX3_copyFrom, Cond.selects RX3 yX3_copyFrom yX3_copyFrom, Cond.initialized RX3, Cond.code yX3_copyFrom cX3_copyFrom 2 none, Cond.fieldLink RX3 9 "PuddleMinistries$Street" "settings" "[I", Cond.fieldLink RX3 15 "PuddleMinistries$Street" "brims" "[I", Cond.fieldLink RX3 18 "PuddleMinistries$Street" "waters" "[I", Cond.fieldLink RX3 21 "PuddleMinistries$Street" "crossingsOf" "[I", Cond.fieldLink RX3 24 "PuddleMinistries$Street" "shoesOf" "[I", Cond.fieldLink RX3 27 "PuddleMinistries$Street" "owedBy" "[I", Cond.fieldLink RX3 30 "PuddleMinistries$Street" "paidBy" "[I", Cond.fieldLink RX3 33 "PuddleMinistries$Street" "crossedBy" "[I", Cond.fieldLink RX3 36 "PuddleMinistries$Street" "permitDays" "[I", Cond.fieldLink RX3 46 "PuddleMinistries$Street" "frozenSet" "I", Cond.fieldLink RX3 50 "PuddleMinistries$Street" "ducksSet" "I", Cond.fieldLink RX3 53 "PuddleMinistries$Street" "days" "I", Cond.fieldLink RX3 56 "PuddleMinistries$Street" "fell" "I", Cond.fieldLink RX3 59 "PuddleMinistries$Street" "dried" "I"]
def wsX4_save_r2 : List Cond := [Cond.fieldLink RX3 62 "PuddleMinistries$Street" "drained" "I", Cond.static yX4_copy, Cond.initialized RX4, Cond.code yX4_copy cX4_copy 3 none]
def wsX4_save : List Cond := .code yX4_save cX4_save 2 (some .int) :: ((wsX4_save_r1 ++ wsX4_save_r2) ++ wsX40 ++ wsX20 ++ wsX30)
def wsX4_restore_r1 : List Cond := [Cond.fieldLink RX4 33 "PuddleMinistries" "slots" "LPuddleMinistries$Slots;", Cond.fieldLink RX4 207 "PuddleMinistries$Slots" "used" "[Z", Cond.fieldLink RX4 26 "PuddleMinistries" "history" "LPuddleMinistries$History;", Cond.fieldLink RX4 10 "PuddleMinistries" "street" "LPuddleMinistries$Street;", Cond.fieldLink RX4 200 "PuddleMinistries$Slots" "kept" "[LPuddleMinistries$Street;", Cond.fieldLink RX4 110 "PuddleMinistries$Street" "days" "I", Cond.methodLink RX4 44 yX0_record, Cond.instanceMethod yX0_record, Cond.selects RX0 yX0_record yX0_record, Cond.initialized RX0, Cond.code yX0_record cX0_record 2 none, Cond.fieldLink RX0 18 "PuddleMinistries$History" "size" "I", Cond.fieldLink RX0 11 "PuddleMinistries$History" "kept" "[LPuddleMinistries$Street;", Cond.methodLink RX0 22 yX0_dropOldest, Cond.instanceMethod yX0_dropOldest, Cond.selects RX0 yX0_dropOldest yX0_dropOldest, Cond.code yX0_dropOldest cX0_dropOldest 3 none, Cond.methodLink RX0 25 yX3_copyFrom, Cond.instanceMethod yX3_copyFrom, Cond.selects RX3 yX3_copyFrom yX3_copyFrom, Cond.initialized RX3, Cond.code yX3_copyFrom cX3_copyFrom 2 none, Cond.fieldLink RX3 9 "PuddleMinistries$Street" "settings" "[I", Cond.fieldLink RX3 15 "PuddleMinistries$Street" "brims" "[I"]
def wsX4_restore_r2 : List Cond := [Cond.fieldLink RX3 18 "PuddleMinistries$Street" "waters" "[I", Cond.fieldLink RX3 21 "PuddleMinistries$Street" "crossingsOf" "[I", Cond.fieldLink RX3 24 "PuddleMinistries$Street" "shoesOf" "[I", Cond.fieldLink RX3 27 "PuddleMinistries$Street" "owedBy" "[I", Cond.fieldLink RX3 30 "PuddleMinistries$Street" "paidBy" "[I", Cond.fieldLink RX3 33 "PuddleMinistries$Street" "crossedBy" "[I", Cond.fieldLink RX3 36 "PuddleMinistries$Street" "permitDays" "[I", Cond.fieldLink RX3 46 "PuddleMinistries$Street" "frozenSet" "I", Cond.fieldLink RX3 50 "PuddleMinistries$Street" "ducksSet" "I", Cond.fieldLink RX3 53 "PuddleMinistries$Street" "days" "I", Cond.fieldLink RX3 56 "PuddleMinistries$Street" "fell" "I", Cond.fieldLink RX3 59 "PuddleMinistries$Street" "dried" "I", Cond.fieldLink RX3 62 "PuddleMinistries$Street" "drained" "I", Cond.static yX4_copy, Cond.initialized RX4, Cond.code yX4_copy cX4_copy 3 none, Cond.methodLink RX4 204 yX3_copyFrom]
def wsX4_restore : List Cond := .code yX4_restore cX4_restore 2 (some .int) :: ((wsX4_restore_r1 ++ wsX4_restore_r2) ++ wsX40 ++ wsX20 ++ wsX30 ++ wsX00)
def wsX5_lay : List Cond := .code yX5_lay cX5_lay 4 none :: ([.fieldLink RX5 7 "PuddleMinistriesModel" "z" "[I"] ++ wsX50)
def wsX5_init : List Cond := .code yX5_init cX5_init 2 none :: ([.methodLink RX5 1 objectInit, .instanceMethod objectInit, .code objectInit ⟨#[0xb1]⟩ 1 none, .arrayClass .int, .fieldLink RX5 7 "PuddleMinistriesModel" "z" "[I", .fieldLink RX5 13 "PuddleMinistriesModel" "past" "[I", .fieldLink RX5 16 "PuddleMinistriesModel" "slots" "[I", .arrayClass .boolean, .fieldLink RX5 19 "PuddleMinistriesModel" "isSaved" "[Z", .fieldLink RX5 23 "PuddleMinistriesModel" "pad" "[I", .fieldLink RX5 26 "PuddleMinistriesModel" "told" "[I", .methodLink RX5 29 yX5_lay, .instanceMethod yX5_lay, .selects RX5 yX5_lay yX5_lay, .initialized RX5, .code yX5_lay cX5_lay 4 none] ++ wsX50)
def wsX5_in : List Cond := .code yX5_in cX5_in 3 (some .boolean) :: ([])
def wsX5_isPuddle : List Cond := .code yX5_isPuddle cX5_isPuddle 1 (some .boolean) :: ([.methodLink RX5 33 yX5_in, .static yX5_in, .initialized RX5, .code yX5_in cX5_in 3 (some .boolean)])
def wsX5_isWalker : List Cond := .code yX5_isWalker cX5_isWalker 1 (some .boolean) :: ([.methodLink RX5 33 yX5_in, .static yX5_in, .initialized RX5, .code yX5_in cX5_in 3 (some .boolean)])
def wsX5_of : List Cond := .code yX5_of cX5_of 3 (some .int) :: ([.fieldLink RX5 7 "PuddleMinistriesModel" "z" "[I"] ++ wsX50)
def wsX5_ofWalker : List Cond := .code yX5_ofWalker cX5_ofWalker 3 (some .int) :: ([.fieldLink RX5 7 "PuddleMinistriesModel" "z" "[I"] ++ wsX50)
def wsX5_layWalker : List Cond := .code yX5_layWalker cX5_layWalker 4 none :: ([.fieldLink RX5 7 "PuddleMinistriesModel" "z" "[I"] ++ wsX50)
def wsX5_days : List Cond := .code yX5_days cX5_days 3 (some .int) :: ([.fieldLink RX5 7 "PuddleMinistriesModel" "z" "[I"] ++ wsX50)
def wsX5_isFrozen : List Cond := .code yX5_isFrozen cX5_isFrozen 2 (some .boolean) :: ([.methodLink RX5 37 yX5_of, .instanceMethod yX5_of, .selects RX5 yX5_of yX5_of, .initialized RX5, .code yX5_of cX5_of 3 (some .int), .fieldLink RX5 7 "PuddleMinistriesModel" "z" "[I"] ++ wsX50)
def wsX5_depth : List Cond := .code yX5_depth cX5_depth 2 (some .int) :: ([.methodLink RX5 37 yX5_of, .instanceMethod yX5_of, .selects RX5 yX5_of yX5_of, .initialized RX5, .code yX5_of cX5_of 3 (some .int), .fieldLink RX5 7 "PuddleMinistriesModel" "z" "[I"] ++ wsX50)
def wsX5_copyState : List Cond := .code yX5_copyState cX5_copyState 5 none :: ([])
def wsX5_record : List Cond := .code yX5_record cX5_record 2 none :: ([.fieldLink RX5 41 "PuddleMinistriesModel" "states" "I", .fieldLink RX5 13 "PuddleMinistriesModel" "past" "[I", .fieldLink RX5 7 "PuddleMinistriesModel" "z" "[I", .methodLink RX5 45 yX5_copyState, .static yX5_copyState, .initialized RX5, .code yX5_copyState cX5_copyState 5 none] ++ wsX50)
def wsX5_undo : List Cond := .code yX5_undo cX5_undo 1 (some .int) :: ([.fieldLink RX5 41 "PuddleMinistriesModel" "states" "I", .fieldLink RX5 13 "PuddleMinistriesModel" "past" "[I", .fieldLink RX5 7 "PuddleMinistriesModel" "z" "[I", .methodLink RX5 45 yX5_copyState, .static yX5_copyState, .initialized RX5, .code yX5_copyState cX5_copyState 5 none] ++ wsX50)
def wsX5_save : List Cond := .code yX5_save cX5_save 2 (some .int) :: ([.fieldLink RX5 7 "PuddleMinistriesModel" "z" "[I", .fieldLink RX5 16 "PuddleMinistriesModel" "slots" "[I", .fieldLink RX5 19 "PuddleMinistriesModel" "isSaved" "[Z", .methodLink RX5 33 yX5_in, .static yX5_in, .initialized RX5, .code yX5_in cX5_in 3 (some .boolean), .methodLink RX5 45 yX5_copyState, .static yX5_copyState, .code yX5_copyState cX5_copyState 5 none] ++ wsX50)
def wsX5_restore : List Cond := .code yX5_restore cX5_restore 2 (some .int) :: ([.fieldLink RX5 19 "PuddleMinistriesModel" "isSaved" "[Z", .fieldLink RX5 16 "PuddleMinistriesModel" "slots" "[I", .fieldLink RX5 7 "PuddleMinistriesModel" "z" "[I", .methodLink RX5 33 yX5_in, .static yX5_in, .initialized RX5, .code yX5_in cX5_in 3 (some .boolean), .methodLink RX5 49 yX5_record, .instanceMethod yX5_record, .selects RX5 yX5_record yX5_record, .code yX5_record cX5_record 2 none, .fieldLink RX5 41 "PuddleMinistriesModel" "states" "I", .fieldLink RX5 13 "PuddleMinistriesModel" "past" "[I", .methodLink RX5 45 yX5_copyState, .static yX5_copyState, .code yX5_copyState cX5_copyState 5 none] ++ wsX50)
def wsX5_isValue : List Cond := .code yX5_isValue cX5_isValue 2 (some .boolean) :: ([.methodLink RX5 33 yX5_in, .static yX5_in, .initialized RX5, .code yX5_in cX5_in 3 (some .boolean)])
def wsX5_set : List Cond := .code yX5_set cX5_set 4 (some .int) :: ([.fieldLink RX5 7 "PuddleMinistriesModel" "z" "[I", .methodLink RX5 52 yX5_isValue, .static yX5_isValue, .initialized RX5, .code yX5_isValue cX5_isValue 2 (some .boolean), .methodLink RX5 33 yX5_in, .static yX5_in, .code yX5_in cX5_in 3 (some .boolean), .methodLink RX5 49 yX5_record, .instanceMethod yX5_record, .selects RX5 yX5_record yX5_record, .code yX5_record cX5_record 2 none, .fieldLink RX5 41 "PuddleMinistriesModel" "states" "I", .fieldLink RX5 13 "PuddleMinistriesModel" "past" "[I", .methodLink RX5 45 yX5_copyState, .static yX5_copyState, .code yX5_copyState cX5_copyState 5 none] ++ wsX50)
def wsX5_drainAbove : List Cond := .code yX5_drainAbove cX5_drainAbove 4 none :: ([.fieldLink RX5 7 "PuddleMinistriesModel" "z" "[I", .methodLink RX5 37 yX5_of, .instanceMethod yX5_of, .selects RX5 yX5_of yX5_of, .initialized RX5, .code yX5_of cX5_of 3 (some .int), .methodLink RX5 29 yX5_lay, .instanceMethod yX5_lay, .selects RX5 yX5_lay yX5_lay, .code yX5_lay cX5_lay 4 none] ++ wsX50)
def wsX5_brim_r1 : List Cond := [Cond.methodLink RX5 56 yX5_isPuddle, Cond.static yX5_isPuddle, Cond.initialized RX5, Cond.code yX5_isPuddle cX5_isPuddle 1 (some .boolean), Cond.methodLink RX5 33 yX5_in, Cond.static yX5_in, Cond.code yX5_in cX5_in 3 (some .boolean), Cond.methodLink RX5 49 yX5_record, Cond.instanceMethod yX5_record, Cond.selects RX5 yX5_record yX5_record, Cond.code yX5_record cX5_record 2 none, Cond.fieldLink RX5 41 "PuddleMinistriesModel" "states" "I", Cond.fieldLink RX5 13 "PuddleMinistriesModel" "past" "[I", Cond.fieldLink RX5 7 "PuddleMinistriesModel" "z" "[I", Cond.methodLink RX5 45 yX5_copyState, Cond.static yX5_copyState, Cond.code yX5_copyState cX5_copyState 5 none, Cond.methodLink RX5 37 yX5_of, Cond.instanceMethod yX5_of, Cond.selects RX5 yX5_of yX5_of, Cond.code yX5_of cX5_of 3 (some .int), Cond.methodLink RX5 29 yX5_lay, Cond.instanceMethod yX5_lay, Cond.selects RX5 yX5_lay yX5_lay]
def wsX5_brim_r2 : List Cond := [Cond.code yX5_lay cX5_lay 4 none, Cond.methodLink RX5 60 yX5_drainAbove, Cond.instanceMethod yX5_drainAbove, Cond.selects RX5 yX5_drainAbove yX5_drainAbove, Cond.code yX5_drainAbove cX5_drainAbove 4 none]
def wsX5_brim : List Cond := .code yX5_brim cX5_brim 4 (some .int) :: ((wsX5_brim_r1 ++ wsX5_brim_r2) ++ wsX50)
def wsX5_hasDucks : List Cond := .code yX5_hasDucks cX5_hasDucks 2 (some .boolean) :: ([.methodLink RX5 37 yX5_of, .instanceMethod yX5_of, .selects RX5 yX5_of yX5_of, .initialized RX5, .code yX5_of cX5_of 3 (some .int), .fieldLink RX5 7 "PuddleMinistriesModel" "z" "[I"] ++ wsX50)
def wsX5_drain_r1 : List Cond := [Cond.methodLink RX5 56 yX5_isPuddle, Cond.static yX5_isPuddle, Cond.initialized RX5, Cond.code yX5_isPuddle cX5_isPuddle 1 (some .boolean), Cond.methodLink RX5 33 yX5_in, Cond.static yX5_in, Cond.code yX5_in cX5_in 3 (some .boolean), Cond.methodLink RX5 64 yX5_hasDucks, Cond.instanceMethod yX5_hasDucks, Cond.selects RX5 yX5_hasDucks yX5_hasDucks, Cond.code yX5_hasDucks cX5_hasDucks 2 (some .boolean), Cond.methodLink RX5 37 yX5_of, Cond.instanceMethod yX5_of, Cond.selects RX5 yX5_of yX5_of, Cond.code yX5_of cX5_of 3 (some .int), Cond.fieldLink RX5 7 "PuddleMinistriesModel" "z" "[I", Cond.methodLink RX5 49 yX5_record, Cond.instanceMethod yX5_record, Cond.selects RX5 yX5_record yX5_record, Cond.code yX5_record cX5_record 2 none, Cond.fieldLink RX5 41 "PuddleMinistriesModel" "states" "I", Cond.fieldLink RX5 13 "PuddleMinistriesModel" "past" "[I", Cond.methodLink RX5 45 yX5_copyState, Cond.static yX5_copyState]
def wsX5_drain_r2 : List Cond := [Cond.code yX5_copyState cX5_copyState 5 none, Cond.methodLink RX5 60 yX5_drainAbove, Cond.instanceMethod yX5_drainAbove, Cond.selects RX5 yX5_drainAbove yX5_drainAbove, Cond.code yX5_drainAbove cX5_drainAbove 4 none, Cond.methodLink RX5 29 yX5_lay, Cond.instanceMethod yX5_lay, Cond.selects RX5 yX5_lay yX5_lay, Cond.code yX5_lay cX5_lay 4 none]
def wsX5_drain : List Cond := .code yX5_drain cX5_drain 3 (some .int) :: ((wsX5_drain_r1 ++ wsX5_drain_r2) ++ wsX50)
def wsX5_shoes_r1 : List Cond := [Cond.methodLink RX5 67 yX5_isWalker, Cond.static yX5_isWalker, Cond.initialized RX5, Cond.code yX5_isWalker cX5_isWalker 1 (some .boolean), Cond.methodLink RX5 33 yX5_in, Cond.static yX5_in, Cond.code yX5_in cX5_in 3 (some .boolean), Cond.methodLink RX5 49 yX5_record, Cond.instanceMethod yX5_record, Cond.selects RX5 yX5_record yX5_record, Cond.code yX5_record cX5_record 2 none, Cond.fieldLink RX5 41 "PuddleMinistriesModel" "states" "I", Cond.fieldLink RX5 13 "PuddleMinistriesModel" "past" "[I", Cond.fieldLink RX5 7 "PuddleMinistriesModel" "z" "[I", Cond.methodLink RX5 45 yX5_copyState, Cond.static yX5_copyState, Cond.code yX5_copyState cX5_copyState 5 none, Cond.methodLink RX5 70 yX5_ofWalker, Cond.instanceMethod yX5_ofWalker, Cond.selects RX5 yX5_ofWalker yX5_ofWalker, Cond.code yX5_ofWalker cX5_ofWalker 3 (some .int), Cond.methodLink RX5 73 yX5_layWalker, Cond.instanceMethod yX5_layWalker, Cond.selects RX5 yX5_layWalker yX5_layWalker]
def wsX5_shoes_r2 : List Cond := [Cond.code yX5_layWalker cX5_layWalker 4 none]
def wsX5_shoes : List Cond := .code yX5_shoes cX5_shoes 4 (some .int) :: ((wsX5_shoes_r1 ++ wsX5_shoes_r2) ++ wsX50)
def wsX5_size : List Cond := .code yX5_size cX5_size 3 (some .int) :: ([])
def wsX5_permits : List Cond := .code yX5_permits cX5_permits 4 (some .int) :: ([.methodLink RX5 76 yX5_days, .instanceMethod yX5_days, .selects RX5 yX5_days yX5_days, .initialized RX5, .code yX5_days cX5_days 3 (some .int), .fieldLink RX5 7 "PuddleMinistriesModel" "z" "[I"] ++ wsX50)
def wsX5_permit_r1 : List Cond := [Cond.fieldLink RX5 7 "PuddleMinistriesModel" "z" "[I", Cond.methodLink RX5 67 yX5_isWalker, Cond.static yX5_isWalker, Cond.initialized RX5, Cond.code yX5_isWalker cX5_isWalker 1 (some .boolean), Cond.methodLink RX5 33 yX5_in, Cond.static yX5_in, Cond.code yX5_in cX5_in 3 (some .boolean), Cond.methodLink RX5 56 yX5_isPuddle, Cond.static yX5_isPuddle, Cond.code yX5_isPuddle cX5_isPuddle 1 (some .boolean), Cond.methodLink RX5 64 yX5_hasDucks, Cond.instanceMethod yX5_hasDucks, Cond.selects RX5 yX5_hasDucks yX5_hasDucks, Cond.code yX5_hasDucks cX5_hasDucks 2 (some .boolean), Cond.methodLink RX5 37 yX5_of, Cond.instanceMethod yX5_of, Cond.selects RX5 yX5_of yX5_of, Cond.code yX5_of cX5_of 3 (some .int), Cond.methodLink RX5 49 yX5_record, Cond.instanceMethod yX5_record, Cond.selects RX5 yX5_record yX5_record, Cond.code yX5_record cX5_record 2 none, Cond.fieldLink RX5 41 "PuddleMinistriesModel" "states" "I"]
def wsX5_permit_r2 : List Cond := [Cond.fieldLink RX5 13 "PuddleMinistriesModel" "past" "[I", Cond.methodLink RX5 45 yX5_copyState, Cond.static yX5_copyState, Cond.code yX5_copyState cX5_copyState 5 none, Cond.methodLink RX5 79 yX5_permits, Cond.instanceMethod yX5_permits, Cond.selects RX5 yX5_permits yX5_permits, Cond.code yX5_permits cX5_permits 4 (some .int), Cond.methodLink RX5 76 yX5_days, Cond.instanceMethod yX5_days, Cond.selects RX5 yX5_days yX5_days, Cond.code yX5_days cX5_days 3 (some .int), Cond.methodLink RX5 83 yX5_size, Cond.static yX5_size, Cond.code yX5_size cX5_size 3 (some .int)]
def wsX5_permit : List Cond := .code yX5_permit cX5_permit 3 (some .int) :: ((wsX5_permit_r1 ++ wsX5_permit_r2) ++ wsX50)
def wsX5_reason : List Cond := .code yX5_reason cX5_reason 5 (some .int) :: ([.methodLink RX5 64 yX5_hasDucks, .instanceMethod yX5_hasDucks, .selects RX5 yX5_hasDucks yX5_hasDucks, .initialized RX5, .code yX5_hasDucks cX5_hasDucks 2 (some .boolean), .methodLink RX5 37 yX5_of, .instanceMethod yX5_of, .selects RX5 yX5_of yX5_of, .code yX5_of cX5_of 3 (some .int), .fieldLink RX5 7 "PuddleMinistriesModel" "z" "[I", .methodLink RX5 76 yX5_days, .instanceMethod yX5_days, .selects RX5 yX5_days yX5_days, .code yX5_days cX5_days 3 (some .int), .methodLink RX5 86 yX5_isFrozen, .instanceMethod yX5_isFrozen, .selects RX5 yX5_isFrozen yX5_isFrozen, .code yX5_isFrozen cX5_isFrozen 2 (some .boolean), .methodLink RX5 89 yX5_depth, .instanceMethod yX5_depth, .selects RX5 yX5_depth yX5_depth, .code yX5_depth cX5_depth 2 (some .int)] ++ wsX50)
def wsX5_reasonNow_r1 : List Cond := [Cond.methodLink RX5 70 yX5_ofWalker, Cond.instanceMethod yX5_ofWalker, Cond.selects RX5 yX5_ofWalker yX5_ofWalker, Cond.initialized RX5, Cond.code yX5_ofWalker cX5_ofWalker 3 (some .int), Cond.fieldLink RX5 7 "PuddleMinistriesModel" "z" "[I", Cond.methodLink RX5 92 yX5_reason, Cond.instanceMethod yX5_reason, Cond.selects RX5 yX5_reason yX5_reason, Cond.code yX5_reason cX5_reason 5 (some .int), Cond.methodLink RX5 64 yX5_hasDucks, Cond.instanceMethod yX5_hasDucks, Cond.selects RX5 yX5_hasDucks yX5_hasDucks, Cond.code yX5_hasDucks cX5_hasDucks 2 (some .boolean), Cond.methodLink RX5 37 yX5_of, Cond.instanceMethod yX5_of, Cond.selects RX5 yX5_of yX5_of, Cond.code yX5_of cX5_of 3 (some .int), Cond.methodLink RX5 76 yX5_days, Cond.instanceMethod yX5_days, Cond.selects RX5 yX5_days yX5_days, Cond.code yX5_days cX5_days 3 (some .int), Cond.methodLink RX5 86 yX5_isFrozen, Cond.instanceMethod yX5_isFrozen]
def wsX5_reasonNow_r2 : List Cond := [Cond.selects RX5 yX5_isFrozen yX5_isFrozen, Cond.code yX5_isFrozen cX5_isFrozen 2 (some .boolean), Cond.methodLink RX5 89 yX5_depth, Cond.instanceMethod yX5_depth, Cond.selects RX5 yX5_depth yX5_depth, Cond.code yX5_depth cX5_depth 2 (some .int)]
def wsX5_reasonNow : List Cond := .code yX5_reasonNow cX5_reasonNow 3 (some .int) :: ((wsX5_reasonNow_r1 ++ wsX5_reasonNow_r2) ++ wsX50)
def wsX5_duty : List Cond := .code yX5_duty cX5_duty 2 (some .int) :: ([.fieldLink RX5 7 "PuddleMinistriesModel" "z" "[I", .methodLink RX5 86 yX5_isFrozen, .instanceMethod yX5_isFrozen, .selects RX5 yX5_isFrozen yX5_isFrozen, .initialized RX5, .code yX5_isFrozen cX5_isFrozen 2 (some .boolean), .methodLink RX5 37 yX5_of, .instanceMethod yX5_of, .selects RX5 yX5_of yX5_of, .code yX5_of cX5_of 3 (some .int), .methodLink RX5 89 yX5_depth, .instanceMethod yX5_depth, .selects RX5 yX5_depth yX5_depth, .code yX5_depth cX5_depth 2 (some .int)] ++ wsX50)
def wsX5_allowed_r1 : List Cond := [Cond.methodLink RX5 96 yX5_reasonNow, Cond.instanceMethod yX5_reasonNow, Cond.selects RX5 yX5_reasonNow yX5_reasonNow, Cond.initialized RX5, Cond.code yX5_reasonNow cX5_reasonNow 3 (some .int), Cond.methodLink RX5 70 yX5_ofWalker, Cond.instanceMethod yX5_ofWalker, Cond.selects RX5 yX5_ofWalker yX5_ofWalker, Cond.code yX5_ofWalker cX5_ofWalker 3 (some .int), Cond.fieldLink RX5 7 "PuddleMinistriesModel" "z" "[I", Cond.methodLink RX5 92 yX5_reason, Cond.instanceMethod yX5_reason, Cond.selects RX5 yX5_reason yX5_reason, Cond.code yX5_reason cX5_reason 5 (some .int), Cond.methodLink RX5 64 yX5_hasDucks, Cond.instanceMethod yX5_hasDucks, Cond.selects RX5 yX5_hasDucks yX5_hasDucks, Cond.code yX5_hasDucks cX5_hasDucks 2 (some .boolean), Cond.methodLink RX5 37 yX5_of, Cond.instanceMethod yX5_of, Cond.selects RX5 yX5_of yX5_of, Cond.code yX5_of cX5_of 3 (some .int), Cond.methodLink RX5 76 yX5_days, Cond.instanceMethod yX5_days]
def wsX5_allowed_r2 : List Cond := [Cond.selects RX5 yX5_days yX5_days, Cond.code yX5_days cX5_days 3 (some .int), Cond.methodLink RX5 86 yX5_isFrozen, Cond.instanceMethod yX5_isFrozen, Cond.selects RX5 yX5_isFrozen yX5_isFrozen, Cond.code yX5_isFrozen cX5_isFrozen 2 (some .boolean), Cond.methodLink RX5 89 yX5_depth, Cond.instanceMethod yX5_depth, Cond.selects RX5 yX5_depth yX5_depth, Cond.code yX5_depth cX5_depth 2 (some .int)]
def wsX5_allowed : List Cond := .code yX5_allowed cX5_allowed 7 (some .int) :: ((wsX5_allowed_r1 ++ wsX5_allowed_r2) ++ wsX50)
def wsX5_duties : List Cond := .code yX5_duties cX5_duties 7 (some .int) :: ([.methodLink RX5 99 yX5_duty, .instanceMethod yX5_duty, .selects RX5 yX5_duty yX5_duty, .initialized RX5, .code yX5_duty cX5_duty 2 (some .int), .fieldLink RX5 7 "PuddleMinistriesModel" "z" "[I", .methodLink RX5 86 yX5_isFrozen, .instanceMethod yX5_isFrozen, .selects RX5 yX5_isFrozen yX5_isFrozen, .code yX5_isFrozen cX5_isFrozen 2 (some .boolean), .methodLink RX5 37 yX5_of, .instanceMethod yX5_of, .selects RX5 yX5_of yX5_of, .code yX5_of cX5_of 3 (some .int), .methodLink RX5 89 yX5_depth, .instanceMethod yX5_depth, .selects RX5 yX5_depth yX5_depth, .code yX5_depth cX5_depth 2 (some .int)] ++ wsX50)
def wsX5_walk_r1 : List Cond := [Cond.methodLink RX5 67 yX5_isWalker, Cond.static yX5_isWalker, Cond.initialized RX5, Cond.code yX5_isWalker cX5_isWalker 1 (some .boolean), Cond.methodLink RX5 33 yX5_in, Cond.static yX5_in, Cond.code yX5_in cX5_in 3 (some .boolean), Cond.methodLink RX5 56 yX5_isPuddle, Cond.static yX5_isPuddle, Cond.code yX5_isPuddle cX5_isPuddle 1 (some .boolean), Cond.methodLink RX5 49 yX5_record, Cond.instanceMethod yX5_record, Cond.selects RX5 yX5_record yX5_record, Cond.code yX5_record cX5_record 2 none, Cond.fieldLink RX5 41 "PuddleMinistriesModel" "states" "I", Cond.fieldLink RX5 13 "PuddleMinistriesModel" "past" "[I", Cond.fieldLink RX5 7 "PuddleMinistriesModel" "z" "[I", Cond.methodLink RX5 45 yX5_copyState, Cond.static yX5_copyState, Cond.code yX5_copyState cX5_copyState 5 none, Cond.methodLink RX5 102 yX5_allowed, Cond.instanceMethod yX5_allowed, Cond.selects RX5 yX5_allowed yX5_allowed, Cond.code yX5_allowed cX5_allowed 7 (some .int)]
def wsX5_walk_r2 : List Cond := [Cond.methodLink RX5 96 yX5_reasonNow, Cond.instanceMethod yX5_reasonNow, Cond.selects RX5 yX5_reasonNow yX5_reasonNow, Cond.code yX5_reasonNow cX5_reasonNow 3 (some .int), Cond.methodLink RX5 70 yX5_ofWalker, Cond.instanceMethod yX5_ofWalker, Cond.selects RX5 yX5_ofWalker yX5_ofWalker, Cond.code yX5_ofWalker cX5_ofWalker 3 (some .int), Cond.methodLink RX5 92 yX5_reason, Cond.instanceMethod yX5_reason, Cond.selects RX5 yX5_reason yX5_reason, Cond.code yX5_reason cX5_reason 5 (some .int), Cond.methodLink RX5 64 yX5_hasDucks, Cond.instanceMethod yX5_hasDucks, Cond.selects RX5 yX5_hasDucks yX5_hasDucks, Cond.code yX5_hasDucks cX5_hasDucks 2 (some .boolean), Cond.methodLink RX5 37 yX5_of, Cond.instanceMethod yX5_of, Cond.selects RX5 yX5_of yX5_of, Cond.code yX5_of cX5_of 3 (some .int), Cond.methodLink RX5 76 yX5_days, Cond.instanceMethod yX5_days, Cond.selects RX5 yX5_days yX5_days, Cond.code yX5_days cX5_days 3 (some .int)]
def wsX5_walk_r3 : List Cond := [Cond.methodLink RX5 86 yX5_isFrozen, Cond.instanceMethod yX5_isFrozen, Cond.selects RX5 yX5_isFrozen yX5_isFrozen, Cond.code yX5_isFrozen cX5_isFrozen 2 (some .boolean), Cond.methodLink RX5 89 yX5_depth, Cond.instanceMethod yX5_depth, Cond.selects RX5 yX5_depth yX5_depth, Cond.code yX5_depth cX5_depth 2 (some .int), Cond.methodLink RX5 105 yX5_duties, Cond.instanceMethod yX5_duties, Cond.selects RX5 yX5_duties yX5_duties, Cond.code yX5_duties cX5_duties 7 (some .int), Cond.methodLink RX5 99 yX5_duty, Cond.instanceMethod yX5_duty, Cond.selects RX5 yX5_duty yX5_duty, Cond.code yX5_duty cX5_duty 2 (some .int), Cond.methodLink RX5 73 yX5_layWalker, Cond.instanceMethod yX5_layWalker, Cond.selects RX5 yX5_layWalker yX5_layWalker, Cond.code yX5_layWalker cX5_layWalker 4 none, Cond.methodLink RX5 29 yX5_lay, Cond.instanceMethod yX5_lay, Cond.selects RX5 yX5_lay yX5_lay, Cond.code yX5_lay cX5_lay 4 none]
def wsX5_walk : List Cond := .code yX5_walk cX5_walk 7 (some .int) :: ((wsX5_walk_r1 ++ (wsX5_walk_r2 ++ wsX5_walk_r3)) ++ wsX50)
def wsX5_pay_r1 : List Cond := [Cond.methodLink RX5 67 yX5_isWalker, Cond.static yX5_isWalker, Cond.initialized RX5, Cond.code yX5_isWalker cX5_isWalker 1 (some .boolean), Cond.methodLink RX5 33 yX5_in, Cond.static yX5_in, Cond.code yX5_in cX5_in 3 (some .boolean), Cond.methodLink RX5 49 yX5_record, Cond.instanceMethod yX5_record, Cond.selects RX5 yX5_record yX5_record, Cond.code yX5_record cX5_record 2 none, Cond.fieldLink RX5 41 "PuddleMinistriesModel" "states" "I", Cond.fieldLink RX5 13 "PuddleMinistriesModel" "past" "[I", Cond.fieldLink RX5 7 "PuddleMinistriesModel" "z" "[I", Cond.methodLink RX5 45 yX5_copyState, Cond.static yX5_copyState, Cond.code yX5_copyState cX5_copyState 5 none, Cond.methodLink RX5 70 yX5_ofWalker, Cond.instanceMethod yX5_ofWalker, Cond.selects RX5 yX5_ofWalker yX5_ofWalker, Cond.code yX5_ofWalker cX5_ofWalker 3 (some .int), Cond.methodLink RX5 73 yX5_layWalker, Cond.instanceMethod yX5_layWalker, Cond.selects RX5 yX5_layWalker yX5_layWalker]
def wsX5_pay_r2 : List Cond := [Cond.code yX5_layWalker cX5_layWalker 4 none]
def wsX5_pay : List Cond := .code yX5_pay cX5_pay 3 (some .int) :: ((wsX5_pay_r1 ++ wsX5_pay_r2) ++ wsX50)
def wsX5_sun : List Cond := .code yX5_sun cX5_sun 3 none :: ([.fieldLink RX5 7 "PuddleMinistriesModel" "z" "[I", .methodLink RX5 86 yX5_isFrozen, .instanceMethod yX5_isFrozen, .selects RX5 yX5_isFrozen yX5_isFrozen, .initialized RX5, .code yX5_isFrozen cX5_isFrozen 2 (some .boolean), .methodLink RX5 37 yX5_of, .instanceMethod yX5_of, .selects RX5 yX5_of yX5_of, .code yX5_of cX5_of 3 (some .int), .methodLink RX5 29 yX5_lay, .instanceMethod yX5_lay, .selects RX5 yX5_lay yX5_lay, .code yX5_lay cX5_lay 4 none] ++ wsX50)
def wsX5_rain : List Cond := .code yX5_rain cX5_rain 6 none :: ([.fieldLink RX5 7 "PuddleMinistriesModel" "z" "[I", .methodLink RX5 86 yX5_isFrozen, .instanceMethod yX5_isFrozen, .selects RX5 yX5_isFrozen yX5_isFrozen, .initialized RX5, .code yX5_isFrozen cX5_isFrozen 2 (some .boolean), .methodLink RX5 37 yX5_of, .instanceMethod yX5_of, .selects RX5 yX5_of yX5_of, .code yX5_of cX5_of 3 (some .int), .methodLink RX5 29 yX5_lay, .instanceMethod yX5_lay, .selects RX5 yX5_lay yX5_lay, .code yX5_lay cX5_lay 4 none] ++ wsX50)
def wsX5_frost : List Cond := .code yX5_frost cX5_frost 2 none :: ([.methodLink RX5 89 yX5_depth, .instanceMethod yX5_depth, .selects RX5 yX5_depth yX5_depth, .initialized RX5, .code yX5_depth cX5_depth 2 (some .int), .methodLink RX5 37 yX5_of, .instanceMethod yX5_of, .selects RX5 yX5_of yX5_of, .code yX5_of cX5_of 3 (some .int), .fieldLink RX5 7 "PuddleMinistriesModel" "z" "[I", .methodLink RX5 29 yX5_lay, .instanceMethod yX5_lay, .selects RX5 yX5_lay yX5_lay, .code yX5_lay cX5_lay 4 none] ++ wsX50)
def wsX5_endDay : List Cond := .code yX5_endDay cX5_endDay 3 none :: ([.fieldLink RX5 7 "PuddleMinistriesModel" "z" "[I", .methodLink RX5 37 yX5_of, .instanceMethod yX5_of, .selects RX5 yX5_of yX5_of, .initialized RX5, .code yX5_of cX5_of 3 (some .int), .methodLink RX5 86 yX5_isFrozen, .instanceMethod yX5_isFrozen, .selects RX5 yX5_isFrozen yX5_isFrozen, .code yX5_isFrozen cX5_isFrozen 2 (some .boolean), .methodLink RX5 29 yX5_lay, .instanceMethod yX5_lay, .selects RX5 yX5_lay yX5_lay, .code yX5_lay cX5_lay 4 none] ++ wsX50)
def wsX5_passNow_r1 : List Cond := [Cond.methodLink RX5 108 yX5_sun, Cond.instanceMethod yX5_sun, Cond.selects RX5 yX5_sun yX5_sun, Cond.initialized RX5, Cond.code yX5_sun cX5_sun 3 none, Cond.fieldLink RX5 7 "PuddleMinistriesModel" "z" "[I", Cond.methodLink RX5 86 yX5_isFrozen, Cond.instanceMethod yX5_isFrozen, Cond.selects RX5 yX5_isFrozen yX5_isFrozen, Cond.code yX5_isFrozen cX5_isFrozen 2 (some .boolean), Cond.methodLink RX5 37 yX5_of, Cond.instanceMethod yX5_of, Cond.selects RX5 yX5_of yX5_of, Cond.code yX5_of cX5_of 3 (some .int), Cond.methodLink RX5 29 yX5_lay, Cond.instanceMethod yX5_lay, Cond.selects RX5 yX5_lay yX5_lay, Cond.code yX5_lay cX5_lay 4 none, Cond.methodLink RX5 111 yX5_rain, Cond.instanceMethod yX5_rain, Cond.selects RX5 yX5_rain yX5_rain, Cond.code yX5_rain cX5_rain 6 none, Cond.methodLink RX5 115 yX5_frost, Cond.instanceMethod yX5_frost]
def wsX5_passNow_r2 : List Cond := [Cond.selects RX5 yX5_frost yX5_frost, Cond.code yX5_frost cX5_frost 2 none, Cond.methodLink RX5 89 yX5_depth, Cond.instanceMethod yX5_depth, Cond.selects RX5 yX5_depth yX5_depth, Cond.code yX5_depth cX5_depth 2 (some .int), Cond.methodLink RX5 118 yX5_endDay, Cond.instanceMethod yX5_endDay, Cond.selects RX5 yX5_endDay yX5_endDay, Cond.code yX5_endDay cX5_endDay 3 none]
def wsX5_passNow : List Cond := .code yX5_passNow cX5_passNow 2 none :: ((wsX5_passNow_r1 ++ wsX5_passNow_r2) ++ wsX50)
def wsX5_water : List Cond := .code yX5_water cX5_water 3 (some .int) :: ([.methodLink RX5 37 yX5_of, .instanceMethod yX5_of, .selects RX5 yX5_of yX5_of, .initialized RX5, .code yX5_of cX5_of 3 (some .int), .fieldLink RX5 7 "PuddleMinistriesModel" "z" "[I"] ++ wsX50)
def wsX5_pass_r1 : List Cond := [Cond.fieldLink RX5 7 "PuddleMinistriesModel" "z" "[I", Cond.methodLink RX5 33 yX5_in, Cond.static yX5_in, Cond.initialized RX5, Cond.code yX5_in cX5_in 3 (some .boolean), Cond.methodLink RX5 49 yX5_record, Cond.instanceMethod yX5_record, Cond.selects RX5 yX5_record yX5_record, Cond.code yX5_record cX5_record 2 none, Cond.fieldLink RX5 41 "PuddleMinistriesModel" "states" "I", Cond.fieldLink RX5 13 "PuddleMinistriesModel" "past" "[I", Cond.methodLink RX5 45 yX5_copyState, Cond.static yX5_copyState, Cond.code yX5_copyState cX5_copyState 5 none, Cond.methodLink RX5 121 yX5_passNow, Cond.instanceMethod yX5_passNow, Cond.selects RX5 yX5_passNow yX5_passNow, Cond.code yX5_passNow cX5_passNow 2 none, Cond.methodLink RX5 108 yX5_sun, Cond.instanceMethod yX5_sun, Cond.selects RX5 yX5_sun yX5_sun, Cond.code yX5_sun cX5_sun 3 none, Cond.methodLink RX5 86 yX5_isFrozen, Cond.instanceMethod yX5_isFrozen]
def wsX5_pass_r2 : List Cond := [Cond.selects RX5 yX5_isFrozen yX5_isFrozen, Cond.code yX5_isFrozen cX5_isFrozen 2 (some .boolean), Cond.methodLink RX5 37 yX5_of, Cond.instanceMethod yX5_of, Cond.selects RX5 yX5_of yX5_of, Cond.code yX5_of cX5_of 3 (some .int), Cond.methodLink RX5 29 yX5_lay, Cond.instanceMethod yX5_lay, Cond.selects RX5 yX5_lay yX5_lay, Cond.code yX5_lay cX5_lay 4 none, Cond.methodLink RX5 111 yX5_rain, Cond.instanceMethod yX5_rain, Cond.selects RX5 yX5_rain yX5_rain, Cond.code yX5_rain cX5_rain 6 none, Cond.methodLink RX5 115 yX5_frost, Cond.instanceMethod yX5_frost, Cond.selects RX5 yX5_frost yX5_frost, Cond.code yX5_frost cX5_frost 2 none, Cond.methodLink RX5 89 yX5_depth, Cond.instanceMethod yX5_depth, Cond.selects RX5 yX5_depth yX5_depth, Cond.code yX5_depth cX5_depth 2 (some .int), Cond.methodLink RX5 118 yX5_endDay, Cond.instanceMethod yX5_endDay]
def wsX5_pass_r3 : List Cond := [Cond.selects RX5 yX5_endDay yX5_endDay, Cond.code yX5_endDay cX5_endDay 3 none, Cond.methodLink RX5 124 yX5_water, Cond.instanceMethod yX5_water, Cond.selects RX5 yX5_water yX5_water, Cond.code yX5_water cX5_water 3 (some .int)]
def wsX5_pass : List Cond := .code yX5_pass cX5_pass 2 (some .int) :: ((wsX5_pass_r1 ++ (wsX5_pass_r2 ++ wsX5_pass_r3)) ++ wsX50)
def wsX5_put : List Cond := .code yX5_put cX5_put 7 (some .int) :: ([.constantLong RX5 128 (255), .fieldLink RX5 130 "PuddleMinistriesModel" "typed" "I", .fieldLink RX5 23 "PuddleMinistriesModel" "pad" "[I", .methodLink RX5 33 yX5_in, .static yX5_in, .initialized RX5, .code yX5_in cX5_in 3 (some .boolean)] ++ wsX50)
def wsX5_wipe : List Cond := .code yX5_wipe cX5_wipe 2 (some .int) :: ([.fieldLink RX5 130 "PuddleMinistriesModel" "typed" "I"] ++ wsX50)
def wsX5_readHour : List Cond := .code yX5_readHour cX5_readHour 2 (some .int) :: ([.fieldLink RX5 133 "PuddleMinistriesModel" "spot" "I", .fieldLink RX5 130 "PuddleMinistriesModel" "typed" "I", .fieldLink RX5 23 "PuddleMinistriesModel" "pad" "[I", .methodLink RX5 33 yX5_in, .static yX5_in, .initialized RX5, .code yX5_in cX5_in 3 (some .boolean)] ++ wsX50)
def wsX5_readPad : List Cond := .code yX5_readPad cX5_readPad 2 (some .boolean) :: ([.fieldLink RX5 133 "PuddleMinistriesModel" "spot" "I", .fieldLink RX5 136 "PuddleMinistriesModel" "toldMany" "I", .fieldLink RX5 26 "PuddleMinistriesModel" "told" "[I", .fieldLink RX5 130 "PuddleMinistriesModel" "typed" "I", .methodLink RX5 139 yX5_readHour, .instanceMethod yX5_readHour, .selects RX5 yX5_readHour yX5_readHour, .initialized RX5, .code yX5_readHour cX5_readHour 2 (some .int), .fieldLink RX5 23 "PuddleMinistriesModel" "pad" "[I", .methodLink RX5 33 yX5_in, .static yX5_in, .code yX5_in cX5_in 3 (some .boolean)] ++ wsX50)
def wsX5_fault : List Cond := .code yX5_fault cX5_fault 1 (some .int) :: ([.fieldLink RX5 133 "PuddleMinistriesModel" "spot" "I", .methodLink RX5 142 yX5_readPad, .instanceMethod yX5_readPad, .selects RX5 yX5_readPad yX5_readPad, .initialized RX5, .code yX5_readPad cX5_readPad 2 (some .boolean), .fieldLink RX5 136 "PuddleMinistriesModel" "toldMany" "I", .fieldLink RX5 26 "PuddleMinistriesModel" "told" "[I", .fieldLink RX5 130 "PuddleMinistriesModel" "typed" "I", .methodLink RX5 139 yX5_readHour, .instanceMethod yX5_readHour, .selects RX5 yX5_readHour yX5_readHour, .code yX5_readHour cX5_readHour 2 (some .int), .fieldLink RX5 23 "PuddleMinistriesModel" "pad" "[I", .methodLink RX5 33 yX5_in, .static yX5_in, .code yX5_in cX5_in 3 (some .boolean)] ++ wsX50)
def wsX5_read_r1 : List Cond := [Cond.fieldLink RX5 136 "PuddleMinistriesModel" "toldMany" "I", Cond.fieldLink RX5 26 "PuddleMinistriesModel" "told" "[I", Cond.fieldLink RX5 7 "PuddleMinistriesModel" "z" "[I", Cond.fieldLink RX5 130 "PuddleMinistriesModel" "typed" "I", Cond.methodLink RX5 142 yX5_readPad, Cond.instanceMethod yX5_readPad, Cond.selects RX5 yX5_readPad yX5_readPad, Cond.initialized RX5, Cond.code yX5_readPad cX5_readPad 2 (some .boolean), Cond.fieldLink RX5 133 "PuddleMinistriesModel" "spot" "I", Cond.methodLink RX5 139 yX5_readHour, Cond.instanceMethod yX5_readHour, Cond.selects RX5 yX5_readHour yX5_readHour, Cond.code yX5_readHour cX5_readHour 2 (some .int), Cond.fieldLink RX5 23 "PuddleMinistriesModel" "pad" "[I", Cond.methodLink RX5 33 yX5_in, Cond.static yX5_in, Cond.code yX5_in cX5_in 3 (some .boolean), Cond.methodLink RX5 49 yX5_record, Cond.instanceMethod yX5_record, Cond.selects RX5 yX5_record yX5_record, Cond.code yX5_record cX5_record 2 none, Cond.fieldLink RX5 41 "PuddleMinistriesModel" "states" "I", Cond.fieldLink RX5 13 "PuddleMinistriesModel" "past" "[I"]
def wsX5_read_r2 : List Cond := [Cond.methodLink RX5 45 yX5_copyState, Cond.static yX5_copyState, Cond.code yX5_copyState cX5_copyState 5 none, Cond.methodLink RX5 121 yX5_passNow, Cond.instanceMethod yX5_passNow, Cond.selects RX5 yX5_passNow yX5_passNow, Cond.code yX5_passNow cX5_passNow 2 none, Cond.methodLink RX5 108 yX5_sun, Cond.instanceMethod yX5_sun, Cond.selects RX5 yX5_sun yX5_sun, Cond.code yX5_sun cX5_sun 3 none, Cond.methodLink RX5 86 yX5_isFrozen, Cond.instanceMethod yX5_isFrozen, Cond.selects RX5 yX5_isFrozen yX5_isFrozen, Cond.code yX5_isFrozen cX5_isFrozen 2 (some .boolean), Cond.methodLink RX5 37 yX5_of, Cond.instanceMethod yX5_of, Cond.selects RX5 yX5_of yX5_of, Cond.code yX5_of cX5_of 3 (some .int), Cond.methodLink RX5 29 yX5_lay, Cond.instanceMethod yX5_lay, Cond.selects RX5 yX5_lay yX5_lay, Cond.code yX5_lay cX5_lay 4 none, Cond.methodLink RX5 111 yX5_rain]
def wsX5_read_r3 : List Cond := [Cond.instanceMethod yX5_rain, Cond.selects RX5 yX5_rain yX5_rain, Cond.code yX5_rain cX5_rain 6 none, Cond.methodLink RX5 115 yX5_frost, Cond.instanceMethod yX5_frost, Cond.selects RX5 yX5_frost yX5_frost, Cond.code yX5_frost cX5_frost 2 none, Cond.methodLink RX5 89 yX5_depth, Cond.instanceMethod yX5_depth, Cond.selects RX5 yX5_depth yX5_depth, Cond.code yX5_depth cX5_depth 2 (some .int), Cond.methodLink RX5 118 yX5_endDay, Cond.instanceMethod yX5_endDay, Cond.selects RX5 yX5_endDay yX5_endDay, Cond.code yX5_endDay cX5_endDay 3 none, Cond.methodLink RX5 124 yX5_water, Cond.instanceMethod yX5_water, Cond.selects RX5 yX5_water yX5_water, Cond.code yX5_water cX5_water 3 (some .int)]
def wsX5_read : List Cond := .code yX5_read cX5_read 3 (some .int) :: ((wsX5_read_r1 ++ (wsX5_read_r2 ++ wsX5_read_r3)) ++ wsX50)
def wsX5_permitted : List Cond := .code yX5_permitted cX5_permitted 4 (some .int) :: ([.methodLink RX5 76 yX5_days, .instanceMethod yX5_days, .selects RX5 yX5_days yX5_days, .initialized RX5, .code yX5_days cX5_days 3 (some .int), .fieldLink RX5 7 "PuddleMinistriesModel" "z" "[I"] ++ wsX50)
def wsX5_puddle : List Cond := .code yX5_puddle cX5_puddle 3 (some .int) :: ([.methodLink RX5 56 yX5_isPuddle, .static yX5_isPuddle, .initialized RX5, .code yX5_isPuddle cX5_isPuddle 1 (some .boolean), .methodLink RX5 33 yX5_in, .static yX5_in, .code yX5_in cX5_in 3 (some .boolean), .methodLink RX5 37 yX5_of, .instanceMethod yX5_of, .selects RX5 yX5_of yX5_of, .code yX5_of cX5_of 3 (some .int), .fieldLink RX5 7 "PuddleMinistriesModel" "z" "[I", .methodLink RX5 89 yX5_depth, .instanceMethod yX5_depth, .selects RX5 yX5_depth yX5_depth, .code yX5_depth cX5_depth 2 (some .int), .methodLink RX5 146 yX5_permitted, .instanceMethod yX5_permitted, .selects RX5 yX5_permitted yX5_permitted, .code yX5_permitted cX5_permitted 4 (some .int), .methodLink RX5 76 yX5_days, .instanceMethod yX5_days, .selects RX5 yX5_days yX5_days, .code yX5_days cX5_days 3 (some .int)] ++ wsX50)
def wsX5_may_r1 : List Cond := [Cond.methodLink RX5 92 yX5_reason, Cond.instanceMethod yX5_reason, Cond.selects RX5 yX5_reason yX5_reason, Cond.initialized RX5, Cond.code yX5_reason cX5_reason 5 (some .int), Cond.methodLink RX5 64 yX5_hasDucks, Cond.instanceMethod yX5_hasDucks, Cond.selects RX5 yX5_hasDucks yX5_hasDucks, Cond.code yX5_hasDucks cX5_hasDucks 2 (some .boolean), Cond.methodLink RX5 37 yX5_of, Cond.instanceMethod yX5_of, Cond.selects RX5 yX5_of yX5_of, Cond.code yX5_of cX5_of 3 (some .int), Cond.fieldLink RX5 7 "PuddleMinistriesModel" "z" "[I", Cond.methodLink RX5 76 yX5_days, Cond.instanceMethod yX5_days, Cond.selects RX5 yX5_days yX5_days, Cond.code yX5_days cX5_days 3 (some .int), Cond.methodLink RX5 86 yX5_isFrozen, Cond.instanceMethod yX5_isFrozen, Cond.selects RX5 yX5_isFrozen yX5_isFrozen, Cond.code yX5_isFrozen cX5_isFrozen 2 (some .boolean), Cond.methodLink RX5 89 yX5_depth, Cond.instanceMethod yX5_depth]
def wsX5_may_r2 : List Cond := [Cond.selects RX5 yX5_depth yX5_depth, Cond.code yX5_depth cX5_depth 2 (some .int)]
def wsX5_may : List Cond := .code yX5_may cX5_may 5 (some .int) :: ((wsX5_may_r1 ++ wsX5_may_r2) ++ wsX50)
def wsX5_walker_r1 : List Cond := [Cond.methodLink RX5 67 yX5_isWalker, Cond.static yX5_isWalker, Cond.initialized RX5, Cond.code yX5_isWalker cX5_isWalker 1 (some .boolean), Cond.methodLink RX5 33 yX5_in, Cond.static yX5_in, Cond.code yX5_in cX5_in 3 (some .boolean), Cond.methodLink RX5 70 yX5_ofWalker, Cond.instanceMethod yX5_ofWalker, Cond.selects RX5 yX5_ofWalker yX5_ofWalker, Cond.code yX5_ofWalker cX5_ofWalker 3 (some .int), Cond.fieldLink RX5 7 "PuddleMinistriesModel" "z" "[I", Cond.methodLink RX5 79 yX5_permits, Cond.instanceMethod yX5_permits, Cond.selects RX5 yX5_permits yX5_permits, Cond.code yX5_permits cX5_permits 4 (some .int), Cond.methodLink RX5 76 yX5_days, Cond.instanceMethod yX5_days, Cond.selects RX5 yX5_days yX5_days, Cond.code yX5_days cX5_days 3 (some .int), Cond.methodLink RX5 149 yX5_may, Cond.instanceMethod yX5_may, Cond.selects RX5 yX5_may yX5_may, Cond.code yX5_may cX5_may 5 (some .int)]
def wsX5_walker_r2 : List Cond := [Cond.methodLink RX5 92 yX5_reason, Cond.instanceMethod yX5_reason, Cond.selects RX5 yX5_reason yX5_reason, Cond.code yX5_reason cX5_reason 5 (some .int), Cond.methodLink RX5 64 yX5_hasDucks, Cond.instanceMethod yX5_hasDucks, Cond.selects RX5 yX5_hasDucks yX5_hasDucks, Cond.code yX5_hasDucks cX5_hasDucks 2 (some .boolean), Cond.methodLink RX5 37 yX5_of, Cond.instanceMethod yX5_of, Cond.selects RX5 yX5_of yX5_of, Cond.code yX5_of cX5_of 3 (some .int), Cond.methodLink RX5 86 yX5_isFrozen, Cond.instanceMethod yX5_isFrozen, Cond.selects RX5 yX5_isFrozen yX5_isFrozen, Cond.code yX5_isFrozen cX5_isFrozen 2 (some .boolean), Cond.methodLink RX5 89 yX5_depth, Cond.instanceMethod yX5_depth, Cond.selects RX5 yX5_depth yX5_depth, Cond.code yX5_depth cX5_depth 2 (some .int)]
def wsX5_walker : List Cond := .code yX5_walker cX5_walker 3 (some .int) :: ((wsX5_walker_r1 ++ wsX5_walker_r2) ++ wsX50)
def wsX5_why_r1 : List Cond := [Cond.methodLink RX5 67 yX5_isWalker, Cond.static yX5_isWalker, Cond.initialized RX5, Cond.code yX5_isWalker cX5_isWalker 1 (some .boolean), Cond.methodLink RX5 33 yX5_in, Cond.static yX5_in, Cond.code yX5_in cX5_in 3 (some .boolean), Cond.methodLink RX5 56 yX5_isPuddle, Cond.static yX5_isPuddle, Cond.code yX5_isPuddle cX5_isPuddle 1 (some .boolean), Cond.methodLink RX5 96 yX5_reasonNow, Cond.instanceMethod yX5_reasonNow, Cond.selects RX5 yX5_reasonNow yX5_reasonNow, Cond.code yX5_reasonNow cX5_reasonNow 3 (some .int), Cond.methodLink RX5 70 yX5_ofWalker, Cond.instanceMethod yX5_ofWalker, Cond.selects RX5 yX5_ofWalker yX5_ofWalker, Cond.code yX5_ofWalker cX5_ofWalker 3 (some .int), Cond.fieldLink RX5 7 "PuddleMinistriesModel" "z" "[I", Cond.methodLink RX5 92 yX5_reason, Cond.instanceMethod yX5_reason, Cond.selects RX5 yX5_reason yX5_reason, Cond.code yX5_reason cX5_reason 5 (some .int), Cond.methodLink RX5 64 yX5_hasDucks]
def wsX5_why_r2 : List Cond := [Cond.instanceMethod yX5_hasDucks, Cond.selects RX5 yX5_hasDucks yX5_hasDucks, Cond.code yX5_hasDucks cX5_hasDucks 2 (some .boolean), Cond.methodLink RX5 37 yX5_of, Cond.instanceMethod yX5_of, Cond.selects RX5 yX5_of yX5_of, Cond.code yX5_of cX5_of 3 (some .int), Cond.methodLink RX5 76 yX5_days, Cond.instanceMethod yX5_days, Cond.selects RX5 yX5_days yX5_days, Cond.code yX5_days cX5_days 3 (some .int), Cond.methodLink RX5 86 yX5_isFrozen, Cond.instanceMethod yX5_isFrozen, Cond.selects RX5 yX5_isFrozen yX5_isFrozen, Cond.code yX5_isFrozen cX5_isFrozen 2 (some .boolean), Cond.methodLink RX5 89 yX5_depth, Cond.instanceMethod yX5_depth, Cond.selects RX5 yX5_depth yX5_depth, Cond.code yX5_depth cX5_depth 2 (some .int)]
def wsX5_why : List Cond := .code yX5_why cX5_why 3 (some .int) :: ((wsX5_why_r1 ++ wsX5_why_r2) ++ wsX50)
def wsX5_holds : List Cond := .code yX5_holds cX5_holds 3 (some .int) :: ([.methodLink RX5 67 yX5_isWalker, .static yX5_isWalker, .initialized RX5, .code yX5_isWalker cX5_isWalker 1 (some .boolean), .methodLink RX5 33 yX5_in, .static yX5_in, .code yX5_in cX5_in 3 (some .boolean), .methodLink RX5 56 yX5_isPuddle, .static yX5_isPuddle, .code yX5_isPuddle cX5_isPuddle 1 (some .boolean), .methodLink RX5 76 yX5_days, .instanceMethod yX5_days, .selects RX5 yX5_days yX5_days, .code yX5_days cX5_days 3 (some .int), .fieldLink RX5 7 "PuddleMinistriesModel" "z" "[I"] ++ wsX50)
def wsX5_puddlesWith : List Cond := .code yX5_puddlesWith cX5_puddlesWith 4 (some .int) :: ([.methodLink RX5 37 yX5_of, .instanceMethod yX5_of, .selects RX5 yX5_of yX5_of, .initialized RX5, .code yX5_of cX5_of 3 (some .int), .fieldLink RX5 7 "PuddleMinistriesModel" "z" "[I"] ++ wsX50)
def wsX5_allPermits : List Cond := .code yX5_allPermits cX5_allPermits 3 (some .int) :: ([.methodLink RX5 79 yX5_permits, .instanceMethod yX5_permits, .selects RX5 yX5_permits yX5_permits, .initialized RX5, .code yX5_permits cX5_permits 4 (some .int), .methodLink RX5 76 yX5_days, .instanceMethod yX5_days, .selects RX5 yX5_days yX5_days, .code yX5_days cX5_days 3 (some .int), .fieldLink RX5 7 "PuddleMinistriesModel" "z" "[I", .methodLink RX5 83 yX5_size, .static yX5_size, .code yX5_size cX5_size 3 (some .int)] ++ wsX50)
def wsX5_sumOfWalkers : List Cond := .code yX5_sumOfWalkers cX5_sumOfWalkers 4 (some .int) :: ([.methodLink RX5 70 yX5_ofWalker, .instanceMethod yX5_ofWalker, .selects RX5 yX5_ofWalker yX5_ofWalker, .initialized RX5, .code yX5_ofWalker cX5_ofWalker 3 (some .int), .fieldLink RX5 7 "PuddleMinistriesModel" "z" "[I"] ++ wsX50)
def wsX5_count_r1 : List Cond := [Cond.fieldLink RX5 7 "PuddleMinistriesModel" "z" "[I", Cond.fieldLink RX5 130 "PuddleMinistriesModel" "typed" "I", Cond.fieldLink RX5 41 "PuddleMinistriesModel" "states" "I", Cond.methodLink RX5 124 yX5_water, Cond.instanceMethod yX5_water, Cond.selects RX5 yX5_water yX5_water, Cond.initialized RX5, Cond.code yX5_water cX5_water 3 (some .int), Cond.methodLink RX5 37 yX5_of, Cond.instanceMethod yX5_of, Cond.selects RX5 yX5_of yX5_of, Cond.code yX5_of cX5_of 3 (some .int), Cond.methodLink RX5 152 yX5_puddlesWith, Cond.instanceMethod yX5_puddlesWith, Cond.selects RX5 yX5_puddlesWith yX5_puddlesWith, Cond.code yX5_puddlesWith cX5_puddlesWith 4 (some .int), Cond.methodLink RX5 155 yX5_allPermits, Cond.instanceMethod yX5_allPermits, Cond.selects RX5 yX5_allPermits yX5_allPermits, Cond.code yX5_allPermits cX5_allPermits 3 (some .int), Cond.methodLink RX5 79 yX5_permits, Cond.instanceMethod yX5_permits, Cond.selects RX5 yX5_permits yX5_permits, Cond.code yX5_permits cX5_permits 4 (some .int)]
def wsX5_count_r2 : List Cond := [Cond.methodLink RX5 76 yX5_days, Cond.instanceMethod yX5_days, Cond.selects RX5 yX5_days yX5_days, Cond.code yX5_days cX5_days 3 (some .int), Cond.methodLink RX5 83 yX5_size, Cond.static yX5_size, Cond.code yX5_size cX5_size 3 (some .int), Cond.methodLink RX5 158 yX5_sumOfWalkers, Cond.instanceMethod yX5_sumOfWalkers, Cond.selects RX5 yX5_sumOfWalkers yX5_sumOfWalkers, Cond.code yX5_sumOfWalkers cX5_sumOfWalkers 4 (some .int), Cond.methodLink RX5 70 yX5_ofWalker, Cond.instanceMethod yX5_ofWalker, Cond.selects RX5 yX5_ofWalker yX5_ofWalker, Cond.code yX5_ofWalker cX5_ofWalker 3 (some .int)]
def wsX5_count : List Cond := .code yX5_count cX5_count 2 (some .int) :: ((wsX5_count_r1 ++ wsX5_count_r2) ++ wsX50)
def wsX5_cost_r1 : List Cond := [Cond.methodLink RX5 67 yX5_isWalker, Cond.static yX5_isWalker, Cond.initialized RX5, Cond.code yX5_isWalker cX5_isWalker 1 (some .boolean), Cond.methodLink RX5 33 yX5_in, Cond.static yX5_in, Cond.code yX5_in cX5_in 3 (some .boolean), Cond.methodLink RX5 56 yX5_isPuddle, Cond.static yX5_isPuddle, Cond.code yX5_isPuddle cX5_isPuddle 1 (some .boolean), Cond.methodLink RX5 102 yX5_allowed, Cond.instanceMethod yX5_allowed, Cond.selects RX5 yX5_allowed yX5_allowed, Cond.code yX5_allowed cX5_allowed 7 (some .int), Cond.methodLink RX5 96 yX5_reasonNow, Cond.instanceMethod yX5_reasonNow, Cond.selects RX5 yX5_reasonNow yX5_reasonNow, Cond.code yX5_reasonNow cX5_reasonNow 3 (some .int), Cond.methodLink RX5 70 yX5_ofWalker, Cond.instanceMethod yX5_ofWalker, Cond.selects RX5 yX5_ofWalker yX5_ofWalker, Cond.code yX5_ofWalker cX5_ofWalker 3 (some .int), Cond.fieldLink RX5 7 "PuddleMinistriesModel" "z" "[I", Cond.methodLink RX5 92 yX5_reason]
def wsX5_cost_r2 : List Cond := [Cond.instanceMethod yX5_reason, Cond.selects RX5 yX5_reason yX5_reason, Cond.code yX5_reason cX5_reason 5 (some .int), Cond.methodLink RX5 64 yX5_hasDucks, Cond.instanceMethod yX5_hasDucks, Cond.selects RX5 yX5_hasDucks yX5_hasDucks, Cond.code yX5_hasDucks cX5_hasDucks 2 (some .boolean), Cond.methodLink RX5 37 yX5_of, Cond.instanceMethod yX5_of, Cond.selects RX5 yX5_of yX5_of, Cond.code yX5_of cX5_of 3 (some .int), Cond.methodLink RX5 76 yX5_days, Cond.instanceMethod yX5_days, Cond.selects RX5 yX5_days yX5_days, Cond.code yX5_days cX5_days 3 (some .int), Cond.methodLink RX5 86 yX5_isFrozen, Cond.instanceMethod yX5_isFrozen, Cond.selects RX5 yX5_isFrozen yX5_isFrozen, Cond.code yX5_isFrozen cX5_isFrozen 2 (some .boolean), Cond.methodLink RX5 89 yX5_depth, Cond.instanceMethod yX5_depth, Cond.selects RX5 yX5_depth yX5_depth, Cond.code yX5_depth cX5_depth 2 (some .int), Cond.methodLink RX5 105 yX5_duties]
def wsX5_cost_r3 : List Cond := [Cond.instanceMethod yX5_duties, Cond.selects RX5 yX5_duties yX5_duties, Cond.code yX5_duties cX5_duties 7 (some .int), Cond.methodLink RX5 99 yX5_duty, Cond.instanceMethod yX5_duty, Cond.selects RX5 yX5_duty yX5_duty, Cond.code yX5_duty cX5_duty 2 (some .int)]
def wsX5_cost : List Cond := .code yX5_cost cX5_cost 5 (some .int) :: ((wsX5_cost_r1 ++ (wsX5_cost_r2 ++ wsX5_cost_r3)) ++ wsX50)
def wsX5_untilDry : List Cond := .code yX5_untilDry cX5_untilDry 3 (some .int) :: ([.fieldLink RX5 7 "PuddleMinistriesModel" "z" "[I", .methodLink RX5 56 yX5_isPuddle, .static yX5_isPuddle, .initialized RX5, .code yX5_isPuddle cX5_isPuddle 1 (some .boolean), .methodLink RX5 33 yX5_in, .static yX5_in, .code yX5_in cX5_in 3 (some .boolean), .methodLink RX5 37 yX5_of, .instanceMethod yX5_of, .selects RX5 yX5_of yX5_of, .code yX5_of cX5_of 3 (some .int)] ++ wsX50)
def wsX5_leastShoes_r1 : List Cond := [Cond.methodLink RX5 67 yX5_isWalker, Cond.static yX5_isWalker, Cond.initialized RX5, Cond.code yX5_isWalker cX5_isWalker 1 (some .boolean), Cond.methodLink RX5 33 yX5_in, Cond.static yX5_in, Cond.code yX5_in cX5_in 3 (some .boolean), Cond.methodLink RX5 149 yX5_may, Cond.instanceMethod yX5_may, Cond.selects RX5 yX5_may yX5_may, Cond.code yX5_may cX5_may 5 (some .int), Cond.methodLink RX5 92 yX5_reason, Cond.instanceMethod yX5_reason, Cond.selects RX5 yX5_reason yX5_reason, Cond.code yX5_reason cX5_reason 5 (some .int), Cond.methodLink RX5 64 yX5_hasDucks, Cond.instanceMethod yX5_hasDucks, Cond.selects RX5 yX5_hasDucks yX5_hasDucks, Cond.code yX5_hasDucks cX5_hasDucks 2 (some .boolean), Cond.methodLink RX5 37 yX5_of, Cond.instanceMethod yX5_of, Cond.selects RX5 yX5_of yX5_of, Cond.code yX5_of cX5_of 3 (some .int), Cond.fieldLink RX5 7 "PuddleMinistriesModel" "z" "[I"]
def wsX5_leastShoes_r2 : List Cond := [Cond.methodLink RX5 76 yX5_days, Cond.instanceMethod yX5_days, Cond.selects RX5 yX5_days yX5_days, Cond.code yX5_days cX5_days 3 (some .int), Cond.methodLink RX5 86 yX5_isFrozen, Cond.instanceMethod yX5_isFrozen, Cond.selects RX5 yX5_isFrozen yX5_isFrozen, Cond.code yX5_isFrozen cX5_isFrozen 2 (some .boolean), Cond.methodLink RX5 89 yX5_depth, Cond.instanceMethod yX5_depth, Cond.selects RX5 yX5_depth yX5_depth, Cond.code yX5_depth cX5_depth 2 (some .int)]
def wsX5_leastShoes : List Cond := .code yX5_leastShoes cX5_leastShoes 4 (some .int) :: ((wsX5_leastShoes_r1 ++ wsX5_leastShoes_r2) ++ wsX50)
def wsX5_longestWalk_r1 : List Cond := [Cond.methodLink RX5 67 yX5_isWalker, Cond.static yX5_isWalker, Cond.initialized RX5, Cond.code yX5_isWalker cX5_isWalker 1 (some .boolean), Cond.methodLink RX5 33 yX5_in, Cond.static yX5_in, Cond.code yX5_in cX5_in 3 (some .boolean), Cond.methodLink RX5 102 yX5_allowed, Cond.instanceMethod yX5_allowed, Cond.selects RX5 yX5_allowed yX5_allowed, Cond.code yX5_allowed cX5_allowed 7 (some .int), Cond.methodLink RX5 96 yX5_reasonNow, Cond.instanceMethod yX5_reasonNow, Cond.selects RX5 yX5_reasonNow yX5_reasonNow, Cond.code yX5_reasonNow cX5_reasonNow 3 (some .int), Cond.methodLink RX5 70 yX5_ofWalker, Cond.instanceMethod yX5_ofWalker, Cond.selects RX5 yX5_ofWalker yX5_ofWalker, Cond.code yX5_ofWalker cX5_ofWalker 3 (some .int), Cond.fieldLink RX5 7 "PuddleMinistriesModel" "z" "[I", Cond.methodLink RX5 92 yX5_reason, Cond.instanceMethod yX5_reason, Cond.selects RX5 yX5_reason yX5_reason, Cond.code yX5_reason cX5_reason 5 (some .int)]
def wsX5_longestWalk_r2 : List Cond := [Cond.methodLink RX5 64 yX5_hasDucks, Cond.instanceMethod yX5_hasDucks, Cond.selects RX5 yX5_hasDucks yX5_hasDucks, Cond.code yX5_hasDucks cX5_hasDucks 2 (some .boolean), Cond.methodLink RX5 37 yX5_of, Cond.instanceMethod yX5_of, Cond.selects RX5 yX5_of yX5_of, Cond.code yX5_of cX5_of 3 (some .int), Cond.methodLink RX5 76 yX5_days, Cond.instanceMethod yX5_days, Cond.selects RX5 yX5_days yX5_days, Cond.code yX5_days cX5_days 3 (some .int), Cond.methodLink RX5 86 yX5_isFrozen, Cond.instanceMethod yX5_isFrozen, Cond.selects RX5 yX5_isFrozen yX5_isFrozen, Cond.code yX5_isFrozen cX5_isFrozen 2 (some .boolean), Cond.methodLink RX5 89 yX5_depth, Cond.instanceMethod yX5_depth, Cond.selects RX5 yX5_depth yX5_depth, Cond.code yX5_depth cX5_depth 2 (some .int)]
def wsX5_longestWalk : List Cond := .code yX5_longestWalk cX5_longestWalk 7 (some .int) :: ((wsX5_longestWalk_r1 ++ wsX5_longestWalk_r2) ++ wsX50)
def wsJ9_abs_0f7a4 : List Cond := .code yJ9_abs_0f7a4 cJ9_abs_0f7a4 1 (some .int) :: ([])
def wsJ9_min_7cf53 : List Cond := .code yJ9_min_7cf53 cJ9_min_7cf53 2 (some .int) :: ([])
def wsL_law_r1 : List Cond := [Cond.classLink RL 7 RX4, Cond.instantiable RX4 4, Cond.initialized RX4, Cond.classLink RL 10 RX5, Cond.instantiable RX5 10, Cond.initialized RX5, Cond.constantLong RL 90 (4294967295), Cond.methodLink RL 9 yX4_init, Cond.instanceMethod yX4_init, Cond.code yX4_init cX4_init 1 none, Cond.methodLink RX4 1 objectInit, Cond.instanceMethod objectInit, Cond.code objectInit ⟨#[0xb1]⟩ 1 none, Cond.classLink RX4 7 RX3, Cond.instantiable RX3 15, Cond.initialized RX3, Cond.fieldLink RX4 10 "PuddleMinistries" "street" "LPuddleMinistries$Street;", Cond.classLink RX4 16 RX1, Cond.instantiable RX1 2, Cond.initialized RX1, Cond.fieldLink RX4 19 "PuddleMinistries" "pad" "LPuddleMinistries$Pad;", Cond.classLink RX4 23 RX0, Cond.instantiable RX0 2, Cond.initialized RX0]
def wsL_law_r2 : List Cond := [Cond.fieldLink RX4 26 "PuddleMinistries" "history" "LPuddleMinistries$History;", Cond.classLink RX4 30 RX2, Cond.instantiable RX2 2, Cond.initialized RX2, Cond.fieldLink RX4 33 "PuddleMinistries" "slots" "LPuddleMinistries$Slots;", Cond.methodLink RX4 9 yX3_init, Cond.instanceMethod yX3_init, Cond.code yX3_init cX3_init 2 none, Cond.methodLink RX3 3 objectInit, Cond.arrayClass .int, Cond.fieldLink RX3 9 "PuddleMinistries$Street" "settings" "[I", Cond.fieldLink RX3 15 "PuddleMinistries$Street" "brims" "[I", Cond.fieldLink RX3 18 "PuddleMinistries$Street" "waters" "[I", Cond.fieldLink RX3 21 "PuddleMinistries$Street" "crossingsOf" "[I", Cond.fieldLink RX3 24 "PuddleMinistries$Street" "shoesOf" "[I", Cond.fieldLink RX3 27 "PuddleMinistries$Street" "owedBy" "[I", Cond.fieldLink RX3 30 "PuddleMinistries$Street" "paidBy" "[I", Cond.fieldLink RX3 33 "PuddleMinistries$Street" "crossedBy" "[I", Cond.fieldLink RX3 36 "PuddleMinistries$Street" "permitDays" "[I", Cond.instanceMethod yX1_init, Cond.code yX1_init cX1_init 1 none, Cond.methodLink RX1 3 objectInit, Cond.arrayClass .char, Cond.fieldLink RX1 11 "PuddleMinistries$Pad" "signs" "[C"]
def wsL_law_r3 : List Cond := [Cond.methodLink RX4 25 yX0_init, Cond.instanceMethod yX0_init, Cond.code yX0_init cX0_init 2 none, Cond.methodLink RX0 3 objectInit, Cond.classLink RX0 9 RX3, Cond.fieldLink RX0 11 "PuddleMinistries$History" "kept" "[LPuddleMinistries$Street;", Cond.methodLink RX0 17 yX3_init, Cond.methodLink RX4 32 yX2_init, Cond.instanceMethod yX2_init, Cond.code yX2_init cX2_init 2 none, Cond.methodLink RX2 3 objectInit, Cond.classLink RX2 9 RX3, Cond.fieldLink RX2 11 "PuddleMinistries$Slots" "kept" "[LPuddleMinistries$Street;", Cond.arrayClass .boolean, Cond.fieldLink RX2 17 "PuddleMinistries$Slots" "used" "[Z", Cond.methodLink RX2 21 yX3_init, Cond.methodLink RL 12 yX5_init, Cond.instanceMethod yX5_init, Cond.code yX5_init cX5_init 2 none, Cond.methodLink RX5 1 objectInit, Cond.fieldLink RX5 7 "PuddleMinistriesModel" "z" "[I", Cond.fieldLink RX5 13 "PuddleMinistriesModel" "past" "[I", Cond.fieldLink RX5 16 "PuddleMinistriesModel" "slots" "[I", Cond.fieldLink RX5 19 "PuddleMinistriesModel" "isSaved" "[Z"]
def wsL_law_r4 : List Cond := [Cond.fieldLink RX5 23 "PuddleMinistriesModel" "pad" "[I", Cond.fieldLink RX5 26 "PuddleMinistriesModel" "told" "[I", Cond.methodLink RX5 29 yX5_lay, Cond.instanceMethod yX5_lay, Cond.selects RX5 yX5_lay yX5_lay, Cond.code yX5_lay cX5_lay 4 none, Cond.methodLink RL 13 yX4_set, Cond.instanceMethod yX4_set, Cond.selects RX4 yX4_set yX4_set, Cond.code yX4_set cX4_set 4 (some .int), Cond.fieldLink RX4 37 "PuddleMinistries" "LEAST_SETTING" "[I", Cond.fieldLink RX4 41 "PuddleMinistries" "MOST_SETTING" "[I", Cond.fieldLink RX4 48 "PuddleMinistries$Street" "settings" "[I", Cond.methodLink RX4 44 yX0_record, Cond.instanceMethod yX0_record, Cond.selects RX0 yX0_record yX0_record, Cond.code yX0_record cX0_record 2 none, Cond.fieldLink RX0 18 "PuddleMinistries$History" "size" "I", Cond.methodLink RX0 22 yX0_dropOldest, Cond.instanceMethod yX0_dropOldest, Cond.selects RX0 yX0_dropOldest yX0_dropOldest, Cond.code yX0_dropOldest cX0_dropOldest 3 none, Cond.methodLink RX0 25 yX3_copyFrom, Cond.instanceMethod yX3_copyFrom]
def wsL_law_r5 : List Cond := [Cond.selects RX3 yX3_copyFrom yX3_copyFrom, Cond.code yX3_copyFrom cX3_copyFrom 2 none, Cond.fieldLink RX3 46 "PuddleMinistries$Street" "frozenSet" "I", Cond.fieldLink RX3 50 "PuddleMinistries$Street" "ducksSet" "I", Cond.fieldLink RX3 53 "PuddleMinistries$Street" "days" "I", Cond.fieldLink RX3 56 "PuddleMinistries$Street" "fell" "I", Cond.fieldLink RX3 59 "PuddleMinistries$Street" "dried" "I", Cond.fieldLink RX3 62 "PuddleMinistries$Street" "drained" "I", Cond.static yX4_copy, Cond.code yX4_copy cX4_copy 3 none, Cond.methodLink RL 17 yX5_set, Cond.instanceMethod yX5_set, Cond.selects RX5 yX5_set yX5_set, Cond.code yX5_set cX5_set 4 (some .int), Cond.methodLink RX5 52 yX5_isValue, Cond.static yX5_isValue, Cond.code yX5_isValue cX5_isValue 2 (some .boolean), Cond.methodLink RX5 33 yX5_in, Cond.static yX5_in, Cond.code yX5_in cX5_in 3 (some .boolean), Cond.methodLink RX5 49 yX5_record, Cond.instanceMethod yX5_record, Cond.selects RX5 yX5_record yX5_record, Cond.code yX5_record cX5_record 2 none]
def wsL_law_r6 : List Cond := [Cond.fieldLink RX5 41 "PuddleMinistriesModel" "states" "I", Cond.methodLink RX5 45 yX5_copyState, Cond.static yX5_copyState, Cond.code yX5_copyState cX5_copyState 5 none, Cond.methodLink RL 18 yX4_brim, Cond.instanceMethod yX4_brim, Cond.selects RX4 yX4_brim yX4_brim, Cond.code yX4_brim cX4_brim 4 (some .int), Cond.fieldLink RX4 55 "PuddleMinistries$Street" "brims" "[I", Cond.methodLink RX4 51 yX4_isPuddle, Cond.static yX4_isPuddle, Cond.code yX4_isPuddle cX4_isPuddle 1 (some .boolean), Cond.methodLink RX4 58 yX3_drainDownTo, Cond.instanceMethod yX3_drainDownTo, Cond.selects RX3 yX3_drainDownTo yX3_drainDownTo, Cond.code yX3_drainDownTo cX3_drainDownTo 4 none, Cond.methodLink RL 21 yX5_brim, Cond.instanceMethod yX5_brim, Cond.selects RX5 yX5_brim yX5_brim, Cond.code yX5_brim cX5_brim 4 (some .int), Cond.methodLink RX5 56 yX5_isPuddle, Cond.static yX5_isPuddle, Cond.code yX5_isPuddle cX5_isPuddle 1 (some .boolean), Cond.methodLink RX5 37 yX5_of]
def wsL_law_r7 : List Cond := [Cond.instanceMethod yX5_of, Cond.selects RX5 yX5_of yX5_of, Cond.code yX5_of cX5_of 3 (some .int), Cond.methodLink RX5 60 yX5_drainAbove, Cond.instanceMethod yX5_drainAbove, Cond.selects RX5 yX5_drainAbove yX5_drainAbove, Cond.code yX5_drainAbove cX5_drainAbove 4 none, Cond.methodLink RL 22 yX4_drain, Cond.instanceMethod yX4_drain, Cond.selects RX4 yX4_drain yX4_drain, Cond.code yX4_drain cX4_drain 3 (some .int), Cond.fieldLink RX4 65 "PuddleMinistries$Street" "waters" "[I", Cond.methodLink RX4 62 yX3_hasDucks, Cond.instanceMethod yX3_hasDucks, Cond.selects RX3 yX3_hasDucks yX3_hasDucks, Cond.code yX3_hasDucks cX3_hasDucks 2 (some .boolean), Cond.static yX4_isIn, Cond.code yX4_isIn cX4_isIn 2 (some .boolean), Cond.methodLink RX4 68 yX3_thaw, Cond.instanceMethod yX3_thaw, Cond.selects RX3 yX3_thaw yX3_thaw, Cond.code yX3_thaw cX3_thaw 2 none, Cond.methodLink RL 26 yX5_drain, Cond.instanceMethod yX5_drain]
def wsL_law_r8 : List Cond := [Cond.selects RX5 yX5_drain yX5_drain, Cond.code yX5_drain cX5_drain 3 (some .int), Cond.methodLink RX5 64 yX5_hasDucks, Cond.instanceMethod yX5_hasDucks, Cond.selects RX5 yX5_hasDucks yX5_hasDucks, Cond.code yX5_hasDucks cX5_hasDucks 2 (some .boolean), Cond.methodLink RL 27 yX4_shoes, Cond.instanceMethod yX4_shoes, Cond.selects RX4 yX4_shoes yX4_shoes, Cond.code yX4_shoes cX4_shoes 4 (some .int), Cond.fieldLink RX4 75 "PuddleMinistries$Street" "shoesOf" "[I", Cond.methodLink RX4 72 yX4_isWalker, Cond.static yX4_isWalker, Cond.code yX4_isWalker cX4_isWalker 1 (some .boolean), Cond.methodLink RL 30 yX5_shoes, Cond.instanceMethod yX5_shoes, Cond.selects RX5 yX5_shoes yX5_shoes, Cond.code yX5_shoes cX5_shoes 4 (some .int), Cond.methodLink RX5 67 yX5_isWalker, Cond.static yX5_isWalker, Cond.code yX5_isWalker cX5_isWalker 1 (some .boolean), Cond.methodLink RX5 70 yX5_ofWalker, Cond.instanceMethod yX5_ofWalker, Cond.selects RX5 yX5_ofWalker yX5_ofWalker]
def wsL_law_r9 : List Cond := [Cond.code yX5_ofWalker cX5_ofWalker 3 (some .int), Cond.methodLink RX5 73 yX5_layWalker, Cond.instanceMethod yX5_layWalker, Cond.selects RX5 yX5_layWalker yX5_layWalker, Cond.code yX5_layWalker cX5_layWalker 4 none, Cond.methodLink RL 31 yX4_permit, Cond.instanceMethod yX4_permit, Cond.selects RX4 yX4_permit yX4_permit, Cond.code yX4_permit cX4_permit 3 (some .int), Cond.fieldLink RX4 78 "PuddleMinistries$Street" "permitDays" "[I", Cond.methodLink RX4 81 yX4_placeOf, Cond.static yX4_placeOf, Cond.code yX4_placeOf cX4_placeOf 2 (some .int), Cond.methodLink RX4 85 yX3_permitsOf, Cond.instanceMethod yX3_permitsOf, Cond.selects RX3 yX3_permitsOf yX3_permitsOf, Cond.code yX3_permitsOf cX3_permitsOf 4 (some .int), Cond.methodLink RX3 102 yX3_hasPermit, Cond.instanceMethod yX3_hasPermit, Cond.selects RX3 yX3_hasPermit yX3_hasPermit, Cond.code yX3_hasPermit cX3_hasPermit 3 (some .boolean), Cond.methodLink RX4 89 yJ6_bitCount_0f7a4, Cond.static yJ6_bitCount_0f7a4, Cond.initialized RJ6]
def wsL_law_r10 : List Cond := [Cond.code yJ6_bitCount_0f7a4 cJ6_bitCount_0f7a4 1 (some .int), Cond.constant RJ6 265 (1431655765), Cond.constant RJ6 266 (858993459), Cond.constant RJ6 267 (252645135), Cond.methodLink RL 34 yX5_permit, Cond.instanceMethod yX5_permit, Cond.selects RX5 yX5_permit yX5_permit, Cond.code yX5_permit cX5_permit 3 (some .int), Cond.methodLink RX5 79 yX5_permits, Cond.instanceMethod yX5_permits, Cond.selects RX5 yX5_permits yX5_permits, Cond.code yX5_permits cX5_permits 4 (some .int), Cond.methodLink RX5 76 yX5_days, Cond.instanceMethod yX5_days, Cond.selects RX5 yX5_days yX5_days, Cond.code yX5_days cX5_days 3 (some .int), Cond.methodLink RX5 83 yX5_size, Cond.static yX5_size, Cond.code yX5_size cX5_size 3 (some .int), Cond.methodLink RL 35 yX4_walk, Cond.instanceMethod yX4_walk, Cond.selects RX4 yX4_walk yX4_walk, Cond.code yX4_walk cX4_walk 6 (some .int), Cond.methodLink RX4 94 yX3_stepsUntilBlocked]
def wsL_law_r11 : List Cond := [Cond.instanceMethod yX3_stepsUntilBlocked, Cond.selects RX3 yX3_stepsUntilBlocked yX3_stepsUntilBlocked, Cond.code yX3_stepsUntilBlocked cX3_stepsUntilBlocked 6 (some .int), Cond.methodLink RX3 129 Lib.Math.abs.name, Cond.static Lib.Math.abs.name, Cond.initialized "java/lang/Math", Cond.code Lib.Math.abs.name Lib.Math.abs.code 1 (some .int), Cond.static yX4_placeAfter, Cond.code yX4_placeAfter cX4_placeAfter 3 (some .int), Cond.methodLink RX3 123 yX3_mayCross, Cond.instanceMethod yX3_mayCross, Cond.selects RX3 yX3_mayCross yX3_mayCross, Cond.code yX3_mayCross cX3_mayCross 3 (some .boolean), Cond.methodLink RX3 119 yX3_reasonAgainst, Cond.instanceMethod yX3_reasonAgainst, Cond.selects RX3 yX3_reasonAgainst yX3_reasonAgainst, Cond.code yX3_reasonAgainst cX3_reasonAgainst 5 (some .int), Cond.methodLink RX3 113 yX3_hasDucks, Cond.methodLink RX3 92 yX3_depth, Cond.instanceMethod yX3_depth, Cond.selects RX3 yX3_depth yX3_depth, Cond.code yX3_depth cX3_depth 2 (some .int), Cond.methodLink RX3 82 yX3_isFrozen, Cond.instanceMethod yX3_isFrozen]
def wsL_law_r12 : List Cond := [Cond.selects RX3 yX3_isFrozen yX3_isFrozen, Cond.code yX3_isFrozen cX3_isFrozen 2 (some .boolean), Cond.methodLink RX3 116 yX3_depthKeptOut, Cond.static yX3_depthKeptOut, Cond.code yX3_depthKeptOut cX3_depthKeptOut 1 (some .int), Cond.methodLink RX4 98 yX4_placeAfter, Cond.methodLink RX4 101 yX3_cross, Cond.instanceMethod yX3_cross, Cond.selects RX3 yX3_cross yX3_cross, Cond.code yX3_cross cX3_cross 3 none, Cond.methodLink RX3 126 yX3_dutyAt, Cond.instanceMethod yX3_dutyAt, Cond.selects RX3 yX3_dutyAt yX3_dutyAt, Cond.code yX3_dutyAt cX3_dutyAt 2 (some .int), Cond.methodLink RL 39 yX5_walk, Cond.instanceMethod yX5_walk, Cond.selects RX5 yX5_walk yX5_walk, Cond.code yX5_walk cX5_walk 7 (some .int), Cond.methodLink RX5 102 yX5_allowed, Cond.instanceMethod yX5_allowed, Cond.selects RX5 yX5_allowed yX5_allowed, Cond.code yX5_allowed cX5_allowed 7 (some .int), Cond.methodLink RX5 96 yX5_reasonNow, Cond.instanceMethod yX5_reasonNow]
def wsL_law_r13 : List Cond := [Cond.selects RX5 yX5_reasonNow yX5_reasonNow, Cond.code yX5_reasonNow cX5_reasonNow 3 (some .int), Cond.methodLink RX5 92 yX5_reason, Cond.instanceMethod yX5_reason, Cond.selects RX5 yX5_reason yX5_reason, Cond.code yX5_reason cX5_reason 5 (some .int), Cond.methodLink RX5 86 yX5_isFrozen, Cond.instanceMethod yX5_isFrozen, Cond.selects RX5 yX5_isFrozen yX5_isFrozen, Cond.code yX5_isFrozen cX5_isFrozen 2 (some .boolean), Cond.methodLink RX5 89 yX5_depth, Cond.instanceMethod yX5_depth, Cond.selects RX5 yX5_depth yX5_depth, Cond.code yX5_depth cX5_depth 2 (some .int), Cond.methodLink RX5 105 yX5_duties, Cond.instanceMethod yX5_duties, Cond.selects RX5 yX5_duties yX5_duties, Cond.code yX5_duties cX5_duties 7 (some .int), Cond.methodLink RX5 99 yX5_duty, Cond.instanceMethod yX5_duty, Cond.selects RX5 yX5_duty yX5_duty, Cond.code yX5_duty cX5_duty 2 (some .int), Cond.methodLink RL 40 yX4_pay, Cond.instanceMethod yX4_pay]
def wsL_law_r14 : List Cond := [Cond.selects RX4 yX4_pay yX4_pay, Cond.code yX4_pay cX4_pay 3 (some .int), Cond.fieldLink RX4 104 "PuddleMinistries$Street" "owedBy" "[I", Cond.fieldLink RX4 107 "PuddleMinistries$Street" "paidBy" "[I", Cond.methodLink RL 43 yX5_pay, Cond.instanceMethod yX5_pay, Cond.selects RX5 yX5_pay yX5_pay, Cond.code yX5_pay cX5_pay 3 (some .int), Cond.methodLink RL 44 yX4_pass, Cond.instanceMethod yX4_pass, Cond.selects RX4 yX4_pass yX4_pass, Cond.code yX4_pass cX4_pass 2 (some .int), Cond.fieldLink RX4 110 "PuddleMinistries$Street" "days" "I", Cond.methodLink RX4 114 yX3_letPass, Cond.instanceMethod yX3_letPass, Cond.selects RX3 yX3_letPass yX3_letPass, Cond.code yX3_letPass cX3_letPass 2 none, Cond.methodLink RX3 69 yX3_shine, Cond.instanceMethod yX3_shine, Cond.selects RX3 yX3_shine yX3_shine, Cond.code yX3_shine cX3_shine 3 none, Cond.methodLink RX3 86 Lib.Math.min.name, Cond.static Lib.Math.min.name, Cond.code Lib.Math.min.name Lib.Math.min.code 2 (some .int)]
def wsL_law_r15 : List Cond := [Cond.methodLink RX3 72 yX3_freeze, Cond.instanceMethod yX3_freeze, Cond.selects RX3 yX3_freeze yX3_freeze, Cond.code yX3_freeze cX3_freeze 2 none, Cond.methodLink RX3 75 yX3_endDay, Cond.instanceMethod yX3_endDay, Cond.selects RX3 yX3_endDay yX3_endDay, Cond.code yX3_endDay cX3_endDay 2 none, Cond.methodLink RX3 96 yX3_agePermitsAt, Cond.instanceMethod yX3_agePermitsAt, Cond.selects RX3 yX3_agePermitsAt yX3_agePermitsAt, Cond.code yX3_agePermitsAt cX3_agePermitsAt 4 none, Cond.methodLink RX3 78 yX3_rain, Cond.instanceMethod yX3_rain, Cond.selects RX3 yX3_rain yX3_rain, Cond.code yX3_rain cX3_rain 5 none, Cond.methodLink RX4 117 yX4_sum, Cond.static yX4_sum, Cond.code yX4_sum cX4_sum 6 (some .int), Cond.methodLink RL 47 yX5_pass, Cond.instanceMethod yX5_pass, Cond.selects RX5 yX5_pass yX5_pass, Cond.code yX5_pass cX5_pass 2 (some .int), Cond.methodLink RX5 121 yX5_passNow]
def wsL_law_r16 : List Cond := [Cond.instanceMethod yX5_passNow, Cond.selects RX5 yX5_passNow yX5_passNow, Cond.code yX5_passNow cX5_passNow 2 none, Cond.methodLink RX5 108 yX5_sun, Cond.instanceMethod yX5_sun, Cond.selects RX5 yX5_sun yX5_sun, Cond.code yX5_sun cX5_sun 3 none, Cond.methodLink RX5 111 yX5_rain, Cond.instanceMethod yX5_rain, Cond.selects RX5 yX5_rain yX5_rain, Cond.code yX5_rain cX5_rain 6 none, Cond.methodLink RX5 115 yX5_frost, Cond.instanceMethod yX5_frost, Cond.selects RX5 yX5_frost yX5_frost, Cond.code yX5_frost cX5_frost 2 none, Cond.methodLink RX5 118 yX5_endDay, Cond.instanceMethod yX5_endDay, Cond.selects RX5 yX5_endDay yX5_endDay, Cond.code yX5_endDay cX5_endDay 3 none, Cond.methodLink RX5 124 yX5_water, Cond.instanceMethod yX5_water, Cond.selects RX5 yX5_water yX5_water, Cond.code yX5_water cX5_water 3 (some .int), Cond.methodLink RL 48 yX4_read]
def wsL_law_r17 : List Cond := [Cond.instanceMethod yX4_read, Cond.selects RX4 yX4_read yX4_read, Cond.code yX4_read cX4_read 2 (some .int), Cond.fieldLink RX4 128 "PuddleMinistries$Pad" "length" "I", Cond.methodLink RX4 121 yX1_findFault, Cond.instanceMethod yX1_findFault, Cond.selects RX1 yX1_findFault yX1_findFault, Cond.code yX1_findFault cX1_findFault 4 (some .int), Cond.fieldLink RX1 21 "PuddleMinistries$Pad" "length" "I", Cond.methodLink RX1 25 yX1_isAmount, Cond.static yX1_isAmount, Cond.code yX1_isAmount cX1_isAmount 1 (some .boolean), Cond.methodLink RX1 29 yX1_beginsHour, Cond.static yX1_beginsHour, Cond.code yX1_beginsHour cX1_beginsHour 1 (some .boolean), Cond.methodLink RX4 125 yX1_daysTold, Cond.instanceMethod yX1_daysTold, Cond.selects RX1 yX1_daysTold yX1_daysTold, Cond.code yX1_daysTold cX1_daysTold 3 (some .int), Cond.methodLink RX1 32 yX1_weatherAt, Cond.instanceMethod yX1_weatherAt, Cond.selects RX1 yX1_weatherAt yX1_weatherAt, Cond.code yX1_weatherAt cX1_weatherAt 3 (some .int), Cond.methodLink RX4 131 yX1_weatherAt]
def wsL_law_r18 : List Cond := [Cond.methodLink RL 52 yX5_read, Cond.instanceMethod yX5_read, Cond.selects RX5 yX5_read yX5_read, Cond.code yX5_read cX5_read 3 (some .int), Cond.fieldLink RX5 136 "PuddleMinistriesModel" "toldMany" "I", Cond.fieldLink RX5 130 "PuddleMinistriesModel" "typed" "I", Cond.methodLink RX5 142 yX5_readPad, Cond.instanceMethod yX5_readPad, Cond.selects RX5 yX5_readPad yX5_readPad, Cond.code yX5_readPad cX5_readPad 2 (some .boolean), Cond.fieldLink RX5 133 "PuddleMinistriesModel" "spot" "I", Cond.methodLink RX5 139 yX5_readHour, Cond.instanceMethod yX5_readHour, Cond.selects RX5 yX5_readHour yX5_readHour, Cond.code yX5_readHour cX5_readHour 2 (some .int), Cond.methodLink RL 53 yX4_puddle, Cond.instanceMethod yX4_puddle, Cond.selects RX4 yX4_puddle yX4_puddle, Cond.code yX4_puddle cX4_puddle 3 (some .int), Cond.fieldLink RX4 140 "PuddleMinistries$Street" "crossingsOf" "[I", Cond.methodLink RX4 134 yX3_depth, Cond.methodLink RX4 137 yX3_isFrozen, Cond.methodLink RX4 143 yX3_permitHoldersAt, Cond.instanceMethod yX3_permitHoldersAt]
def wsL_law_r19 : List Cond := [Cond.selects RX3 yX3_permitHoldersAt yX3_permitHoldersAt, Cond.code yX3_permitHoldersAt cX3_permitHoldersAt 4 (some .int), Cond.methodLink RL 56 yX5_puddle, Cond.instanceMethod yX5_puddle, Cond.selects RX5 yX5_puddle yX5_puddle, Cond.code yX5_puddle cX5_puddle 3 (some .int), Cond.methodLink RX5 146 yX5_permitted, Cond.instanceMethod yX5_permitted, Cond.selects RX5 yX5_permitted yX5_permitted, Cond.code yX5_permitted cX5_permitted 4 (some .int), Cond.methodLink RL 57 yX4_walker, Cond.instanceMethod yX4_walker, Cond.selects RX4 yX4_walker yX4_walker, Cond.code yX4_walker cX4_walker 3 (some .int), Cond.fieldLink RX4 146 "PuddleMinistries$Street" "crossedBy" "[I", Cond.methodLink RX4 149 yX3_allowedFor, Cond.instanceMethod yX3_allowedFor, Cond.selects RX3 yX3_allowedFor yX3_allowedFor, Cond.code yX3_allowedFor cX3_allowedFor 4 (some .int), Cond.methodLink RL 60 yX5_walker, Cond.instanceMethod yX5_walker, Cond.selects RX5 yX5_walker yX5_walker, Cond.code yX5_walker cX5_walker 3 (some .int), Cond.methodLink RX5 149 yX5_may]
def wsL_law_r20 : List Cond := [Cond.instanceMethod yX5_may, Cond.selects RX5 yX5_may yX5_may, Cond.code yX5_may cX5_may 5 (some .int), Cond.methodLink RL 61 yX4_why, Cond.instanceMethod yX4_why, Cond.selects RX4 yX4_why yX4_why, Cond.code yX4_why cX4_why 3 (some .int), Cond.methodLink RX4 152 yX3_reasonAgainst, Cond.methodLink RL 64 yX5_why, Cond.instanceMethod yX5_why, Cond.selects RX5 yX5_why yX5_why, Cond.code yX5_why cX5_why 3 (some .int), Cond.methodLink RL 65 yX4_holds, Cond.instanceMethod yX4_holds, Cond.selects RX4 yX4_holds yX4_holds, Cond.code yX4_holds cX4_holds 4 (some .int), Cond.methodLink RL 68 yX5_holds, Cond.instanceMethod yX5_holds, Cond.selects RX5 yX5_holds yX5_holds, Cond.code yX5_holds cX5_holds 3 (some .int), Cond.methodLink RL 69 yX4_count, Cond.instanceMethod yX4_count, Cond.selects RX4 yX4_count yX4_count, Cond.code yX4_count cX4_count 2 (some .int)]
def wsL_law_r21 : List Cond := [Cond.fieldLink RX4 155 "PuddleMinistries$Street" "fell" "I", Cond.fieldLink RX4 158 "PuddleMinistries$Street" "dried" "I", Cond.fieldLink RX4 161 "PuddleMinistries$Street" "drained" "I", Cond.fieldLink RX4 164 "PuddleMinistries$Street" "frozenSet" "I", Cond.fieldLink RX4 167 "PuddleMinistries$Street" "ducksSet" "I", Cond.fieldLink RX4 173 "PuddleMinistries$History" "size" "I", Cond.methodLink RX4 170 yX3_allPermits, Cond.instanceMethod yX3_allPermits, Cond.selects RX3 yX3_allPermits yX3_allPermits, Cond.code yX3_allPermits cX3_allPermits 3 (some .int), Cond.methodLink RX3 105 yX3_permitsOf, Cond.methodLink RX3 108 yJ6_bitCount_0f7a4, Cond.methodLink RL 72 yX5_count, Cond.instanceMethod yX5_count, Cond.selects RX5 yX5_count yX5_count, Cond.code yX5_count cX5_count 2 (some .int), Cond.methodLink RX5 152 yX5_puddlesWith, Cond.instanceMethod yX5_puddlesWith, Cond.selects RX5 yX5_puddlesWith yX5_puddlesWith, Cond.code yX5_puddlesWith cX5_puddlesWith 4 (some .int), Cond.methodLink RX5 155 yX5_allPermits, Cond.instanceMethod yX5_allPermits, Cond.selects RX5 yX5_allPermits yX5_allPermits, Cond.code yX5_allPermits cX5_allPermits 3 (some .int)]
def wsL_law_r22 : List Cond := [Cond.methodLink RX5 158 yX5_sumOfWalkers, Cond.instanceMethod yX5_sumOfWalkers, Cond.selects RX5 yX5_sumOfWalkers yX5_sumOfWalkers, Cond.code yX5_sumOfWalkers cX5_sumOfWalkers 4 (some .int), Cond.methodLink RL 73 yX4_cost, Cond.instanceMethod yX4_cost, Cond.selects RX4 yX4_cost yX4_cost, Cond.code yX4_cost cX4_cost 5 (some .int), Cond.methodLink RX4 176 yX3_costBySteps, Cond.instanceMethod yX3_costBySteps, Cond.selects RX3 yX3_costBySteps yX3_costBySteps, Cond.code yX3_costBySteps cX3_costBySteps 8 (some .int), Cond.methodLink RX4 179 yX3_costByBlock, Cond.instanceMethod yX3_costByBlock, Cond.selects RX3 yX3_costByBlock yX3_costByBlock, Cond.code yX3_costByBlock cX3_costByBlock 7 (some .int), Cond.methodLink RX3 135 yX3_stepsUntilBlocked, Cond.methodLink RL 77 yX5_cost, Cond.instanceMethod yX5_cost, Cond.selects RX5 yX5_cost yX5_cost, Cond.code yX5_cost cX5_cost 5 (some .int), Cond.methodLink RL 78 yX4_untilDry, Cond.instanceMethod yX4_untilDry, Cond.selects RX4 yX4_untilDry yX4_untilDry]
def wsL_law_r23 : List Cond := [Cond.code yX4_untilDry cX4_untilDry 5 (some .int), Cond.methodLink RL 81 yX5_untilDry, Cond.instanceMethod yX5_untilDry, Cond.selects RX5 yX5_untilDry yX5_untilDry, Cond.code yX5_untilDry cX5_untilDry 3 (some .int), Cond.methodLink RL 82 yX4_leastShoes, Cond.instanceMethod yX4_leastShoes, Cond.selects RX4 yX4_leastShoes yX4_leastShoes, Cond.code yX4_leastShoes cX4_leastShoes 3 (some .int), Cond.methodLink RX4 182 yX3_allowsAllWith, Cond.instanceMethod yX3_allowsAllWith, Cond.selects RX3 yX3_allowsAllWith yX3_allowsAllWith, Cond.code yX3_allowsAllWith cX3_allowsAllWith 4 (some .boolean), Cond.methodLink RL 85 yX5_leastShoes, Cond.instanceMethod yX5_leastShoes, Cond.selects RX5 yX5_leastShoes yX5_leastShoes, Cond.code yX5_leastShoes cX5_leastShoes 4 (some .int), Cond.methodLink RL 86 yX4_longestWalk, Cond.instanceMethod yX4_longestWalk, Cond.selects RX4 yX4_longestWalk yX4_longestWalk, Cond.code yX4_longestWalk cX4_longestWalk 8 (some .int), Cond.methodLink RX4 186 yX4_isIn, Cond.methodLink RL 89 yX5_longestWalk, Cond.instanceMethod yX5_longestWalk]
def wsL_law_r24 : List Cond := [Cond.selects RX5 yX5_longestWalk yX5_longestWalk, Cond.code yX5_longestWalk cX5_longestWalk 7 (some .int), Cond.methodLink RL 92 yX4_put, Cond.instanceMethod yX4_put, Cond.selects RX4 yX4_put yX4_put, Cond.code yX4_put cX4_put 4 (some .int), Cond.methodLink RX4 189 yX1_charactersIn, Cond.static yX1_charactersIn, Cond.code yX1_charactersIn cX1_charactersIn 7 (some .int), Cond.constantLong RX1 15 (255), Cond.constantLong RX1 17 (33), Cond.constantLong RX1 19 (126), Cond.methodLink RX4 193 yX1_append, Cond.instanceMethod yX1_append, Cond.selects RX1 yX1_append yX1_append, Cond.code yX1_append cX1_append 5 none, Cond.methodLink RL 96 yX5_put, Cond.instanceMethod yX5_put, Cond.selects RX5 yX5_put yX5_put, Cond.code yX5_put cX5_put 7 (some .int), Cond.constantLong RX5 128 (255), Cond.methodLink RL 97 yX4_wipe, Cond.instanceMethod yX4_wipe, Cond.selects RX4 yX4_wipe yX4_wipe]
def wsL_law_r25 : List Cond := [Cond.code yX4_wipe cX4_wipe 2 (some .int), Cond.methodLink RL 100 yX5_wipe, Cond.instanceMethod yX5_wipe, Cond.selects RX5 yX5_wipe yX5_wipe, Cond.code yX5_wipe cX5_wipe 2 (some .int), Cond.methodLink RL 101 yX4_fault, Cond.instanceMethod yX4_fault, Cond.selects RX4 yX4_fault yX4_fault, Cond.code yX4_fault cX4_fault 1 (some .int), Cond.methodLink RL 104 yX5_fault, Cond.instanceMethod yX5_fault, Cond.selects RX5 yX5_fault yX5_fault, Cond.code yX5_fault cX5_fault 1 (some .int), Cond.methodLink RL 105 yX4_undo, Cond.instanceMethod yX4_undo, Cond.selects RX4 yX4_undo yX4_undo, Cond.code yX4_undo cX4_undo 1 (some .int), Cond.methodLink RX4 197 yX0_takeBack, Cond.instanceMethod yX0_takeBack, Cond.selects RX0 yX0_takeBack yX0_takeBack, Cond.code yX0_takeBack cX0_takeBack 2 none, Cond.methodLink RL 108 yX5_undo, Cond.instanceMethod yX5_undo, Cond.selects RX5 yX5_undo yX5_undo]
def wsL_law_r26 : List Cond := [Cond.code yX5_undo cX5_undo 1 (some .int), Cond.methodLink RL 109 yX4_save, Cond.instanceMethod yX4_save, Cond.selects RX4 yX4_save yX4_save, Cond.code yX4_save cX4_save 2 (some .int), Cond.fieldLink RX4 200 "PuddleMinistries$Slots" "kept" "[LPuddleMinistries$Street;", Cond.fieldLink RX4 207 "PuddleMinistries$Slots" "used" "[Z", Cond.methodLink RX4 204 yX3_copyFrom, Cond.methodLink RL 112 yX5_save, Cond.instanceMethod yX5_save, Cond.selects RX5 yX5_save yX5_save, Cond.code yX5_save cX5_save 2 (some .int), Cond.methodLink RL 113 yX4_restore, Cond.instanceMethod yX4_restore, Cond.selects RX4 yX4_restore yX4_restore, Cond.code yX4_restore cX4_restore 2 (some .int), Cond.methodLink RL 116 yX5_restore, Cond.instanceMethod yX5_restore, Cond.selects RX5 yX5_restore yX5_restore, Cond.code yX5_restore cX5_restore 2 (some .int)]
def wsL_law : List Cond := (wsL_law_r1 ++ (wsL_law_r2 ++ (wsL_law_r3 ++ (wsL_law_r4 ++ (wsL_law_r5 ++ (wsL_law_r6 ++ (wsL_law_r7 ++ (wsL_law_r8 ++ (wsL_law_r9 ++ (wsL_law_r10 ++ (wsL_law_r11 ++ (wsL_law_r12 ++ (wsL_law_r13 ++ (wsL_law_r14 ++ (wsL_law_r15 ++ (wsL_law_r16 ++ (wsL_law_r17 ++ (wsL_law_r18 ++ (wsL_law_r19 ++ (wsL_law_r20 ++ (wsL_law_r21 ++ (wsL_law_r22 ++ (wsL_law_r23 ++ (wsL_law_r24 ++ (wsL_law_r25 ++ wsL_law_r26))))))))))))))))))))))))) ++ wsX40 ++ wsX50 ++ wsX30 ++ wsX10 ++ wsX00 ++ wsX20 ++ ([] : List Cond)
abbrev vwCl : List vw_C := [(RX0, TX0, 2), (RX1, TX1, 2), (RX2, TX2, 2), (RX3, TX3, 15), (RX4, TX4, 4), (RX5, TX5, 10)]
end
section
set_option maxRecDepth 20000 in
theorem ggX0_init_X3_init : GoodIn wsX0_init wsX3_init := goodIn_r _ [10, 11, 2, 3, 12, 13, 14, 15, 16, 17, 18, 19, 20, 21, 24, 25, 26, 27, 28, 29, 30, 31, 32, 33, 34, 35, 36, 37, 38] (by decide +kernel) (by decide +kernel)
set_option maxRecDepth 20000 in
theorem gX0_init_X3_init : GoodIn wsX0_init (wsX3_init) := ggX0_init_X3_init
theorem dX0_init_0 : decode cX0_init 0 = .ok (.aload_n 0, 1) := by decide +kernel
theorem dX0_init_1 : decode cX0_init 1 = .ok (.invokespecial 3, 3) := by decide +kernel
theorem dX0_init_4 : decode cX0_init 4 = .ok (.aload_n 0, 1) := by decide +kernel
theorem dX0_init_5 : decode cX0_init 5 = .ok (.bipush 6, 2) := by decide +kernel
theorem dX0_init_7 : decode cX0_init 7 = .ok (.anewarray 9, 3) := by decide +kernel
theorem dX0_init_10 : decode cX0_init 10 = .ok (.putfield 11, 3) := by decide +kernel
theorem dX0_init_13 : decode cX0_init 13 = .ok (.iconst 0, 1) := by decide +kernel
theorem dX0_init_14 : decode cX0_init 14 = .ok (.istore_n 1, 1) := by decide +kernel
theorem dX0_init_15 : decode cX0_init 15 = .ok (.iload_n 1, 1) := by decide +kernel
theorem dX0_init_16 : decode cX0_init 16 = .ok (.bipush 6, 2) := by decide +kernel
theorem dX0_init_18 : decode cX0_init 18 = .ok (.if_icmp .ge 22, 3) := by decide +kernel
theorem dX0_init_21 : decode cX0_init 21 = .ok (.aload_n 0, 1) := by decide +kernel
theorem dX0_init_22 : decode cX0_init 22 = .ok (.getfield 11, 3) := by decide +kernel
theorem dX0_init_25 : decode cX0_init 25 = .ok (.iload_n 1, 1) := by decide +kernel
theorem dX0_init_26 : decode cX0_init 26 = .ok (.new 9, 3) := by decide +kernel
theorem dX0_init_29 : decode cX0_init 29 = .ok (.dup, 1) := by decide +kernel
theorem dX0_init_30 : decode cX0_init 30 = .ok (.invokespecial 17, 3) := by decide +kernel
theorem dX0_init_33 : decode cX0_init 33 = .ok (.aastore, 1) := by decide +kernel
theorem dX0_init_34 : decode cX0_init 34 = .ok (.iinc 1 1, 3) := by decide +kernel
theorem dX0_init_37 : decode cX0_init 37 = .ok (.goto (-22), 3) := by decide +kernel
theorem dX0_init_40 : decode cX0_init 40 = .ok (.return_, 1) := by decide +kernel
set_option maxRecDepth 20000 in
theorem ggX0_record_X0_dropOldest : GoodIn wsX0_record wsX0_dropOldest := goodIn_r _ [7, 2, 1, 31, 32] (by decide +kernel) (by decide +kernel)
set_option maxRecDepth 20000 in
theorem gX0_record_X0_dropOldest : GoodIn wsX0_record (wsV RX0 22 RX0 yX0_dropOldest wsX0_dropOldest) := goodIn_app (goodIn_of _ (by decide +kernel)) ggX0_record_X0_dropOldest
set_option maxRecDepth 20000 in
theorem ggX0_record_X3_copyFrom : GoodIn wsX0_record wsX3_copyFrom := goodIn_r _ [12, 13, 14, 15, 16, 17, 18, 19, 20, 21, 22, 23, 24, 25, 26, 27, 28, 29, 30, 33, 34, 35, 36, 37, 38, 39, 40, 41, 42, 43, 44, 45, 46, 47] (by decide +kernel) (by decide +kernel)
set_option maxRecDepth 20000 in
theorem gX0_record_X3_copyFrom : GoodIn wsX0_record (wsV RX0 25 RX3 yX3_copyFrom wsX3_copyFrom) := goodIn_app (goodIn_of _ (by decide +kernel)) ggX0_record_X3_copyFrom
theorem dX0_record_0 : decode cX0_record 0 = .ok (.aload_n 0, 1) := by decide +kernel
theorem dX0_record_1 : decode cX0_record 1 = .ok (.getfield 18, 3) := by decide +kernel
theorem dX0_record_4 : decode cX0_record 4 = .ok (.bipush 6, 2) := by decide +kernel
theorem dX0_record_6 : decode cX0_record 6 = .ok (.if_icmp .lt 7, 3) := by decide +kernel
theorem dX0_record_9 : decode cX0_record 9 = .ok (.aload_n 0, 1) := by decide +kernel
theorem dX0_record_10 : decode cX0_record 10 = .ok (.invokevirtual 22, 3) := by decide +kernel
theorem dX0_record_13 : decode cX0_record 13 = .ok (.aload_n 0, 1) := by decide +kernel
theorem dX0_record_14 : decode cX0_record 14 = .ok (.getfield 11, 3) := by decide +kernel
theorem dX0_record_17 : decode cX0_record 17 = .ok (.aload_n 0, 1) := by decide +kernel
theorem dX0_record_18 : decode cX0_record 18 = .ok (.getfield 18, 3) := by decide +kernel
theorem dX0_record_21 : decode cX0_record 21 = .ok (.aaload, 1) := by decide +kernel
theorem dX0_record_22 : decode cX0_record 22 = .ok (.aload_n 1, 1) := by decide +kernel
theorem dX0_record_23 : decode cX0_record 23 = .ok (.invokevirtual 25, 3) := by decide +kernel
theorem dX0_record_26 : decode cX0_record 26 = .ok (.aload_n 0, 1) := by decide +kernel
theorem dX0_record_27 : decode cX0_record 27 = .ok (.dup, 1) := by decide +kernel
theorem dX0_record_28 : decode cX0_record 28 = .ok (.getfield 18, 3) := by decide +kernel
theorem dX0_record_31 : decode cX0_record 31 = .ok (.iconst 1, 1) := by decide +kernel
theorem dX0_record_32 : decode cX0_record 32 = .ok (.iadd, 1) := by decide +kernel
theorem dX0_record_33 : decode cX0_record 33 = .ok (.putfield 18, 3) := by decide +kernel
theorem dX0_record_36 : decode cX0_record 36 = .ok (.return_, 1) := by decide +kernel
theorem dX0_dropOldest_0 : decode cX0_dropOldest 0 = .ok (.aload_n 0, 1) := by decide +kernel
theorem dX0_dropOldest_1 : decode cX0_dropOldest 1 = .ok (.getfield 11, 3) := by decide +kernel
theorem dX0_dropOldest_4 : decode cX0_dropOldest 4 = .ok (.iconst 0, 1) := by decide +kernel
theorem dX0_dropOldest_5 : decode cX0_dropOldest 5 = .ok (.aaload, 1) := by decide +kernel
theorem dX0_dropOldest_6 : decode cX0_dropOldest 6 = .ok (.astore_n 1, 1) := by decide +kernel
theorem dX0_dropOldest_7 : decode cX0_dropOldest 7 = .ok (.iconst 1, 1) := by decide +kernel
theorem dX0_dropOldest_8 : decode cX0_dropOldest 8 = .ok (.istore_n 2, 1) := by decide +kernel
theorem dX0_dropOldest_9 : decode cX0_dropOldest 9 = .ok (.iload_n 2, 1) := by decide +kernel
theorem dX0_dropOldest_10 : decode cX0_dropOldest 10 = .ok (.bipush 6, 2) := by decide +kernel
theorem dX0_dropOldest_12 : decode cX0_dropOldest 12 = .ok (.if_icmp .ge 23, 3) := by decide +kernel
theorem dX0_dropOldest_15 : decode cX0_dropOldest 15 = .ok (.aload_n 0, 1) := by decide +kernel
theorem dX0_dropOldest_16 : decode cX0_dropOldest 16 = .ok (.getfield 11, 3) := by decide +kernel
theorem dX0_dropOldest_19 : decode cX0_dropOldest 19 = .ok (.iload_n 2, 1) := by decide +kernel
theorem dX0_dropOldest_20 : decode cX0_dropOldest 20 = .ok (.iconst 1, 1) := by decide +kernel
theorem dX0_dropOldest_21 : decode cX0_dropOldest 21 = .ok (.isub, 1) := by decide +kernel
theorem dX0_dropOldest_22 : decode cX0_dropOldest 22 = .ok (.aload_n 0, 1) := by decide +kernel
theorem dX0_dropOldest_23 : decode cX0_dropOldest 23 = .ok (.getfield 11, 3) := by decide +kernel
theorem dX0_dropOldest_26 : decode cX0_dropOldest 26 = .ok (.iload_n 2, 1) := by decide +kernel
theorem dX0_dropOldest_27 : decode cX0_dropOldest 27 = .ok (.aaload, 1) := by decide +kernel
theorem dX0_dropOldest_28 : decode cX0_dropOldest 28 = .ok (.aastore, 1) := by decide +kernel
theorem dX0_dropOldest_29 : decode cX0_dropOldest 29 = .ok (.iinc 2 1, 3) := by decide +kernel
theorem dX0_dropOldest_32 : decode cX0_dropOldest 32 = .ok (.goto (-23), 3) := by decide +kernel
theorem dX0_dropOldest_35 : decode cX0_dropOldest 35 = .ok (.aload_n 0, 1) := by decide +kernel
theorem dX0_dropOldest_36 : decode cX0_dropOldest 36 = .ok (.getfield 11, 3) := by decide +kernel
theorem dX0_dropOldest_39 : decode cX0_dropOldest 39 = .ok (.iconst 5, 1) := by decide +kernel
theorem dX0_dropOldest_40 : decode cX0_dropOldest 40 = .ok (.aload_n 1, 1) := by decide +kernel
theorem dX0_dropOldest_41 : decode cX0_dropOldest 41 = .ok (.aastore, 1) := by decide +kernel
theorem dX0_dropOldest_42 : decode cX0_dropOldest 42 = .ok (.aload_n 0, 1) := by decide +kernel
theorem dX0_dropOldest_43 : decode cX0_dropOldest 43 = .ok (.iconst 5, 1) := by decide +kernel
theorem dX0_dropOldest_44 : decode cX0_dropOldest 44 = .ok (.putfield 18, 3) := by decide +kernel
theorem dX0_dropOldest_47 : decode cX0_dropOldest 47 = .ok (.return_, 1) := by decide +kernel
set_option maxRecDepth 20000 in
theorem ggX0_takeBack_X3_copyFrom : GoodIn wsX0_takeBack wsX3_copyFrom := goodIn_r _ [7, 8, 9, 10, 11, 12, 13, 14, 15, 16, 17, 18, 19, 20, 21, 22, 23, 24, 25, 28, 29, 30, 31, 32, 33, 34, 35, 36, 37, 38, 39, 40, 41, 42] (by decide +kernel) (by decide +kernel)
set_option maxRecDepth 20000 in
theorem gX0_takeBack_X3_copyFrom : GoodIn wsX0_takeBack (wsV RX0 25 RX3 yX3_copyFrom wsX3_copyFrom) := goodIn_app (goodIn_of _ (by decide +kernel)) ggX0_takeBack_X3_copyFrom
theorem dX0_takeBack_0 : decode cX0_takeBack 0 = .ok (.aload_n 0, 1) := by decide +kernel
theorem dX0_takeBack_1 : decode cX0_takeBack 1 = .ok (.getfield 18, 3) := by decide +kernel
theorem dX0_takeBack_4 : decode cX0_takeBack 4 = .ok (.ifCond .gt 4, 3) := by decide +kernel
theorem dX0_takeBack_7 : decode cX0_takeBack 7 = .ok (.return_, 1) := by decide +kernel
theorem dX0_takeBack_8 : decode cX0_takeBack 8 = .ok (.aload_n 0, 1) := by decide +kernel
theorem dX0_takeBack_9 : decode cX0_takeBack 9 = .ok (.dup, 1) := by decide +kernel
theorem dX0_takeBack_10 : decode cX0_takeBack 10 = .ok (.getfield 18, 3) := by decide +kernel
theorem dX0_takeBack_13 : decode cX0_takeBack 13 = .ok (.iconst 1, 1) := by decide +kernel
theorem dX0_takeBack_14 : decode cX0_takeBack 14 = .ok (.isub, 1) := by decide +kernel
theorem dX0_takeBack_15 : decode cX0_takeBack 15 = .ok (.putfield 18, 3) := by decide +kernel
theorem dX0_takeBack_18 : decode cX0_takeBack 18 = .ok (.aload_n 1, 1) := by decide +kernel
theorem dX0_takeBack_19 : decode cX0_takeBack 19 = .ok (.aload_n 0, 1) := by decide +kernel
theorem dX0_takeBack_20 : decode cX0_takeBack 20 = .ok (.getfield 11, 3) := by decide +kernel
theorem dX0_takeBack_23 : decode cX0_takeBack 23 = .ok (.aload_n 0, 1) := by decide +kernel
theorem dX0_takeBack_24 : decode cX0_takeBack 24 = .ok (.getfield 18, 3) := by decide +kernel
theorem dX0_takeBack_27 : decode cX0_takeBack 27 = .ok (.aaload, 1) := by decide +kernel
theorem dX0_takeBack_28 : decode cX0_takeBack 28 = .ok (.invokevirtual 25, 3) := by decide +kernel
theorem dX0_takeBack_31 : decode cX0_takeBack 31 = .ok (.return_, 1) := by decide +kernel
theorem dX1_init_0 : decode cX1_init 0 = .ok (.aload_n 0, 1) := by decide +kernel
theorem dX1_init_1 : decode cX1_init 1 = .ok (.invokespecial 3, 3) := by decide +kernel
theorem dX1_init_4 : decode cX1_init 4 = .ok (.aload_n 0, 1) := by decide +kernel
theorem dX1_init_5 : decode cX1_init 5 = .ok (.bipush 60, 2) := by decide +kernel
theorem dX1_init_7 : decode cX1_init 7 = .ok (.newarray .char, 2) := by decide +kernel
theorem dX1_init_9 : decode cX1_init 9 = .ok (.putfield 11, 3) := by decide +kernel
theorem dX1_init_12 : decode cX1_init 12 = .ok (.return_, 1) := by decide +kernel
theorem dX1_charactersIn_0 : decode cX1_charactersIn 0 = .ok (.lload_n 0, 1) := by decide +kernel
theorem dX1_charactersIn_1 : decode cX1_charactersIn 1 = .ok (.lstore_n 2, 1) := by decide +kernel
theorem dX1_charactersIn_2 : decode cX1_charactersIn 2 = .ok (.iconst 0, 1) := by decide +kernel
theorem dX1_charactersIn_3 : decode cX1_charactersIn 3 = .ok (.istore 4, 2) := by decide +kernel
theorem dX1_charactersIn_5 : decode cX1_charactersIn 5 = .ok (.iload 4, 2) := by decide +kernel
theorem dX1_charactersIn_7 : decode cX1_charactersIn 7 = .ok (.bipush 8, 2) := by decide +kernel
theorem dX1_charactersIn_9 : decode cX1_charactersIn 9 = .ok (.if_icmp .ge 51, 3) := by decide +kernel
theorem dX1_charactersIn_12 : decode cX1_charactersIn 12 = .ok (.lload_n 2, 1) := by decide +kernel
theorem dX1_charactersIn_13 : decode cX1_charactersIn 13 = .ok (.ldc2_w 15, 3) := by decide +kernel
theorem dX1_charactersIn_16 : decode cX1_charactersIn 16 = .ok (.land, 1) := by decide +kernel
theorem dX1_charactersIn_17 : decode cX1_charactersIn 17 = .ok (.lconst 0, 1) := by decide +kernel
theorem dX1_charactersIn_18 : decode cX1_charactersIn 18 = .ok (.lcmp, 1) := by decide +kernel
theorem dX1_charactersIn_19 : decode cX1_charactersIn 19 = .ok (.ifCond .eq 41, 3) := by decide +kernel
theorem dX1_charactersIn_22 : decode cX1_charactersIn 22 = .ok (.lload_n 2, 1) := by decide +kernel
theorem dX1_charactersIn_23 : decode cX1_charactersIn 23 = .ok (.ldc2_w 15, 3) := by decide +kernel
theorem dX1_charactersIn_26 : decode cX1_charactersIn 26 = .ok (.land, 1) := by decide +kernel
theorem dX1_charactersIn_27 : decode cX1_charactersIn 27 = .ok (.lstore 5, 2) := by decide +kernel
theorem dX1_charactersIn_29 : decode cX1_charactersIn 29 = .ok (.lload 5, 2) := by decide +kernel
theorem dX1_charactersIn_31 : decode cX1_charactersIn 31 = .ok (.ldc2_w 17, 3) := by decide +kernel
theorem dX1_charactersIn_34 : decode cX1_charactersIn 34 = .ok (.lcmp, 1) := by decide +kernel
theorem dX1_charactersIn_35 : decode cX1_charactersIn 35 = .ok (.ifCond .lt 12, 3) := by decide +kernel
theorem dX1_charactersIn_38 : decode cX1_charactersIn 38 = .ok (.lload 5, 2) := by decide +kernel
theorem dX1_charactersIn_40 : decode cX1_charactersIn 40 = .ok (.ldc2_w 19, 3) := by decide +kernel
theorem dX1_charactersIn_43 : decode cX1_charactersIn 43 = .ok (.lcmp, 1) := by decide +kernel
theorem dX1_charactersIn_44 : decode cX1_charactersIn 44 = .ok (.ifCond .le 5, 3) := by decide +kernel
theorem dX1_charactersIn_47 : decode cX1_charactersIn 47 = .ok (.iconst 0, 1) := by decide +kernel
theorem dX1_charactersIn_48 : decode cX1_charactersIn 48 = .ok (.ireturn, 1) := by decide +kernel
theorem dX1_charactersIn_49 : decode cX1_charactersIn 49 = .ok (.lload_n 2, 1) := by decide +kernel
theorem dX1_charactersIn_50 : decode cX1_charactersIn 50 = .ok (.bipush 8, 2) := by decide +kernel
theorem dX1_charactersIn_52 : decode cX1_charactersIn 52 = .ok (.lushr, 1) := by decide +kernel
theorem dX1_charactersIn_53 : decode cX1_charactersIn 53 = .ok (.lstore_n 2, 1) := by decide +kernel
theorem dX1_charactersIn_54 : decode cX1_charactersIn 54 = .ok (.iinc 4 1, 3) := by decide +kernel
theorem dX1_charactersIn_57 : decode cX1_charactersIn 57 = .ok (.goto (-52), 3) := by decide +kernel
theorem dX1_charactersIn_60 : decode cX1_charactersIn 60 = .ok (.lload_n 2, 1) := by decide +kernel
theorem dX1_charactersIn_61 : decode cX1_charactersIn 61 = .ok (.lconst 0, 1) := by decide +kernel
theorem dX1_charactersIn_62 : decode cX1_charactersIn 62 = .ok (.lcmp, 1) := by decide +kernel
theorem dX1_charactersIn_63 : decode cX1_charactersIn 63 = .ok (.ifCond .ne 8, 3) := by decide +kernel
theorem dX1_charactersIn_66 : decode cX1_charactersIn 66 = .ok (.iload 4, 2) := by decide +kernel
theorem dX1_charactersIn_68 : decode cX1_charactersIn 68 = .ok (.goto 4, 3) := by decide +kernel
theorem dX1_charactersIn_71 : decode cX1_charactersIn 71 = .ok (.iconst 0, 1) := by decide +kernel
theorem dX1_charactersIn_72 : decode cX1_charactersIn 72 = .ok (.ireturn, 1) := by decide +kernel
theorem dX1_append_0 : decode cX1_append 0 = .ok (.iload_n 3, 1) := by decide +kernel
theorem dX1_append_1 : decode cX1_append 1 = .ok (.iconst 1, 1) := by decide +kernel
theorem dX1_append_2 : decode cX1_append 2 = .ok (.isub, 1) := by decide +kernel
theorem dX1_append_3 : decode cX1_append 3 = .ok (.istore 4, 2) := by decide +kernel
theorem dX1_append_5 : decode cX1_append 5 = .ok (.iload 4, 2) := by decide +kernel
theorem dX1_append_7 : decode cX1_append 7 = .ok (.ifCond .lt 50, 3) := by decide +kernel
theorem dX1_append_10 : decode cX1_append 10 = .ok (.aload_n 0, 1) := by decide +kernel
theorem dX1_append_11 : decode cX1_append 11 = .ok (.getfield 21, 3) := by decide +kernel
theorem dX1_append_14 : decode cX1_append 14 = .ok (.bipush 60, 2) := by decide +kernel
theorem dX1_append_16 : decode cX1_append 16 = .ok (.if_icmp .ge 41, 3) := by decide +kernel
theorem dX1_append_19 : decode cX1_append 19 = .ok (.aload_n 0, 1) := by decide +kernel
theorem dX1_append_20 : decode cX1_append 20 = .ok (.getfield 11, 3) := by decide +kernel
theorem dX1_append_23 : decode cX1_append 23 = .ok (.aload_n 0, 1) := by decide +kernel
theorem dX1_append_24 : decode cX1_append 24 = .ok (.getfield 21, 3) := by decide +kernel
theorem dX1_append_27 : decode cX1_append 27 = .ok (.lload_n 1, 1) := by decide +kernel
theorem dX1_append_28 : decode cX1_append 28 = .ok (.bipush 8, 2) := by decide +kernel
theorem dX1_append_30 : decode cX1_append 30 = .ok (.iload 4, 2) := by decide +kernel
theorem dX1_append_32 : decode cX1_append 32 = .ok (.imul, 1) := by decide +kernel
theorem dX1_append_33 : decode cX1_append 33 = .ok (.lushr, 1) := by decide +kernel
theorem dX1_append_34 : decode cX1_append 34 = .ok (.ldc2_w 15, 3) := by decide +kernel
theorem dX1_append_37 : decode cX1_append 37 = .ok (.land, 1) := by decide +kernel
theorem dX1_append_38 : decode cX1_append 38 = .ok (.l2i, 1) := by decide +kernel
theorem dX1_append_39 : decode cX1_append 39 = .ok (.i2c, 1) := by decide +kernel
theorem dX1_append_40 : decode cX1_append 40 = .ok (.castore, 1) := by decide +kernel
theorem dX1_append_41 : decode cX1_append 41 = .ok (.aload_n 0, 1) := by decide +kernel
theorem dX1_append_42 : decode cX1_append 42 = .ok (.dup, 1) := by decide +kernel
theorem dX1_append_43 : decode cX1_append 43 = .ok (.getfield 21, 3) := by decide +kernel
theorem dX1_append_46 : decode cX1_append 46 = .ok (.iconst 1, 1) := by decide +kernel
theorem dX1_append_47 : decode cX1_append 47 = .ok (.iadd, 1) := by decide +kernel
theorem dX1_append_48 : decode cX1_append 48 = .ok (.putfield 21, 3) := by decide +kernel
theorem dX1_append_51 : decode cX1_append 51 = .ok (.iinc 4 (-1), 3) := by decide +kernel
theorem dX1_append_54 : decode cX1_append 54 = .ok (.goto (-49), 3) := by decide +kernel
theorem dX1_append_57 : decode cX1_append 57 = .ok (.return_, 1) := by decide +kernel
set_option maxRecDepth 20000 in
theorem ggX1_findFault_X1_isAmount : GoodIn wsX1_findFault wsX1_isAmount := goodIn_r _ [6] (by decide +kernel) (by decide +kernel)
set_option maxRecDepth 20000 in
theorem gX1_findFault_X1_isAmount : GoodIn wsX1_findFault (va_wsS RX1 25 yX1_isAmount wsX1_isAmount) := goodIn_app (goodIn_of _ (by decide +kernel)) ggX1_findFault_X1_isAmount
set_option maxRecDepth 20000 in
theorem ggX1_findFault_X1_beginsHour : GoodIn wsX1_findFault wsX1_beginsHour := goodIn_r _ [9] (by decide +kernel) (by decide +kernel)
set_option maxRecDepth 20000 in
theorem gX1_findFault_X1_beginsHour : GoodIn wsX1_findFault (va_wsS RX1 29 yX1_beginsHour wsX1_beginsHour) := goodIn_app (goodIn_of _ (by decide +kernel)) ggX1_findFault_X1_beginsHour
theorem dX1_findFault_0 : decode cX1_findFault 0 = .ok (.iconst 0, 1) := by decide +kernel
theorem dX1_findFault_1 : decode cX1_findFault 1 = .ok (.istore_n 1, 1) := by decide +kernel
theorem dX1_findFault_2 : decode cX1_findFault 2 = .ok (.iconst 0, 1) := by decide +kernel
theorem dX1_findFault_3 : decode cX1_findFault 3 = .ok (.istore_n 2, 1) := by decide +kernel
theorem dX1_findFault_4 : decode cX1_findFault 4 = .ok (.iload_n 2, 1) := by decide +kernel
theorem dX1_findFault_5 : decode cX1_findFault 5 = .ok (.aload_n 0, 1) := by decide +kernel
theorem dX1_findFault_6 : decode cX1_findFault 6 = .ok (.getfield 21, 3) := by decide +kernel
theorem dX1_findFault_9 : decode cX1_findFault 9 = .ok (.if_icmp .ge 51, 3) := by decide +kernel
theorem dX1_findFault_12 : decode cX1_findFault 12 = .ok (.aload_n 0, 1) := by decide +kernel
theorem dX1_findFault_13 : decode cX1_findFault 13 = .ok (.getfield 11, 3) := by decide +kernel
theorem dX1_findFault_16 : decode cX1_findFault 16 = .ok (.iload_n 2, 1) := by decide +kernel
theorem dX1_findFault_17 : decode cX1_findFault 17 = .ok (.caload, 1) := by decide +kernel
theorem dX1_findFault_18 : decode cX1_findFault 18 = .ok (.istore_n 3, 1) := by decide +kernel
theorem dX1_findFault_19 : decode cX1_findFault 19 = .ok (.iload_n 1, 1) := by decide +kernel
theorem dX1_findFault_20 : decode cX1_findFault 20 = .ok (.ifCond .eq 13, 3) := by decide +kernel
theorem dX1_findFault_23 : decode cX1_findFault 23 = .ok (.iload_n 3, 1) := by decide +kernel
theorem dX1_findFault_24 : decode cX1_findFault 24 = .ok (.invokestatic 25, 3) := by decide +kernel
theorem dX1_findFault_27 : decode cX1_findFault 27 = .ok (.ifCond .ne 15, 3) := by decide +kernel
theorem dX1_findFault_30 : decode cX1_findFault 30 = .ok (.goto 10, 3) := by decide +kernel
theorem dX1_findFault_33 : decode cX1_findFault 33 = .ok (.iload_n 3, 1) := by decide +kernel
theorem dX1_findFault_34 : decode cX1_findFault 34 = .ok (.invokestatic 29, 3) := by decide +kernel
theorem dX1_findFault_37 : decode cX1_findFault 37 = .ok (.ifCond .ne 5, 3) := by decide +kernel
theorem dX1_findFault_40 : decode cX1_findFault 40 = .ok (.iload_n 2, 1) := by decide +kernel
theorem dX1_findFault_41 : decode cX1_findFault 41 = .ok (.ireturn, 1) := by decide +kernel
theorem dX1_findFault_42 : decode cX1_findFault 42 = .ok (.iload_n 3, 1) := by decide +kernel
theorem dX1_findFault_43 : decode cX1_findFault 43 = .ok (.bipush 114, 2) := by decide +kernel
theorem dX1_findFault_45 : decode cX1_findFault 45 = .ok (.if_icmp .ne 7, 3) := by decide +kernel
theorem dX1_findFault_48 : decode cX1_findFault 48 = .ok (.iconst 1, 1) := by decide +kernel
theorem dX1_findFault_49 : decode cX1_findFault 49 = .ok (.goto 4, 3) := by decide +kernel
theorem dX1_findFault_52 : decode cX1_findFault 52 = .ok (.iconst 0, 1) := by decide +kernel
theorem dX1_findFault_53 : decode cX1_findFault 53 = .ok (.istore_n 1, 1) := by decide +kernel
theorem dX1_findFault_54 : decode cX1_findFault 54 = .ok (.iinc 2 1, 3) := by decide +kernel
theorem dX1_findFault_57 : decode cX1_findFault 57 = .ok (.goto (-53), 3) := by decide +kernel
theorem dX1_findFault_60 : decode cX1_findFault 60 = .ok (.iload_n 1, 1) := by decide +kernel
theorem dX1_findFault_61 : decode cX1_findFault 61 = .ok (.ifCond .ne 10, 3) := by decide +kernel
theorem dX1_findFault_64 : decode cX1_findFault 64 = .ok (.aload_n 0, 1) := by decide +kernel
theorem dX1_findFault_65 : decode cX1_findFault 65 = .ok (.getfield 21, 3) := by decide +kernel
theorem dX1_findFault_68 : decode cX1_findFault 68 = .ok (.ifCond .ne 10, 3) := by decide +kernel
theorem dX1_findFault_71 : decode cX1_findFault 71 = .ok (.aload_n 0, 1) := by decide +kernel
theorem dX1_findFault_72 : decode cX1_findFault 72 = .ok (.getfield 21, 3) := by decide +kernel
theorem dX1_findFault_75 : decode cX1_findFault 75 = .ok (.goto 5, 3) := by decide +kernel
theorem dX1_findFault_78 : decode cX1_findFault 78 = .ok (.bipush (-6), 2) := by decide +kernel
theorem dX1_findFault_80 : decode cX1_findFault 80 = .ok (.ireturn, 1) := by decide +kernel
theorem dX1_isAmount_0 : decode cX1_isAmount 0 = .ok (.iload_n 0, 1) := by decide +kernel
theorem dX1_isAmount_1 : decode cX1_isAmount 1 = .ok (.bipush 49, 2) := by decide +kernel
theorem dX1_isAmount_3 : decode cX1_isAmount 3 = .ok (.if_icmp .lt 13, 3) := by decide +kernel
theorem dX1_isAmount_6 : decode cX1_isAmount 6 = .ok (.iload_n 0, 1) := by decide +kernel
theorem dX1_isAmount_7 : decode cX1_isAmount 7 = .ok (.bipush 57, 2) := by decide +kernel
theorem dX1_isAmount_9 : decode cX1_isAmount 9 = .ok (.if_icmp .gt 7, 3) := by decide +kernel
theorem dX1_isAmount_12 : decode cX1_isAmount 12 = .ok (.iconst 1, 1) := by decide +kernel
theorem dX1_isAmount_13 : decode cX1_isAmount 13 = .ok (.goto 4, 3) := by decide +kernel
theorem dX1_isAmount_16 : decode cX1_isAmount 16 = .ok (.iconst 0, 1) := by decide +kernel
theorem dX1_isAmount_17 : decode cX1_isAmount 17 = .ok (.ireturn, 1) := by decide +kernel
theorem dX1_beginsHour_0 : decode cX1_beginsHour 0 = .ok (.iload_n 0, 1) := by decide +kernel
theorem dX1_beginsHour_1 : decode cX1_beginsHour 1 = .ok (.bipush 114, 2) := by decide +kernel
theorem dX1_beginsHour_3 : decode cX1_beginsHour 3 = .ok (.if_icmp .eq 21, 3) := by decide +kernel
theorem dX1_beginsHour_6 : decode cX1_beginsHour 6 = .ok (.iload_n 0, 1) := by decide +kernel
theorem dX1_beginsHour_7 : decode cX1_beginsHour 7 = .ok (.bipush 115, 2) := by decide +kernel
theorem dX1_beginsHour_9 : decode cX1_beginsHour 9 = .ok (.if_icmp .eq 15, 3) := by decide +kernel
theorem dX1_beginsHour_12 : decode cX1_beginsHour 12 = .ok (.iload_n 0, 1) := by decide +kernel
theorem dX1_beginsHour_13 : decode cX1_beginsHour 13 = .ok (.bipush 102, 2) := by decide +kernel
theorem dX1_beginsHour_15 : decode cX1_beginsHour 15 = .ok (.if_icmp .eq 9, 3) := by decide +kernel
theorem dX1_beginsHour_18 : decode cX1_beginsHour 18 = .ok (.iload_n 0, 1) := by decide +kernel
theorem dX1_beginsHour_19 : decode cX1_beginsHour 19 = .ok (.bipush 100, 2) := by decide +kernel
theorem dX1_beginsHour_21 : decode cX1_beginsHour 21 = .ok (.if_icmp .ne 7, 3) := by decide +kernel
theorem dX1_beginsHour_24 : decode cX1_beginsHour 24 = .ok (.iconst 1, 1) := by decide +kernel
theorem dX1_beginsHour_25 : decode cX1_beginsHour 25 = .ok (.goto 4, 3) := by decide +kernel
theorem dX1_beginsHour_28 : decode cX1_beginsHour 28 = .ok (.iconst 0, 1) := by decide +kernel
theorem dX1_beginsHour_29 : decode cX1_beginsHour 29 = .ok (.ireturn, 1) := by decide +kernel
set_option maxRecDepth 20000 in
theorem ggX1_weatherAt_X1_isAmount : GoodIn wsX1_weatherAt wsX1_isAmount := goodIn_r _ [5] (by decide +kernel) (by decide +kernel)
set_option maxRecDepth 20000 in
theorem gX1_weatherAt_X1_isAmount : GoodIn wsX1_weatherAt (va_wsS RX1 25 yX1_isAmount wsX1_isAmount) := goodIn_app (goodIn_of _ (by decide +kernel)) ggX1_weatherAt_X1_isAmount
theorem dX1_weatherAt_0 : decode cX1_weatherAt 0 = .ok (.aload_n 0, 1) := by decide +kernel
theorem dX1_weatherAt_1 : decode cX1_weatherAt 1 = .ok (.getfield 11, 3) := by decide +kernel
theorem dX1_weatherAt_4 : decode cX1_weatherAt 4 = .ok (.iload_n 1, 1) := by decide +kernel
theorem dX1_weatherAt_5 : decode cX1_weatherAt 5 = .ok (.caload, 1) := by decide +kernel
theorem dX1_weatherAt_6 : decode cX1_weatherAt 6 = .ok (.istore_n 2, 1) := by decide +kernel
theorem dX1_weatherAt_7 : decode cX1_weatherAt 7 = .ok (.iload_n 2, 1) := by decide +kernel
theorem dX1_weatherAt_8 : decode cX1_weatherAt 8 = .ok (.invokestatic 25, 3) := by decide +kernel
theorem dX1_weatherAt_11 : decode cX1_weatherAt 11 = .ok (.ifCond .eq 8, 3) := by decide +kernel
theorem dX1_weatherAt_14 : decode cX1_weatherAt 14 = .ok (.iload_n 2, 1) := by decide +kernel
theorem dX1_weatherAt_15 : decode cX1_weatherAt 15 = .ok (.bipush 48, 2) := by decide +kernel
theorem dX1_weatherAt_17 : decode cX1_weatherAt 17 = .ok (.isub, 1) := by decide +kernel
theorem dX1_weatherAt_18 : decode cX1_weatherAt 18 = .ok (.ireturn, 1) := by decide +kernel
theorem dX1_weatherAt_19 : decode cX1_weatherAt 19 = .ok (.iload_n 2, 1) := by decide +kernel
theorem dX1_weatherAt_20 : decode cX1_weatherAt 20 = .ok (.bipush 115, 2) := by decide +kernel
theorem dX1_weatherAt_22 : decode cX1_weatherAt 22 = .ok (.if_icmp .ne 5, 3) := by decide +kernel
theorem dX1_weatherAt_25 : decode cX1_weatherAt 25 = .ok (.iconst 0, 1) := by decide +kernel
theorem dX1_weatherAt_26 : decode cX1_weatherAt 26 = .ok (.ireturn, 1) := by decide +kernel
theorem dX1_weatherAt_27 : decode cX1_weatherAt 27 = .ok (.iload_n 2, 1) := by decide +kernel
theorem dX1_weatherAt_28 : decode cX1_weatherAt 28 = .ok (.bipush 102, 2) := by decide +kernel
theorem dX1_weatherAt_30 : decode cX1_weatherAt 30 = .ok (.if_icmp .ne 6, 3) := by decide +kernel
theorem dX1_weatherAt_33 : decode cX1_weatherAt 33 = .ok (.bipush 10, 2) := by decide +kernel
theorem dX1_weatherAt_35 : decode cX1_weatherAt 35 = .ok (.ireturn, 1) := by decide +kernel
theorem dX1_weatherAt_36 : decode cX1_weatherAt 36 = .ok (.iload_n 2, 1) := by decide +kernel
theorem dX1_weatherAt_37 : decode cX1_weatherAt 37 = .ok (.bipush 100, 2) := by decide +kernel
theorem dX1_weatherAt_39 : decode cX1_weatherAt 39 = .ok (.if_icmp .ne 8, 3) := by decide +kernel
theorem dX1_weatherAt_42 : decode cX1_weatherAt 42 = .ok (.bipush 11, 2) := by decide +kernel
theorem dX1_weatherAt_44 : decode cX1_weatherAt 44 = .ok (.goto 4, 3) := by decide +kernel
theorem dX1_weatherAt_47 : decode cX1_weatherAt 47 = .ok (.iconst (-1), 1) := by decide +kernel
theorem dX1_weatherAt_48 : decode cX1_weatherAt 48 = .ok (.ireturn, 1) := by decide +kernel
set_option maxRecDepth 20000 in
theorem ggX1_daysTold_X1_weatherAt : GoodIn wsX1_daysTold wsX1_weatherAt := goodIn_r _ [6, 7, 8, 9, 5, 10, 11, 12] (by decide +kernel) (by decide +kernel)
set_option maxRecDepth 20000 in
theorem gX1_daysTold_X1_weatherAt : GoodIn wsX1_daysTold (wsV RX1 32 RX1 yX1_weatherAt wsX1_weatherAt) := goodIn_app (goodIn_of _ (by decide +kernel)) ggX1_daysTold_X1_weatherAt
theorem dX1_daysTold_0 : decode cX1_daysTold 0 = .ok (.iconst 0, 1) := by decide +kernel
theorem dX1_daysTold_1 : decode cX1_daysTold 1 = .ok (.istore_n 1, 1) := by decide +kernel
theorem dX1_daysTold_2 : decode cX1_daysTold 2 = .ok (.iconst 0, 1) := by decide +kernel
theorem dX1_daysTold_3 : decode cX1_daysTold 3 = .ok (.istore_n 2, 1) := by decide +kernel
theorem dX1_daysTold_4 : decode cX1_daysTold 4 = .ok (.iload_n 2, 1) := by decide +kernel
theorem dX1_daysTold_5 : decode cX1_daysTold 5 = .ok (.aload_n 0, 1) := by decide +kernel
theorem dX1_daysTold_6 : decode cX1_daysTold 6 = .ok (.getfield 21, 3) := by decide +kernel
theorem dX1_daysTold_9 : decode cX1_daysTold 9 = .ok (.if_icmp .ge 22, 3) := by decide +kernel
theorem dX1_daysTold_12 : decode cX1_daysTold 12 = .ok (.aload_n 0, 1) := by decide +kernel
theorem dX1_daysTold_13 : decode cX1_daysTold 13 = .ok (.iload_n 2, 1) := by decide +kernel
theorem dX1_daysTold_14 : decode cX1_daysTold 14 = .ok (.invokevirtual 32, 3) := by decide +kernel
theorem dX1_daysTold_17 : decode cX1_daysTold 17 = .ok (.bipush 11, 2) := by decide +kernel
theorem dX1_daysTold_19 : decode cX1_daysTold 19 = .ok (.if_icmp .ne 6, 3) := by decide +kernel
theorem dX1_daysTold_22 : decode cX1_daysTold 22 = .ok (.iinc 1 1, 3) := by decide +kernel
theorem dX1_daysTold_25 : decode cX1_daysTold 25 = .ok (.iinc 2 1, 3) := by decide +kernel
theorem dX1_daysTold_28 : decode cX1_daysTold 28 = .ok (.goto (-24), 3) := by decide +kernel
theorem dX1_daysTold_31 : decode cX1_daysTold 31 = .ok (.iload_n 1, 1) := by decide +kernel
theorem dX1_daysTold_32 : decode cX1_daysTold 32 = .ok (.ireturn, 1) := by decide +kernel
set_option maxRecDepth 20000 in
theorem ggX2_init_X3_init : GoodIn wsX2_init wsX3_init := goodIn_r _ [12, 13, 2, 3, 14, 15, 16, 17, 18, 19, 20, 21, 22, 23, 26, 27, 28, 29, 30, 31, 32, 33, 34, 35, 36, 37, 38, 39, 40] (by decide +kernel) (by decide +kernel)
set_option maxRecDepth 20000 in
theorem gX2_init_X3_init : GoodIn wsX2_init (wsX3_init) := ggX2_init_X3_init
theorem dX2_init_0 : decode cX2_init 0 = .ok (.aload_n 0, 1) := by decide +kernel
theorem dX2_init_1 : decode cX2_init 1 = .ok (.invokespecial 3, 3) := by decide +kernel
theorem dX2_init_4 : decode cX2_init 4 = .ok (.aload_n 0, 1) := by decide +kernel
theorem dX2_init_5 : decode cX2_init 5 = .ok (.iconst 2, 1) := by decide +kernel
theorem dX2_init_6 : decode cX2_init 6 = .ok (.anewarray 9, 3) := by decide +kernel
theorem dX2_init_9 : decode cX2_init 9 = .ok (.putfield 11, 3) := by decide +kernel
theorem dX2_init_12 : decode cX2_init 12 = .ok (.aload_n 0, 1) := by decide +kernel
theorem dX2_init_13 : decode cX2_init 13 = .ok (.iconst 2, 1) := by decide +kernel
theorem dX2_init_14 : decode cX2_init 14 = .ok (.newarray .boolean, 2) := by decide +kernel
theorem dX2_init_16 : decode cX2_init 16 = .ok (.putfield 17, 3) := by decide +kernel
theorem dX2_init_19 : decode cX2_init 19 = .ok (.iconst 0, 1) := by decide +kernel
theorem dX2_init_20 : decode cX2_init 20 = .ok (.istore_n 1, 1) := by decide +kernel
theorem dX2_init_21 : decode cX2_init 21 = .ok (.iload_n 1, 1) := by decide +kernel
theorem dX2_init_22 : decode cX2_init 22 = .ok (.iconst 2, 1) := by decide +kernel
theorem dX2_init_23 : decode cX2_init 23 = .ok (.if_icmp .ge 22, 3) := by decide +kernel
theorem dX2_init_26 : decode cX2_init 26 = .ok (.aload_n 0, 1) := by decide +kernel
theorem dX2_init_27 : decode cX2_init 27 = .ok (.getfield 11, 3) := by decide +kernel
theorem dX2_init_30 : decode cX2_init 30 = .ok (.iload_n 1, 1) := by decide +kernel
theorem dX2_init_31 : decode cX2_init 31 = .ok (.new 9, 3) := by decide +kernel
theorem dX2_init_34 : decode cX2_init 34 = .ok (.dup, 1) := by decide +kernel
theorem dX2_init_35 : decode cX2_init 35 = .ok (.invokespecial 21, 3) := by decide +kernel
theorem dX2_init_38 : decode cX2_init 38 = .ok (.aastore, 1) := by decide +kernel
theorem dX2_init_39 : decode cX2_init 39 = .ok (.iinc 1 1, 3) := by decide +kernel
theorem dX2_init_42 : decode cX2_init 42 = .ok (.goto (-21), 3) := by decide +kernel
theorem dX2_init_45 : decode cX2_init 45 = .ok (.return_, 1) := by decide +kernel
theorem dX3_init_0 : decode cX3_init 0 = .ok (.aload_n 0, 1) := by decide +kernel
theorem dX3_init_1 : decode cX3_init 1 = .ok (.invokespecial 3, 3) := by decide +kernel
theorem dX3_init_4 : decode cX3_init 4 = .ok (.aload_n 0, 1) := by decide +kernel
theorem dX3_init_5 : decode cX3_init 5 = .ok (.iconst 4, 1) := by decide +kernel
theorem dX3_init_6 : decode cX3_init 6 = .ok (.newarray .int, 2) := by decide +kernel
theorem dX3_init_8 : decode cX3_init 8 = .ok (.putfield 9, 3) := by decide +kernel
theorem dX3_init_11 : decode cX3_init 11 = .ok (.aload_n 0, 1) := by decide +kernel
theorem dX3_init_12 : decode cX3_init 12 = .ok (.bipush 12, 2) := by decide +kernel
theorem dX3_init_14 : decode cX3_init 14 = .ok (.newarray .int, 2) := by decide +kernel
theorem dX3_init_16 : decode cX3_init 16 = .ok (.putfield 15, 3) := by decide +kernel
theorem dX3_init_19 : decode cX3_init 19 = .ok (.aload_n 0, 1) := by decide +kernel
theorem dX3_init_20 : decode cX3_init 20 = .ok (.bipush 12, 2) := by decide +kernel
theorem dX3_init_22 : decode cX3_init 22 = .ok (.newarray .int, 2) := by decide +kernel
theorem dX3_init_24 : decode cX3_init 24 = .ok (.putfield 18, 3) := by decide +kernel
theorem dX3_init_27 : decode cX3_init 27 = .ok (.aload_n 0, 1) := by decide +kernel
theorem dX3_init_28 : decode cX3_init 28 = .ok (.bipush 12, 2) := by decide +kernel
theorem dX3_init_30 : decode cX3_init 30 = .ok (.newarray .int, 2) := by decide +kernel
theorem dX3_init_32 : decode cX3_init 32 = .ok (.putfield 21, 3) := by decide +kernel
theorem dX3_init_35 : decode cX3_init 35 = .ok (.aload_n 0, 1) := by decide +kernel
theorem dX3_init_36 : decode cX3_init 36 = .ok (.bipush 6, 2) := by decide +kernel
theorem dX3_init_38 : decode cX3_init 38 = .ok (.newarray .int, 2) := by decide +kernel
theorem dX3_init_40 : decode cX3_init 40 = .ok (.putfield 24, 3) := by decide +kernel
theorem dX3_init_43 : decode cX3_init 43 = .ok (.aload_n 0, 1) := by decide +kernel
theorem dX3_init_44 : decode cX3_init 44 = .ok (.bipush 6, 2) := by decide +kernel
theorem dX3_init_46 : decode cX3_init 46 = .ok (.newarray .int, 2) := by decide +kernel
theorem dX3_init_48 : decode cX3_init 48 = .ok (.putfield 27, 3) := by decide +kernel
theorem dX3_init_51 : decode cX3_init 51 = .ok (.aload_n 0, 1) := by decide +kernel
theorem dX3_init_52 : decode cX3_init 52 = .ok (.bipush 6, 2) := by decide +kernel
theorem dX3_init_54 : decode cX3_init 54 = .ok (.newarray .int, 2) := by decide +kernel
theorem dX3_init_56 : decode cX3_init 56 = .ok (.putfield 30, 3) := by decide +kernel
theorem dX3_init_59 : decode cX3_init 59 = .ok (.aload_n 0, 1) := by decide +kernel
theorem dX3_init_60 : decode cX3_init 60 = .ok (.bipush 6, 2) := by decide +kernel
theorem dX3_init_62 : decode cX3_init 62 = .ok (.newarray .int, 2) := by decide +kernel
theorem dX3_init_64 : decode cX3_init 64 = .ok (.putfield 33, 3) := by decide +kernel
theorem dX3_init_67 : decode cX3_init 67 = .ok (.aload_n 0, 1) := by decide +kernel
theorem dX3_init_68 : decode cX3_init 68 = .ok (.bipush 72, 2) := by decide +kernel
theorem dX3_init_70 : decode cX3_init 70 = .ok (.newarray .int, 2) := by decide +kernel
theorem dX3_init_72 : decode cX3_init 72 = .ok (.putfield 36, 3) := by decide +kernel
theorem dX3_init_75 : decode cX3_init 75 = .ok (.iconst 0, 1) := by decide +kernel
theorem dX3_init_76 : decode cX3_init 76 = .ok (.istore_n 1, 1) := by decide +kernel
theorem dX3_init_77 : decode cX3_init 77 = .ok (.iload_n 1, 1) := by decide +kernel
theorem dX3_init_78 : decode cX3_init 78 = .ok (.iconst 4, 1) := by decide +kernel
theorem dX3_init_79 : decode cX3_init 79 = .ok (.if_icmp .ge 20, 3) := by decide +kernel
theorem dX3_init_82 : decode cX3_init 82 = .ok (.aload_n 0, 1) := by decide +kernel
theorem dX3_init_83 : decode cX3_init 83 = .ok (.getfield 9, 3) := by decide +kernel
theorem dX3_init_86 : decode cX3_init 86 = .ok (.iload_n 1, 1) := by decide +kernel
theorem dX3_init_87 : decode cX3_init 87 = .ok (.getstatic 39, 3) := by decide +kernel
theorem dX3_init_90 : decode cX3_init 90 = .ok (.iload_n 1, 1) := by decide +kernel
theorem dX3_init_91 : decode cX3_init 91 = .ok (.iaload, 1) := by decide +kernel
theorem dX3_init_92 : decode cX3_init 92 = .ok (.iastore, 1) := by decide +kernel
theorem dX3_init_93 : decode cX3_init 93 = .ok (.iinc 1 1, 3) := by decide +kernel
theorem dX3_init_96 : decode cX3_init 96 = .ok (.goto (-19), 3) := by decide +kernel
theorem dX3_init_99 : decode cX3_init 99 = .ok (.iconst 0, 1) := by decide +kernel
theorem dX3_init_100 : decode cX3_init 100 = .ok (.istore_n 1, 1) := by decide +kernel
theorem dX3_init_101 : decode cX3_init 101 = .ok (.iload_n 1, 1) := by decide +kernel
theorem dX3_init_102 : decode cX3_init 102 = .ok (.bipush 12, 2) := by decide +kernel
theorem dX3_init_104 : decode cX3_init 104 = .ok (.if_icmp .ge 17, 3) := by decide +kernel
theorem dX3_init_107 : decode cX3_init 107 = .ok (.aload_n 0, 1) := by decide +kernel
theorem dX3_init_108 : decode cX3_init 108 = .ok (.getfield 15, 3) := by decide +kernel
theorem dX3_init_111 : decode cX3_init 111 = .ok (.iload_n 1, 1) := by decide +kernel
theorem dX3_init_112 : decode cX3_init 112 = .ok (.bipush 20, 2) := by decide +kernel
theorem dX3_init_114 : decode cX3_init 114 = .ok (.iastore, 1) := by decide +kernel
theorem dX3_init_115 : decode cX3_init 115 = .ok (.iinc 1 1, 3) := by decide +kernel
theorem dX3_init_118 : decode cX3_init 118 = .ok (.goto (-17), 3) := by decide +kernel
theorem dX3_init_121 : decode cX3_init 121 = .ok (.return_, 1) := by decide +kernel
set_option maxRecDepth 20000 in
theorem ggX3_copyFrom_X4_copy : GoodIn wsX3_copyFrom wsX4_copy := goodIn_r _ [18] (by decide +kernel) (by decide +kernel)
set_option maxRecDepth 20000 in
theorem gX3_copyFrom_X4_copy_n42 : GoodIn wsX3_copyFrom (wsX4_copy) := ggX3_copyFrom_X4_copy
theorem dX3_copyFrom_0 : decode cX3_copyFrom 0 = .ok (.aload_n 1, 1) := by decide +kernel
theorem dX3_copyFrom_1 : decode cX3_copyFrom 1 = .ok (.getfield 9, 3) := by decide +kernel
theorem dX3_copyFrom_4 : decode cX3_copyFrom 4 = .ok (.aload_n 0, 1) := by decide +kernel
theorem dX3_copyFrom_5 : decode cX3_copyFrom 5 = .ok (.getfield 9, 3) := by decide +kernel
theorem dX3_copyFrom_8 : decode cX3_copyFrom 8 = .ok (.invokestatic 42, 3) := by decide +kernel
theorem dX3_copyFrom_11 : decode cX3_copyFrom 11 = .ok (.aload_n 1, 1) := by decide +kernel
theorem dX3_copyFrom_12 : decode cX3_copyFrom 12 = .ok (.getfield 15, 3) := by decide +kernel
theorem dX3_copyFrom_15 : decode cX3_copyFrom 15 = .ok (.aload_n 0, 1) := by decide +kernel
theorem dX3_copyFrom_16 : decode cX3_copyFrom 16 = .ok (.getfield 15, 3) := by decide +kernel
theorem dX3_copyFrom_19 : decode cX3_copyFrom 19 = .ok (.invokestatic 42, 3) := by decide +kernel
theorem dX3_copyFrom_22 : decode cX3_copyFrom 22 = .ok (.aload_n 1, 1) := by decide +kernel
theorem dX3_copyFrom_23 : decode cX3_copyFrom 23 = .ok (.getfield 18, 3) := by decide +kernel
theorem dX3_copyFrom_26 : decode cX3_copyFrom 26 = .ok (.aload_n 0, 1) := by decide +kernel
theorem dX3_copyFrom_27 : decode cX3_copyFrom 27 = .ok (.getfield 18, 3) := by decide +kernel
theorem dX3_copyFrom_30 : decode cX3_copyFrom 30 = .ok (.invokestatic 42, 3) := by decide +kernel
theorem dX3_copyFrom_33 : decode cX3_copyFrom 33 = .ok (.aload_n 1, 1) := by decide +kernel
theorem dX3_copyFrom_34 : decode cX3_copyFrom 34 = .ok (.getfield 21, 3) := by decide +kernel
theorem dX3_copyFrom_37 : decode cX3_copyFrom 37 = .ok (.aload_n 0, 1) := by decide +kernel
theorem dX3_copyFrom_38 : decode cX3_copyFrom 38 = .ok (.getfield 21, 3) := by decide +kernel
theorem dX3_copyFrom_41 : decode cX3_copyFrom 41 = .ok (.invokestatic 42, 3) := by decide +kernel
theorem dX3_copyFrom_44 : decode cX3_copyFrom 44 = .ok (.aload_n 1, 1) := by decide +kernel
theorem dX3_copyFrom_45 : decode cX3_copyFrom 45 = .ok (.getfield 24, 3) := by decide +kernel
theorem dX3_copyFrom_48 : decode cX3_copyFrom 48 = .ok (.aload_n 0, 1) := by decide +kernel
theorem dX3_copyFrom_49 : decode cX3_copyFrom 49 = .ok (.getfield 24, 3) := by decide +kernel
theorem dX3_copyFrom_52 : decode cX3_copyFrom 52 = .ok (.invokestatic 42, 3) := by decide +kernel
theorem dX3_copyFrom_55 : decode cX3_copyFrom 55 = .ok (.aload_n 1, 1) := by decide +kernel
theorem dX3_copyFrom_56 : decode cX3_copyFrom 56 = .ok (.getfield 27, 3) := by decide +kernel
theorem dX3_copyFrom_59 : decode cX3_copyFrom 59 = .ok (.aload_n 0, 1) := by decide +kernel
theorem dX3_copyFrom_60 : decode cX3_copyFrom 60 = .ok (.getfield 27, 3) := by decide +kernel
theorem dX3_copyFrom_63 : decode cX3_copyFrom 63 = .ok (.invokestatic 42, 3) := by decide +kernel
theorem dX3_copyFrom_66 : decode cX3_copyFrom 66 = .ok (.aload_n 1, 1) := by decide +kernel
theorem dX3_copyFrom_67 : decode cX3_copyFrom 67 = .ok (.getfield 30, 3) := by decide +kernel
theorem dX3_copyFrom_70 : decode cX3_copyFrom 70 = .ok (.aload_n 0, 1) := by decide +kernel
theorem dX3_copyFrom_71 : decode cX3_copyFrom 71 = .ok (.getfield 30, 3) := by decide +kernel
theorem dX3_copyFrom_74 : decode cX3_copyFrom 74 = .ok (.invokestatic 42, 3) := by decide +kernel
theorem dX3_copyFrom_77 : decode cX3_copyFrom 77 = .ok (.aload_n 1, 1) := by decide +kernel
theorem dX3_copyFrom_78 : decode cX3_copyFrom 78 = .ok (.getfield 33, 3) := by decide +kernel
theorem dX3_copyFrom_81 : decode cX3_copyFrom 81 = .ok (.aload_n 0, 1) := by decide +kernel
theorem dX3_copyFrom_82 : decode cX3_copyFrom 82 = .ok (.getfield 33, 3) := by decide +kernel
theorem dX3_copyFrom_85 : decode cX3_copyFrom 85 = .ok (.invokestatic 42, 3) := by decide +kernel
theorem dX3_copyFrom_88 : decode cX3_copyFrom 88 = .ok (.aload_n 1, 1) := by decide +kernel
theorem dX3_copyFrom_89 : decode cX3_copyFrom 89 = .ok (.getfield 36, 3) := by decide +kernel
theorem dX3_copyFrom_92 : decode cX3_copyFrom 92 = .ok (.aload_n 0, 1) := by decide +kernel
theorem dX3_copyFrom_93 : decode cX3_copyFrom 93 = .ok (.getfield 36, 3) := by decide +kernel
theorem dX3_copyFrom_96 : decode cX3_copyFrom 96 = .ok (.invokestatic 42, 3) := by decide +kernel
theorem dX3_copyFrom_99 : decode cX3_copyFrom 99 = .ok (.aload_n 0, 1) := by decide +kernel
theorem dX3_copyFrom_100 : decode cX3_copyFrom 100 = .ok (.aload_n 1, 1) := by decide +kernel
theorem dX3_copyFrom_101 : decode cX3_copyFrom 101 = .ok (.getfield 46, 3) := by decide +kernel
theorem dX3_copyFrom_104 : decode cX3_copyFrom 104 = .ok (.putfield 46, 3) := by decide +kernel
theorem dX3_copyFrom_107 : decode cX3_copyFrom 107 = .ok (.aload_n 0, 1) := by decide +kernel
theorem dX3_copyFrom_108 : decode cX3_copyFrom 108 = .ok (.aload_n 1, 1) := by decide +kernel
theorem dX3_copyFrom_109 : decode cX3_copyFrom 109 = .ok (.getfield 50, 3) := by decide +kernel
theorem dX3_copyFrom_112 : decode cX3_copyFrom 112 = .ok (.putfield 50, 3) := by decide +kernel
theorem dX3_copyFrom_115 : decode cX3_copyFrom 115 = .ok (.aload_n 0, 1) := by decide +kernel
theorem dX3_copyFrom_116 : decode cX3_copyFrom 116 = .ok (.aload_n 1, 1) := by decide +kernel
theorem dX3_copyFrom_117 : decode cX3_copyFrom 117 = .ok (.getfield 53, 3) := by decide +kernel
theorem dX3_copyFrom_120 : decode cX3_copyFrom 120 = .ok (.putfield 53, 3) := by decide +kernel
theorem dX3_copyFrom_123 : decode cX3_copyFrom 123 = .ok (.aload_n 0, 1) := by decide +kernel
theorem dX3_copyFrom_124 : decode cX3_copyFrom 124 = .ok (.aload_n 1, 1) := by decide +kernel
theorem dX3_copyFrom_125 : decode cX3_copyFrom 125 = .ok (.getfield 56, 3) := by decide +kernel
theorem dX3_copyFrom_128 : decode cX3_copyFrom 128 = .ok (.putfield 56, 3) := by decide +kernel
theorem dX3_copyFrom_131 : decode cX3_copyFrom 131 = .ok (.aload_n 0, 1) := by decide +kernel
theorem dX3_copyFrom_132 : decode cX3_copyFrom 132 = .ok (.aload_n 1, 1) := by decide +kernel
theorem dX3_copyFrom_133 : decode cX3_copyFrom 133 = .ok (.getfield 59, 3) := by decide +kernel
theorem dX3_copyFrom_136 : decode cX3_copyFrom 136 = .ok (.putfield 59, 3) := by decide +kernel
theorem dX3_copyFrom_139 : decode cX3_copyFrom 139 = .ok (.aload_n 0, 1) := by decide +kernel
theorem dX3_copyFrom_140 : decode cX3_copyFrom 140 = .ok (.aload_n 1, 1) := by decide +kernel
theorem dX3_copyFrom_141 : decode cX3_copyFrom 141 = .ok (.getfield 62, 3) := by decide +kernel
theorem dX3_copyFrom_144 : decode cX3_copyFrom 144 = .ok (.putfield 62, 3) := by decide +kernel
theorem dX3_copyFrom_147 : decode cX3_copyFrom 147 = .ok (.return_, 1) := by decide +kernel
theorem dX3_depth_0 : decode cX3_depth 0 = .ok (.aload_n 0, 1) := by decide +kernel
theorem dX3_depth_1 : decode cX3_depth 1 = .ok (.getfield 18, 3) := by decide +kernel
theorem dX3_depth_4 : decode cX3_depth 4 = .ok (.iload_n 1, 1) := by decide +kernel
theorem dX3_depth_5 : decode cX3_depth 5 = .ok (.iaload, 1) := by decide +kernel
theorem dX3_depth_6 : decode cX3_depth 6 = .ok (.iconst 5, 1) := by decide +kernel
theorem dX3_depth_7 : decode cX3_depth 7 = .ok (.idiv, 1) := by decide +kernel
theorem dX3_depth_8 : decode cX3_depth 8 = .ok (.ireturn, 1) := by decide +kernel
set_option maxRecDepth 20000 in
theorem ggX3_isFrozen_X4_isIn : GoodIn wsX3_isFrozen wsX4_isIn := goodIn_r _ [4] (by decide +kernel) (by decide +kernel)
set_option maxRecDepth 20000 in
theorem gX3_isFrozen_X4_isIn_n65 : GoodIn wsX3_isFrozen (wsX4_isIn) := ggX3_isFrozen_X4_isIn
theorem dX3_isFrozen_0 : decode cX3_isFrozen 0 = .ok (.aload_n 0, 1) := by decide +kernel
theorem dX3_isFrozen_1 : decode cX3_isFrozen 1 = .ok (.getfield 46, 3) := by decide +kernel
theorem dX3_isFrozen_4 : decode cX3_isFrozen 4 = .ok (.iload_n 1, 1) := by decide +kernel
theorem dX3_isFrozen_5 : decode cX3_isFrozen 5 = .ok (.invokestatic 65, 3) := by decide +kernel
theorem dX3_isFrozen_8 : decode cX3_isFrozen 8 = .ok (.ireturn, 1) := by decide +kernel
set_option maxRecDepth 20000 in
theorem ggX3_hasDucks_X4_isIn : GoodIn wsX3_hasDucks wsX4_isIn := goodIn_r _ [4] (by decide +kernel) (by decide +kernel)
set_option maxRecDepth 20000 in
theorem gX3_hasDucks_X4_isIn_n65 : GoodIn wsX3_hasDucks (wsX4_isIn) := ggX3_hasDucks_X4_isIn
theorem dX3_hasDucks_0 : decode cX3_hasDucks 0 = .ok (.aload_n 0, 1) := by decide +kernel
theorem dX3_hasDucks_1 : decode cX3_hasDucks 1 = .ok (.getfield 50, 3) := by decide +kernel
theorem dX3_hasDucks_4 : decode cX3_hasDucks 4 = .ok (.iload_n 1, 1) := by decide +kernel
theorem dX3_hasDucks_5 : decode cX3_hasDucks 5 = .ok (.invokestatic 65, 3) := by decide +kernel
theorem dX3_hasDucks_8 : decode cX3_hasDucks 8 = .ok (.ireturn, 1) := by decide +kernel
theorem dX3_thaw_0 : decode cX3_thaw 0 = .ok (.aload_n 0, 1) := by decide +kernel
theorem dX3_thaw_1 : decode cX3_thaw 1 = .ok (.dup, 1) := by decide +kernel
theorem dX3_thaw_2 : decode cX3_thaw 2 = .ok (.getfield 46, 3) := by decide +kernel
theorem dX3_thaw_5 : decode cX3_thaw 5 = .ok (.iconst 1, 1) := by decide +kernel
theorem dX3_thaw_6 : decode cX3_thaw 6 = .ok (.iload_n 1, 1) := by decide +kernel
theorem dX3_thaw_7 : decode cX3_thaw 7 = .ok (.ishl, 1) := by decide +kernel
theorem dX3_thaw_8 : decode cX3_thaw 8 = .ok (.iconst (-1), 1) := by decide +kernel
theorem dX3_thaw_9 : decode cX3_thaw 9 = .ok (.ixor, 1) := by decide +kernel
theorem dX3_thaw_10 : decode cX3_thaw 10 = .ok (.iand, 1) := by decide +kernel
theorem dX3_thaw_11 : decode cX3_thaw 11 = .ok (.putfield 46, 3) := by decide +kernel
theorem dX3_thaw_14 : decode cX3_thaw 14 = .ok (.return_, 1) := by decide +kernel
theorem dX3_drainDownTo_0 : decode cX3_drainDownTo 0 = .ok (.aload_n 0, 1) := by decide +kernel
theorem dX3_drainDownTo_1 : decode cX3_drainDownTo 1 = .ok (.getfield 18, 3) := by decide +kernel
theorem dX3_drainDownTo_4 : decode cX3_drainDownTo 4 = .ok (.iload_n 1, 1) := by decide +kernel
theorem dX3_drainDownTo_5 : decode cX3_drainDownTo 5 = .ok (.iaload, 1) := by decide +kernel
theorem dX3_drainDownTo_6 : decode cX3_drainDownTo 6 = .ok (.iload_n 2, 1) := by decide +kernel
theorem dX3_drainDownTo_7 : decode cX3_drainDownTo 7 = .ok (.isub, 1) := by decide +kernel
theorem dX3_drainDownTo_8 : decode cX3_drainDownTo 8 = .ok (.istore_n 3, 1) := by decide +kernel
theorem dX3_drainDownTo_9 : decode cX3_drainDownTo 9 = .ok (.iload_n 3, 1) := by decide +kernel
theorem dX3_drainDownTo_10 : decode cX3_drainDownTo 10 = .ok (.ifCond .gt 4, 3) := by decide +kernel
theorem dX3_drainDownTo_13 : decode cX3_drainDownTo 13 = .ok (.return_, 1) := by decide +kernel
theorem dX3_drainDownTo_14 : decode cX3_drainDownTo 14 = .ok (.aload_n 0, 1) := by decide +kernel
theorem dX3_drainDownTo_15 : decode cX3_drainDownTo 15 = .ok (.getfield 18, 3) := by decide +kernel
theorem dX3_drainDownTo_18 : decode cX3_drainDownTo 18 = .ok (.iload_n 1, 1) := by decide +kernel
theorem dX3_drainDownTo_19 : decode cX3_drainDownTo 19 = .ok (.iload_n 2, 1) := by decide +kernel
theorem dX3_drainDownTo_20 : decode cX3_drainDownTo 20 = .ok (.iastore, 1) := by decide +kernel
theorem dX3_drainDownTo_21 : decode cX3_drainDownTo 21 = .ok (.aload_n 0, 1) := by decide +kernel
theorem dX3_drainDownTo_22 : decode cX3_drainDownTo 22 = .ok (.dup, 1) := by decide +kernel
theorem dX3_drainDownTo_23 : decode cX3_drainDownTo 23 = .ok (.getfield 62, 3) := by decide +kernel
theorem dX3_drainDownTo_26 : decode cX3_drainDownTo 26 = .ok (.iload_n 3, 1) := by decide +kernel
theorem dX3_drainDownTo_27 : decode cX3_drainDownTo 27 = .ok (.iadd, 1) := by decide +kernel
theorem dX3_drainDownTo_28 : decode cX3_drainDownTo 28 = .ok (.putfield 62, 3) := by decide +kernel
theorem dX3_drainDownTo_31 : decode cX3_drainDownTo 31 = .ok (.return_, 1) := by decide +kernel
set_option maxRecDepth 20000 in
theorem ggX3_letPass_X3_shine : GoodIn wsX3_letPass wsX3_shine := goodIn_r _ [5, 6, 7, 8, 9, 10, 11, 12, 13, 14, 15, 16, 4, 17, 18, 19, 20, 49, 50, 51, 52, 53, 54, 55, 56, 57, 58, 59, 60, 61, 62, 63] (by decide +kernel) (by decide +kernel)
set_option maxRecDepth 20000 in
theorem gX3_letPass_X3_shine : GoodIn wsX3_letPass (wsV RX3 69 RX3 yX3_shine wsX3_shine) := goodIn_app (goodIn_of _ (by decide +kernel)) ggX3_letPass_X3_shine
set_option maxRecDepth 20000 in
theorem ggX3_letPass_X3_freeze : GoodIn wsX3_letPass wsX3_freeze := goodIn_r _ [24, 13, 25, 26, 27, 4, 28, 6, 49, 50, 51, 52, 53, 54, 55, 56, 57, 58, 59, 60, 61, 62, 63] (by decide +kernel) (by decide +kernel)
set_option maxRecDepth 20000 in
theorem gX3_letPass_X3_freeze : GoodIn wsX3_letPass (wsV RX3 72 RX3 yX3_freeze wsX3_freeze) := goodIn_app (goodIn_of _ (by decide +kernel)) ggX3_letPass_X3_freeze
set_option maxRecDepth 20000 in
theorem ggX3_letPass_X3_endDay : GoodIn wsX3_letPass wsX3_endDay := goodIn_r _ [32, 33, 6, 7, 34, 14, 15, 16, 4, 17, 13, 18, 19, 20, 35, 36, 37, 38, 39, 40, 41, 49, 50, 51, 52, 53, 54, 55, 56, 57, 58, 59, 60, 61, 62, 63] (by decide +kernel) (by decide +kernel)
set_option maxRecDepth 20000 in
theorem gX3_letPass_X3_endDay : GoodIn wsX3_letPass (wsV RX3 75 RX3 yX3_endDay wsX3_endDay) := goodIn_app (goodIn_of _ (by decide +kernel)) ggX3_letPass_X3_endDay
set_option maxRecDepth 20000 in
theorem ggX3_letPass_X3_rain : GoodIn wsX3_letPass wsX3_rain := goodIn_r _ [45, 46, 47, 6, 48, 8, 9, 10, 11, 14, 15, 16, 4, 17, 13, 18, 19, 20, 49, 50, 51, 52, 53, 54, 55, 56, 57, 58, 59, 60, 61, 62, 63] (by decide +kernel) (by decide +kernel)
set_option maxRecDepth 20000 in
theorem gX3_letPass_X3_rain : GoodIn wsX3_letPass (wsV RX3 78 RX3 yX3_rain wsX3_rain) := goodIn_app (goodIn_of _ (by decide +kernel)) ggX3_letPass_X3_rain
theorem dX3_letPass_0 : decode cX3_letPass 0 = .ok (.iload_n 1, 1) := by decide +kernel
theorem dX3_letPass_1 : decode cX3_letPass 1 = .ok (.ifCond .ne 10, 3) := by decide +kernel
theorem dX3_letPass_4 : decode cX3_letPass 4 = .ok (.aload_n 0, 1) := by decide +kernel
theorem dX3_letPass_5 : decode cX3_letPass 5 = .ok (.invokevirtual 69, 3) := by decide +kernel
theorem dX3_letPass_8 : decode cX3_letPass 8 = .ok (.goto 44, 3) := by decide +kernel
theorem dX3_letPass_11 : decode cX3_letPass 11 = .ok (.iload_n 1, 1) := by decide +kernel
theorem dX3_letPass_12 : decode cX3_letPass 12 = .ok (.bipush 10, 2) := by decide +kernel
theorem dX3_letPass_14 : decode cX3_letPass 14 = .ok (.if_icmp .ne 10, 3) := by decide +kernel
theorem dX3_letPass_17 : decode cX3_letPass 17 = .ok (.aload_n 0, 1) := by decide +kernel
theorem dX3_letPass_18 : decode cX3_letPass 18 = .ok (.invokevirtual 72, 3) := by decide +kernel
theorem dX3_letPass_21 : decode cX3_letPass 21 = .ok (.goto 31, 3) := by decide +kernel
theorem dX3_letPass_24 : decode cX3_letPass 24 = .ok (.iload_n 1, 1) := by decide +kernel
theorem dX3_letPass_25 : decode cX3_letPass 25 = .ok (.bipush 11, 2) := by decide +kernel
theorem dX3_letPass_27 : decode cX3_letPass 27 = .ok (.if_icmp .ne 10, 3) := by decide +kernel
theorem dX3_letPass_30 : decode cX3_letPass 30 = .ok (.aload_n 0, 1) := by decide +kernel
theorem dX3_letPass_31 : decode cX3_letPass 31 = .ok (.invokevirtual 75, 3) := by decide +kernel
theorem dX3_letPass_34 : decode cX3_letPass 34 = .ok (.goto 18, 3) := by decide +kernel
theorem dX3_letPass_37 : decode cX3_letPass 37 = .ok (.iload_n 1, 1) := by decide +kernel
theorem dX3_letPass_38 : decode cX3_letPass 38 = .ok (.ifCond .le 14, 3) := by decide +kernel
theorem dX3_letPass_41 : decode cX3_letPass 41 = .ok (.iload_n 1, 1) := by decide +kernel
theorem dX3_letPass_42 : decode cX3_letPass 42 = .ok (.bipush 9, 2) := by decide +kernel
theorem dX3_letPass_44 : decode cX3_letPass 44 = .ok (.if_icmp .gt 8, 3) := by decide +kernel
theorem dX3_letPass_47 : decode cX3_letPass 47 = .ok (.aload_n 0, 1) := by decide +kernel
theorem dX3_letPass_48 : decode cX3_letPass 48 = .ok (.iload_n 1, 1) := by decide +kernel
theorem dX3_letPass_49 : decode cX3_letPass 49 = .ok (.invokevirtual 78, 3) := by decide +kernel
theorem dX3_letPass_52 : decode cX3_letPass 52 = .ok (.return_, 1) := by decide +kernel
set_option maxRecDepth 20000 in
theorem ggX3_rain_X3_isFrozen : GoodIn wsX3_rain wsX3_isFrozen := goodIn_r _ [13, 14, 15, 16, 17, 18, 19, 20, 21, 22, 23, 24, 25, 26, 27, 28, 29, 30, 31, 32] (by decide +kernel) (by decide +kernel)
set_option maxRecDepth 20000 in
theorem gX3_rain_X3_isFrozen : GoodIn wsX3_rain (wsV RX3 82 RX3 yX3_isFrozen wsX3_isFrozen) := goodIn_app (goodIn_of _ (by decide +kernel)) ggX3_rain_X3_isFrozen
theorem dX3_rain_0 : decode cX3_rain 0 = .ok (.iconst 0, 1) := by decide +kernel
theorem dX3_rain_1 : decode cX3_rain 1 = .ok (.istore_n 2, 1) := by decide +kernel
theorem dX3_rain_2 : decode cX3_rain 2 = .ok (.iconst 0, 1) := by decide +kernel
theorem dX3_rain_3 : decode cX3_rain 3 = .ok (.istore_n 3, 1) := by decide +kernel
theorem dX3_rain_4 : decode cX3_rain 4 = .ok (.iload_n 3, 1) := by decide +kernel
theorem dX3_rain_5 : decode cX3_rain 5 = .ok (.bipush 12, 2) := by decide +kernel
theorem dX3_rain_7 : decode cX3_rain 7 = .ok (.if_icmp .ge 81, 3) := by decide +kernel
theorem dX3_rain_10 : decode cX3_rain 10 = .ok (.aload_n 0, 1) := by decide +kernel
theorem dX3_rain_11 : decode cX3_rain 11 = .ok (.iload_n 3, 1) := by decide +kernel
theorem dX3_rain_12 : decode cX3_rain 12 = .ok (.invokevirtual 82, 3) := by decide +kernel
theorem dX3_rain_15 : decode cX3_rain 15 = .ok (.ifCond .eq 18, 3) := by decide +kernel
theorem dX3_rain_18 : decode cX3_rain 18 = .ok (.aload_n 0, 1) := by decide +kernel
theorem dX3_rain_19 : decode cX3_rain 19 = .ok (.dup, 1) := by decide +kernel
theorem dX3_rain_20 : decode cX3_rain 20 = .ok (.getfield 62, 3) := by decide +kernel
theorem dX3_rain_23 : decode cX3_rain 23 = .ok (.iload_n 2, 1) := by decide +kernel
theorem dX3_rain_24 : decode cX3_rain 24 = .ok (.iadd, 1) := by decide +kernel
theorem dX3_rain_25 : decode cX3_rain 25 = .ok (.putfield 62, 3) := by decide +kernel
theorem dX3_rain_28 : decode cX3_rain 28 = .ok (.iconst 0, 1) := by decide +kernel
theorem dX3_rain_29 : decode cX3_rain 29 = .ok (.istore_n 2, 1) := by decide +kernel
theorem dX3_rain_30 : decode cX3_rain 30 = .ok (.goto 52, 3) := by decide +kernel
theorem dX3_rain_33 : decode cX3_rain 33 = .ok (.aload_n 0, 1) := by decide +kernel
theorem dX3_rain_34 : decode cX3_rain 34 = .ok (.dup, 1) := by decide +kernel
theorem dX3_rain_35 : decode cX3_rain 35 = .ok (.getfield 56, 3) := by decide +kernel
theorem dX3_rain_38 : decode cX3_rain 38 = .ok (.iload_n 1, 1) := by decide +kernel
theorem dX3_rain_39 : decode cX3_rain 39 = .ok (.iadd, 1) := by decide +kernel
theorem dX3_rain_40 : decode cX3_rain 40 = .ok (.putfield 56, 3) := by decide +kernel
theorem dX3_rain_43 : decode cX3_rain 43 = .ok (.aload_n 0, 1) := by decide +kernel
theorem dX3_rain_44 : decode cX3_rain 44 = .ok (.getfield 18, 3) := by decide +kernel
theorem dX3_rain_47 : decode cX3_rain 47 = .ok (.iload_n 3, 1) := by decide +kernel
theorem dX3_rain_48 : decode cX3_rain 48 = .ok (.iaload, 1) := by decide +kernel
theorem dX3_rain_49 : decode cX3_rain 49 = .ok (.iload_n 1, 1) := by decide +kernel
theorem dX3_rain_50 : decode cX3_rain 50 = .ok (.iadd, 1) := by decide +kernel
theorem dX3_rain_51 : decode cX3_rain 51 = .ok (.iload_n 2, 1) := by decide +kernel
theorem dX3_rain_52 : decode cX3_rain 52 = .ok (.iadd, 1) := by decide +kernel
theorem dX3_rain_53 : decode cX3_rain 53 = .ok (.istore 4, 2) := by decide +kernel
theorem dX3_rain_55 : decode cX3_rain 55 = .ok (.aload_n 0, 1) := by decide +kernel
theorem dX3_rain_56 : decode cX3_rain 56 = .ok (.getfield 18, 3) := by decide +kernel
theorem dX3_rain_59 : decode cX3_rain 59 = .ok (.iload_n 3, 1) := by decide +kernel
theorem dX3_rain_60 : decode cX3_rain 60 = .ok (.iload 4, 2) := by decide +kernel
theorem dX3_rain_62 : decode cX3_rain 62 = .ok (.aload_n 0, 1) := by decide +kernel
theorem dX3_rain_63 : decode cX3_rain 63 = .ok (.getfield 15, 3) := by decide +kernel
theorem dX3_rain_66 : decode cX3_rain 66 = .ok (.iload_n 3, 1) := by decide +kernel
theorem dX3_rain_67 : decode cX3_rain 67 = .ok (.iaload, 1) := by decide +kernel
theorem dX3_rain_68 : decode cX3_rain 68 = .ok (.invokestatic 86, 3) := by decide +kernel
theorem dX3_rain_71 : decode cX3_rain 71 = .ok (.iastore, 1) := by decide +kernel
theorem dX3_rain_72 : decode cX3_rain 72 = .ok (.iload 4, 2) := by decide +kernel
theorem dX3_rain_74 : decode cX3_rain 74 = .ok (.aload_n 0, 1) := by decide +kernel
theorem dX3_rain_75 : decode cX3_rain 75 = .ok (.getfield 18, 3) := by decide +kernel
theorem dX3_rain_78 : decode cX3_rain 78 = .ok (.iload_n 3, 1) := by decide +kernel
theorem dX3_rain_79 : decode cX3_rain 79 = .ok (.iaload, 1) := by decide +kernel
theorem dX3_rain_80 : decode cX3_rain 80 = .ok (.isub, 1) := by decide +kernel
theorem dX3_rain_81 : decode cX3_rain 81 = .ok (.istore_n 2, 1) := by decide +kernel
theorem dX3_rain_82 : decode cX3_rain 82 = .ok (.iinc 3 1, 3) := by decide +kernel
theorem dX3_rain_85 : decode cX3_rain 85 = .ok (.goto (-81), 3) := by decide +kernel
theorem dX3_rain_88 : decode cX3_rain 88 = .ok (.aload_n 0, 1) := by decide +kernel
theorem dX3_rain_89 : decode cX3_rain 89 = .ok (.dup, 1) := by decide +kernel
theorem dX3_rain_90 : decode cX3_rain 90 = .ok (.getfield 62, 3) := by decide +kernel
theorem dX3_rain_93 : decode cX3_rain 93 = .ok (.iload_n 2, 1) := by decide +kernel
theorem dX3_rain_94 : decode cX3_rain 94 = .ok (.iadd, 1) := by decide +kernel
theorem dX3_rain_95 : decode cX3_rain 95 = .ok (.putfield 62, 3) := by decide +kernel
theorem dX3_rain_98 : decode cX3_rain 98 = .ok (.return_, 1) := by decide +kernel
set_option maxRecDepth 20000 in
theorem ggX3_shine_X3_isFrozen : GoodIn wsX3_shine wsX3_isFrozen := goodIn_r _ [13, 8, 14, 15, 16, 17, 18, 19, 20, 21, 22, 23, 24, 25, 26, 27, 28, 29, 30, 31] (by decide +kernel) (by decide +kernel)
set_option maxRecDepth 20000 in
theorem gX3_shine_X3_isFrozen : GoodIn wsX3_shine (wsV RX3 82 RX3 yX3_isFrozen wsX3_isFrozen) := goodIn_app (goodIn_of _ (by decide +kernel)) ggX3_shine_X3_isFrozen
theorem dX3_shine_0 : decode cX3_shine 0 = .ok (.iconst 0, 1) := by decide +kernel
theorem dX3_shine_1 : decode cX3_shine 1 = .ok (.istore_n 1, 1) := by decide +kernel
theorem dX3_shine_2 : decode cX3_shine 2 = .ok (.iload_n 1, 1) := by decide +kernel
theorem dX3_shine_3 : decode cX3_shine 3 = .ok (.bipush 12, 2) := by decide +kernel
theorem dX3_shine_5 : decode cX3_shine 5 = .ok (.if_icmp .ge 56, 3) := by decide +kernel
theorem dX3_shine_8 : decode cX3_shine 8 = .ok (.aload_n 0, 1) := by decide +kernel
theorem dX3_shine_9 : decode cX3_shine 9 = .ok (.iload_n 1, 1) := by decide +kernel
theorem dX3_shine_10 : decode cX3_shine 10 = .ok (.invokevirtual 82, 3) := by decide +kernel
theorem dX3_shine_13 : decode cX3_shine 13 = .ok (.ifCond .eq 6, 3) := by decide +kernel
theorem dX3_shine_16 : decode cX3_shine 16 = .ok (.goto 39, 3) := by decide +kernel
theorem dX3_shine_19 : decode cX3_shine 19 = .ok (.aload_n 0, 1) := by decide +kernel
theorem dX3_shine_20 : decode cX3_shine 20 = .ok (.getfield 18, 3) := by decide +kernel
theorem dX3_shine_23 : decode cX3_shine 23 = .ok (.iload_n 1, 1) := by decide +kernel
theorem dX3_shine_24 : decode cX3_shine 24 = .ok (.iaload, 1) := by decide +kernel
theorem dX3_shine_25 : decode cX3_shine 25 = .ok (.aload_n 0, 1) := by decide +kernel
theorem dX3_shine_26 : decode cX3_shine 26 = .ok (.getfield 9, 3) := by decide +kernel
theorem dX3_shine_29 : decode cX3_shine 29 = .ok (.iconst 1, 1) := by decide +kernel
theorem dX3_shine_30 : decode cX3_shine 30 = .ok (.iaload, 1) := by decide +kernel
theorem dX3_shine_31 : decode cX3_shine 31 = .ok (.invokestatic 86, 3) := by decide +kernel
theorem dX3_shine_34 : decode cX3_shine 34 = .ok (.istore_n 2, 1) := by decide +kernel
theorem dX3_shine_35 : decode cX3_shine 35 = .ok (.aload_n 0, 1) := by decide +kernel
theorem dX3_shine_36 : decode cX3_shine 36 = .ok (.getfield 18, 3) := by decide +kernel
theorem dX3_shine_39 : decode cX3_shine 39 = .ok (.iload_n 1, 1) := by decide +kernel
theorem dX3_shine_40 : decode cX3_shine 40 = .ok (.dup2, 1) := by decide +kernel
theorem dX3_shine_41 : decode cX3_shine 41 = .ok (.iaload, 1) := by decide +kernel
theorem dX3_shine_42 : decode cX3_shine 42 = .ok (.iload_n 2, 1) := by decide +kernel
theorem dX3_shine_43 : decode cX3_shine 43 = .ok (.isub, 1) := by decide +kernel
theorem dX3_shine_44 : decode cX3_shine 44 = .ok (.iastore, 1) := by decide +kernel
theorem dX3_shine_45 : decode cX3_shine 45 = .ok (.aload_n 0, 1) := by decide +kernel
theorem dX3_shine_46 : decode cX3_shine 46 = .ok (.dup, 1) := by decide +kernel
theorem dX3_shine_47 : decode cX3_shine 47 = .ok (.getfield 59, 3) := by decide +kernel
theorem dX3_shine_50 : decode cX3_shine 50 = .ok (.iload_n 2, 1) := by decide +kernel
theorem dX3_shine_51 : decode cX3_shine 51 = .ok (.iadd, 1) := by decide +kernel
theorem dX3_shine_52 : decode cX3_shine 52 = .ok (.putfield 59, 3) := by decide +kernel
theorem dX3_shine_55 : decode cX3_shine 55 = .ok (.iinc 1 1, 3) := by decide +kernel
theorem dX3_shine_58 : decode cX3_shine 58 = .ok (.goto (-56), 3) := by decide +kernel
theorem dX3_shine_61 : decode cX3_shine 61 = .ok (.aload_n 0, 1) := by decide +kernel
theorem dX3_shine_62 : decode cX3_shine 62 = .ok (.iconst 0, 1) := by decide +kernel
theorem dX3_shine_63 : decode cX3_shine 63 = .ok (.putfield 46, 3) := by decide +kernel
theorem dX3_shine_66 : decode cX3_shine 66 = .ok (.return_, 1) := by decide +kernel
set_option maxRecDepth 20000 in
theorem ggX3_freeze_X3_depth : GoodIn wsX3_freeze wsX3_depth := goodIn_r _ [6, 7, 8, 9, 10, 11, 12, 13, 14, 15, 16, 17, 18, 19, 20, 21, 22] (by decide +kernel) (by decide +kernel)
set_option maxRecDepth 20000 in
theorem gX3_freeze_X3_depth : GoodIn wsX3_freeze (wsV RX3 92 RX3 yX3_depth wsX3_depth) := goodIn_app (goodIn_of _ (by decide +kernel)) ggX3_freeze_X3_depth
theorem dX3_freeze_0 : decode cX3_freeze 0 = .ok (.iconst 0, 1) := by decide +kernel
theorem dX3_freeze_1 : decode cX3_freeze 1 = .ok (.istore_n 1, 1) := by decide +kernel
theorem dX3_freeze_2 : decode cX3_freeze 2 = .ok (.iload_n 1, 1) := by decide +kernel
theorem dX3_freeze_3 : decode cX3_freeze 3 = .ok (.bipush 12, 2) := by decide +kernel
theorem dX3_freeze_5 : decode cX3_freeze 5 = .ok (.if_icmp .ge 30, 3) := by decide +kernel
theorem dX3_freeze_8 : decode cX3_freeze 8 = .ok (.aload_n 0, 1) := by decide +kernel
theorem dX3_freeze_9 : decode cX3_freeze 9 = .ok (.iload_n 1, 1) := by decide +kernel
theorem dX3_freeze_10 : decode cX3_freeze 10 = .ok (.invokevirtual 92, 3) := by decide +kernel
theorem dX3_freeze_13 : decode cX3_freeze 13 = .ok (.iconst 4, 1) := by decide +kernel
theorem dX3_freeze_14 : decode cX3_freeze 14 = .ok (.if_icmp .ge 15, 3) := by decide +kernel
theorem dX3_freeze_17 : decode cX3_freeze 17 = .ok (.aload_n 0, 1) := by decide +kernel
theorem dX3_freeze_18 : decode cX3_freeze 18 = .ok (.dup, 1) := by decide +kernel
theorem dX3_freeze_19 : decode cX3_freeze 19 = .ok (.getfield 46, 3) := by decide +kernel
theorem dX3_freeze_22 : decode cX3_freeze 22 = .ok (.iconst 1, 1) := by decide +kernel
theorem dX3_freeze_23 : decode cX3_freeze 23 = .ok (.iload_n 1, 1) := by decide +kernel
theorem dX3_freeze_24 : decode cX3_freeze 24 = .ok (.ishl, 1) := by decide +kernel
theorem dX3_freeze_25 : decode cX3_freeze 25 = .ok (.ior, 1) := by decide +kernel
theorem dX3_freeze_26 : decode cX3_freeze 26 = .ok (.putfield 46, 3) := by decide +kernel
theorem dX3_freeze_29 : decode cX3_freeze 29 = .ok (.iinc 1 1, 3) := by decide +kernel
theorem dX3_freeze_32 : decode cX3_freeze 32 = .ok (.goto (-30), 3) := by decide +kernel
theorem dX3_freeze_35 : decode cX3_freeze 35 = .ok (.return_, 1) := by decide +kernel
set_option maxRecDepth 20000 in
theorem ggX3_endDay_X3_isFrozen : GoodIn wsX3_endDay wsX3_isFrozen := goodIn_r _ [9, 10, 11, 12, 13, 21, 22, 23, 24, 25, 26, 27, 28, 29, 30, 31, 32, 33, 34, 35] (by decide +kernel) (by decide +kernel)
set_option maxRecDepth 20000 in
theorem gX3_endDay_X3_isFrozen : GoodIn wsX3_endDay (wsV RX3 82 RX3 yX3_isFrozen wsX3_isFrozen) := goodIn_app (goodIn_of _ (by decide +kernel)) ggX3_endDay_X3_isFrozen
set_option maxRecDepth 20000 in
theorem ggX3_endDay_X3_agePermitsAt : GoodIn wsX3_endDay wsX3_agePermitsAt := goodIn_r _ [17, 18, 19, 12, 20, 21, 22, 23, 24, 25, 26, 27, 28, 29, 30, 31, 32, 33, 34, 35] (by decide +kernel) (by decide +kernel)
set_option maxRecDepth 20000 in
theorem gX3_endDay_X3_agePermitsAt : GoodIn wsX3_endDay (wsV RX3 96 RX3 yX3_agePermitsAt wsX3_agePermitsAt) := goodIn_app (goodIn_of _ (by decide +kernel)) ggX3_endDay_X3_agePermitsAt
theorem dX3_endDay_0 : decode cX3_endDay 0 = .ok (.aload_n 0, 1) := by decide +kernel
theorem dX3_endDay_1 : decode cX3_endDay 1 = .ok (.iconst 0, 1) := by decide +kernel
theorem dX3_endDay_2 : decode cX3_endDay 2 = .ok (.putfield 50, 3) := by decide +kernel
theorem dX3_endDay_5 : decode cX3_endDay 5 = .ok (.iconst 0, 1) := by decide +kernel
theorem dX3_endDay_6 : decode cX3_endDay 6 = .ok (.istore_n 1, 1) := by decide +kernel
theorem dX3_endDay_7 : decode cX3_endDay 7 = .ok (.iload_n 1, 1) := by decide +kernel
theorem dX3_endDay_8 : decode cX3_endDay 8 = .ok (.bipush 12, 2) := by decide +kernel
theorem dX3_endDay_10 : decode cX3_endDay 10 = .ok (.if_icmp .ge 52, 3) := by decide +kernel
theorem dX3_endDay_13 : decode cX3_endDay 13 = .ok (.aload_n 0, 1) := by decide +kernel
theorem dX3_endDay_14 : decode cX3_endDay 14 = .ok (.iload_n 1, 1) := by decide +kernel
theorem dX3_endDay_15 : decode cX3_endDay 15 = .ok (.invokevirtual 82, 3) := by decide +kernel
theorem dX3_endDay_18 : decode cX3_endDay 18 = .ok (.ifCond .eq 6, 3) := by decide +kernel
theorem dX3_endDay_21 : decode cX3_endDay 21 = .ok (.goto 35, 3) := by decide +kernel
theorem dX3_endDay_24 : decode cX3_endDay 24 = .ok (.aload_n 0, 1) := by decide +kernel
theorem dX3_endDay_25 : decode cX3_endDay 25 = .ok (.getfield 18, 3) := by decide +kernel
theorem dX3_endDay_28 : decode cX3_endDay 28 = .ok (.iload_n 1, 1) := by decide +kernel
theorem dX3_endDay_29 : decode cX3_endDay 29 = .ok (.iaload, 1) := by decide +kernel
theorem dX3_endDay_30 : decode cX3_endDay 30 = .ok (.aload_n 0, 1) := by decide +kernel
theorem dX3_endDay_31 : decode cX3_endDay 31 = .ok (.getfield 9, 3) := by decide +kernel
theorem dX3_endDay_34 : decode cX3_endDay 34 = .ok (.iconst 2, 1) := by decide +kernel
theorem dX3_endDay_35 : decode cX3_endDay 35 = .ok (.iaload, 1) := by decide +kernel
theorem dX3_endDay_36 : decode cX3_endDay 36 = .ok (.if_icmp .lt 15, 3) := by decide +kernel
theorem dX3_endDay_39 : decode cX3_endDay 39 = .ok (.aload_n 0, 1) := by decide +kernel
theorem dX3_endDay_40 : decode cX3_endDay 40 = .ok (.dup, 1) := by decide +kernel
theorem dX3_endDay_41 : decode cX3_endDay 41 = .ok (.getfield 50, 3) := by decide +kernel
theorem dX3_endDay_44 : decode cX3_endDay 44 = .ok (.iconst 1, 1) := by decide +kernel
theorem dX3_endDay_45 : decode cX3_endDay 45 = .ok (.iload_n 1, 1) := by decide +kernel
theorem dX3_endDay_46 : decode cX3_endDay 46 = .ok (.ishl, 1) := by decide +kernel
theorem dX3_endDay_47 : decode cX3_endDay 47 = .ok (.ior, 1) := by decide +kernel
theorem dX3_endDay_48 : decode cX3_endDay 48 = .ok (.putfield 50, 3) := by decide +kernel
theorem dX3_endDay_51 : decode cX3_endDay 51 = .ok (.aload_n 0, 1) := by decide +kernel
theorem dX3_endDay_52 : decode cX3_endDay 52 = .ok (.iload_n 1, 1) := by decide +kernel
theorem dX3_endDay_53 : decode cX3_endDay 53 = .ok (.invokevirtual 96, 3) := by decide +kernel
theorem dX3_endDay_56 : decode cX3_endDay 56 = .ok (.iinc 1 1, 3) := by decide +kernel
theorem dX3_endDay_59 : decode cX3_endDay 59 = .ok (.goto (-52), 3) := by decide +kernel
theorem dX3_endDay_62 : decode cX3_endDay 62 = .ok (.aload_n 0, 1) := by decide +kernel
theorem dX3_endDay_63 : decode cX3_endDay 63 = .ok (.dup, 1) := by decide +kernel
theorem dX3_endDay_64 : decode cX3_endDay 64 = .ok (.getfield 53, 3) := by decide +kernel
theorem dX3_endDay_67 : decode cX3_endDay 67 = .ok (.iconst 1, 1) := by decide +kernel
theorem dX3_endDay_68 : decode cX3_endDay 68 = .ok (.iadd, 1) := by decide +kernel
theorem dX3_endDay_69 : decode cX3_endDay 69 = .ok (.putfield 53, 3) := by decide +kernel
theorem dX3_endDay_72 : decode cX3_endDay 72 = .ok (.return_, 1) := by decide +kernel
set_option maxRecDepth 20000 in
theorem ggX3_agePermitsAt_X4_placeOf : GoodIn wsX3_agePermitsAt wsX4_placeOf := goodIn_r _ [4] (by decide +kernel) (by decide +kernel)
set_option maxRecDepth 20000 in
theorem gX3_agePermitsAt_X4_placeOf_n99 : GoodIn wsX3_agePermitsAt (wsX4_placeOf) := ggX3_agePermitsAt_X4_placeOf
theorem dX3_agePermitsAt_0 : decode cX3_agePermitsAt 0 = .ok (.iconst 0, 1) := by decide +kernel
theorem dX3_agePermitsAt_1 : decode cX3_agePermitsAt 1 = .ok (.istore_n 2, 1) := by decide +kernel
theorem dX3_agePermitsAt_2 : decode cX3_agePermitsAt 2 = .ok (.iload_n 2, 1) := by decide +kernel
theorem dX3_agePermitsAt_3 : decode cX3_agePermitsAt 3 = .ok (.bipush 6, 2) := by decide +kernel
theorem dX3_agePermitsAt_5 : decode cX3_agePermitsAt 5 = .ok (.if_icmp .ge 34, 3) := by decide +kernel
theorem dX3_agePermitsAt_8 : decode cX3_agePermitsAt 8 = .ok (.iload_n 2, 1) := by decide +kernel
theorem dX3_agePermitsAt_9 : decode cX3_agePermitsAt 9 = .ok (.iload_n 1, 1) := by decide +kernel
theorem dX3_agePermitsAt_10 : decode cX3_agePermitsAt 10 = .ok (.invokestatic 99, 3) := by decide +kernel
theorem dX3_agePermitsAt_13 : decode cX3_agePermitsAt 13 = .ok (.istore_n 3, 1) := by decide +kernel
theorem dX3_agePermitsAt_14 : decode cX3_agePermitsAt 14 = .ok (.aload_n 0, 1) := by decide +kernel
theorem dX3_agePermitsAt_15 : decode cX3_agePermitsAt 15 = .ok (.getfield 36, 3) := by decide +kernel
theorem dX3_agePermitsAt_18 : decode cX3_agePermitsAt 18 = .ok (.iload_n 3, 1) := by decide +kernel
theorem dX3_agePermitsAt_19 : decode cX3_agePermitsAt 19 = .ok (.iaload, 1) := by decide +kernel
theorem dX3_agePermitsAt_20 : decode cX3_agePermitsAt 20 = .ok (.ifCond .le 13, 3) := by decide +kernel
theorem dX3_agePermitsAt_23 : decode cX3_agePermitsAt 23 = .ok (.aload_n 0, 1) := by decide +kernel
theorem dX3_agePermitsAt_24 : decode cX3_agePermitsAt 24 = .ok (.getfield 36, 3) := by decide +kernel
theorem dX3_agePermitsAt_27 : decode cX3_agePermitsAt 27 = .ok (.iload_n 3, 1) := by decide +kernel
theorem dX3_agePermitsAt_28 : decode cX3_agePermitsAt 28 = .ok (.dup2, 1) := by decide +kernel
theorem dX3_agePermitsAt_29 : decode cX3_agePermitsAt 29 = .ok (.iaload, 1) := by decide +kernel
theorem dX3_agePermitsAt_30 : decode cX3_agePermitsAt 30 = .ok (.iconst 1, 1) := by decide +kernel
theorem dX3_agePermitsAt_31 : decode cX3_agePermitsAt 31 = .ok (.isub, 1) := by decide +kernel
theorem dX3_agePermitsAt_32 : decode cX3_agePermitsAt 32 = .ok (.iastore, 1) := by decide +kernel
theorem dX3_agePermitsAt_33 : decode cX3_agePermitsAt 33 = .ok (.iinc 2 1, 3) := by decide +kernel
theorem dX3_agePermitsAt_36 : decode cX3_agePermitsAt 36 = .ok (.goto (-34), 3) := by decide +kernel
theorem dX3_agePermitsAt_39 : decode cX3_agePermitsAt 39 = .ok (.return_, 1) := by decide +kernel
set_option maxRecDepth 20000 in
theorem ggX3_hasPermit_X4_placeOf : GoodIn wsX3_hasPermit wsX4_placeOf := goodIn_r _ [4] (by decide +kernel) (by decide +kernel)
set_option maxRecDepth 20000 in
theorem gX3_hasPermit_X4_placeOf_n99 : GoodIn wsX3_hasPermit (wsX4_placeOf) := ggX3_hasPermit_X4_placeOf
theorem dX3_hasPermit_0 : decode cX3_hasPermit 0 = .ok (.aload_n 0, 1) := by decide +kernel
theorem dX3_hasPermit_1 : decode cX3_hasPermit 1 = .ok (.getfield 36, 3) := by decide +kernel
theorem dX3_hasPermit_4 : decode cX3_hasPermit 4 = .ok (.iload_n 1, 1) := by decide +kernel
theorem dX3_hasPermit_5 : decode cX3_hasPermit 5 = .ok (.iload_n 2, 1) := by decide +kernel
theorem dX3_hasPermit_6 : decode cX3_hasPermit 6 = .ok (.invokestatic 99, 3) := by decide +kernel
theorem dX3_hasPermit_9 : decode cX3_hasPermit 9 = .ok (.iaload, 1) := by decide +kernel
theorem dX3_hasPermit_10 : decode cX3_hasPermit 10 = .ok (.ifCond .le 7, 3) := by decide +kernel
theorem dX3_hasPermit_13 : decode cX3_hasPermit 13 = .ok (.iconst 1, 1) := by decide +kernel
theorem dX3_hasPermit_14 : decode cX3_hasPermit 14 = .ok (.goto 4, 3) := by decide +kernel
theorem dX3_hasPermit_17 : decode cX3_hasPermit 17 = .ok (.iconst 0, 1) := by decide +kernel
theorem dX3_hasPermit_18 : decode cX3_hasPermit 18 = .ok (.ireturn, 1) := by decide +kernel
set_option maxRecDepth 20000 in
theorem ggX3_permitsOf_X3_hasPermit : GoodIn wsX3_permitsOf wsX3_hasPermit := goodIn_r _ [5, 6, 7, 8, 9, 10, 11, 12, 13, 14, 15, 16, 17, 18, 19, 20, 21, 22, 23, 24] (by decide +kernel) (by decide +kernel)
set_option maxRecDepth 20000 in
theorem gX3_permitsOf_X3_hasPermit : GoodIn wsX3_permitsOf (wsV RX3 102 RX3 yX3_hasPermit wsX3_hasPermit) := goodIn_app (goodIn_of _ (by decide +kernel)) ggX3_permitsOf_X3_hasPermit
theorem dX3_permitsOf_0 : decode cX3_permitsOf 0 = .ok (.iconst 0, 1) := by decide +kernel
theorem dX3_permitsOf_1 : decode cX3_permitsOf 1 = .ok (.istore_n 2, 1) := by decide +kernel
theorem dX3_permitsOf_2 : decode cX3_permitsOf 2 = .ok (.iconst 0, 1) := by decide +kernel
theorem dX3_permitsOf_3 : decode cX3_permitsOf 3 = .ok (.istore_n 3, 1) := by decide +kernel
theorem dX3_permitsOf_4 : decode cX3_permitsOf 4 = .ok (.iload_n 3, 1) := by decide +kernel
theorem dX3_permitsOf_5 : decode cX3_permitsOf 5 = .ok (.bipush 12, 2) := by decide +kernel
theorem dX3_permitsOf_7 : decode cX3_permitsOf 7 = .ok (.if_icmp .ge 24, 3) := by decide +kernel
theorem dX3_permitsOf_10 : decode cX3_permitsOf 10 = .ok (.aload_n 0, 1) := by decide +kernel
theorem dX3_permitsOf_11 : decode cX3_permitsOf 11 = .ok (.iload_n 1, 1) := by decide +kernel
theorem dX3_permitsOf_12 : decode cX3_permitsOf 12 = .ok (.iload_n 3, 1) := by decide +kernel
theorem dX3_permitsOf_13 : decode cX3_permitsOf 13 = .ok (.invokevirtual 102, 3) := by decide +kernel
theorem dX3_permitsOf_16 : decode cX3_permitsOf 16 = .ok (.ifCond .eq 9, 3) := by decide +kernel
theorem dX3_permitsOf_19 : decode cX3_permitsOf 19 = .ok (.iload_n 2, 1) := by decide +kernel
theorem dX3_permitsOf_20 : decode cX3_permitsOf 20 = .ok (.iconst 1, 1) := by decide +kernel
theorem dX3_permitsOf_21 : decode cX3_permitsOf 21 = .ok (.iload_n 3, 1) := by decide +kernel
theorem dX3_permitsOf_22 : decode cX3_permitsOf 22 = .ok (.ishl, 1) := by decide +kernel
theorem dX3_permitsOf_23 : decode cX3_permitsOf 23 = .ok (.ior, 1) := by decide +kernel
theorem dX3_permitsOf_24 : decode cX3_permitsOf 24 = .ok (.istore_n 2, 1) := by decide +kernel
theorem dX3_permitsOf_25 : decode cX3_permitsOf 25 = .ok (.iinc 3 1, 3) := by decide +kernel
theorem dX3_permitsOf_28 : decode cX3_permitsOf 28 = .ok (.goto (-24), 3) := by decide +kernel
theorem dX3_permitsOf_31 : decode cX3_permitsOf 31 = .ok (.iload_n 2, 1) := by decide +kernel
theorem dX3_permitsOf_32 : decode cX3_permitsOf 32 = .ok (.ireturn, 1) := by decide +kernel
set_option maxRecDepth 20000 in
theorem ggX3_permitHoldersAt_X3_hasPermit : GoodIn wsX3_permitHoldersAt wsX3_hasPermit := goodIn_r _ [5, 6, 7, 8, 9, 10, 11, 12, 13, 14, 15, 16, 17, 18, 19, 20, 21, 22, 23, 24] (by decide +kernel) (by decide +kernel)
set_option maxRecDepth 20000 in
theorem gX3_permitHoldersAt_X3_hasPermit : GoodIn wsX3_permitHoldersAt (wsV RX3 102 RX3 yX3_hasPermit wsX3_hasPermit) := goodIn_app (goodIn_of _ (by decide +kernel)) ggX3_permitHoldersAt_X3_hasPermit
theorem dX3_permitHoldersAt_0 : decode cX3_permitHoldersAt 0 = .ok (.iconst 0, 1) := by decide +kernel
theorem dX3_permitHoldersAt_1 : decode cX3_permitHoldersAt 1 = .ok (.istore_n 2, 1) := by decide +kernel
theorem dX3_permitHoldersAt_2 : decode cX3_permitHoldersAt 2 = .ok (.iconst 0, 1) := by decide +kernel
theorem dX3_permitHoldersAt_3 : decode cX3_permitHoldersAt 3 = .ok (.istore_n 3, 1) := by decide +kernel
theorem dX3_permitHoldersAt_4 : decode cX3_permitHoldersAt 4 = .ok (.iload_n 3, 1) := by decide +kernel
theorem dX3_permitHoldersAt_5 : decode cX3_permitHoldersAt 5 = .ok (.bipush 6, 2) := by decide +kernel
theorem dX3_permitHoldersAt_7 : decode cX3_permitHoldersAt 7 = .ok (.if_icmp .ge 24, 3) := by decide +kernel
theorem dX3_permitHoldersAt_10 : decode cX3_permitHoldersAt 10 = .ok (.aload_n 0, 1) := by decide +kernel
theorem dX3_permitHoldersAt_11 : decode cX3_permitHoldersAt 11 = .ok (.iload_n 3, 1) := by decide +kernel
theorem dX3_permitHoldersAt_12 : decode cX3_permitHoldersAt 12 = .ok (.iload_n 1, 1) := by decide +kernel
theorem dX3_permitHoldersAt_13 : decode cX3_permitHoldersAt 13 = .ok (.invokevirtual 102, 3) := by decide +kernel
theorem dX3_permitHoldersAt_16 : decode cX3_permitHoldersAt 16 = .ok (.ifCond .eq 9, 3) := by decide +kernel
theorem dX3_permitHoldersAt_19 : decode cX3_permitHoldersAt 19 = .ok (.iload_n 2, 1) := by decide +kernel
theorem dX3_permitHoldersAt_20 : decode cX3_permitHoldersAt 20 = .ok (.iconst 1, 1) := by decide +kernel
theorem dX3_permitHoldersAt_21 : decode cX3_permitHoldersAt 21 = .ok (.iload_n 3, 1) := by decide +kernel
theorem dX3_permitHoldersAt_22 : decode cX3_permitHoldersAt 22 = .ok (.ishl, 1) := by decide +kernel
theorem dX3_permitHoldersAt_23 : decode cX3_permitHoldersAt 23 = .ok (.ior, 1) := by decide +kernel
theorem dX3_permitHoldersAt_24 : decode cX3_permitHoldersAt 24 = .ok (.istore_n 2, 1) := by decide +kernel
theorem dX3_permitHoldersAt_25 : decode cX3_permitHoldersAt 25 = .ok (.iinc 3 1, 3) := by decide +kernel
theorem dX3_permitHoldersAt_28 : decode cX3_permitHoldersAt 28 = .ok (.goto (-24), 3) := by decide +kernel
theorem dX3_permitHoldersAt_31 : decode cX3_permitHoldersAt 31 = .ok (.iload_n 2, 1) := by decide +kernel
theorem dX3_permitHoldersAt_32 : decode cX3_permitHoldersAt 32 = .ok (.ireturn, 1) := by decide +kernel
set_option maxRecDepth 20000 in
theorem ggX3_allPermits_X3_permitsOf : GoodIn wsX3_allPermits wsX3_permitsOf := goodIn_r _ [5, 6, 7, 8, 4, 9, 10, 11, 12, 13, 21, 22, 23, 24, 25, 26, 27, 28, 29, 30, 31, 32, 33, 34, 35] (by decide +kernel) (by decide +kernel)
set_option maxRecDepth 20000 in
theorem gX3_allPermits_X3_permitsOf : GoodIn wsX3_allPermits (wsV RX3 105 RX3 yX3_permitsOf wsX3_permitsOf) := goodIn_app (goodIn_of _ (by decide +kernel)) ggX3_allPermits_X3_permitsOf
set_option maxRecDepth 20000 in
theorem ggX3_allPermits_J6_bitCount_0f7a4 : GoodIn wsX3_allPermits wsJ6_bitCount_0f7a4 := goodIn_r _ [17, 18, 19, 20] (by decide +kernel) (by decide +kernel)
set_option maxRecDepth 20000 in
theorem gX3_allPermits_J6_bitCount_0f7a4 : GoodIn wsX3_allPermits (va_wsS RX3 108 yJ6_bitCount_0f7a4 wsJ6_bitCount_0f7a4) := goodIn_app (goodIn_of _ (by decide +kernel)) ggX3_allPermits_J6_bitCount_0f7a4
theorem dX3_allPermits_0 : decode cX3_allPermits 0 = .ok (.iconst 0, 1) := by decide +kernel
theorem dX3_allPermits_1 : decode cX3_allPermits 1 = .ok (.istore_n 1, 1) := by decide +kernel
theorem dX3_allPermits_2 : decode cX3_allPermits 2 = .ok (.iconst 0, 1) := by decide +kernel
theorem dX3_allPermits_3 : decode cX3_allPermits 3 = .ok (.istore_n 2, 1) := by decide +kernel
theorem dX3_allPermits_4 : decode cX3_allPermits 4 = .ok (.iload_n 2, 1) := by decide +kernel
theorem dX3_allPermits_5 : decode cX3_allPermits 5 = .ok (.bipush 6, 2) := by decide +kernel
theorem dX3_allPermits_7 : decode cX3_allPermits 7 = .ok (.if_icmp .ge 20, 3) := by decide +kernel
theorem dX3_allPermits_10 : decode cX3_allPermits 10 = .ok (.iload_n 1, 1) := by decide +kernel
theorem dX3_allPermits_11 : decode cX3_allPermits 11 = .ok (.aload_n 0, 1) := by decide +kernel
theorem dX3_allPermits_12 : decode cX3_allPermits 12 = .ok (.iload_n 2, 1) := by decide +kernel
theorem dX3_allPermits_13 : decode cX3_allPermits 13 = .ok (.invokevirtual 105, 3) := by decide +kernel
theorem dX3_allPermits_16 : decode cX3_allPermits 16 = .ok (.invokestatic 108, 3) := by decide +kernel
theorem dX3_allPermits_19 : decode cX3_allPermits 19 = .ok (.iadd, 1) := by decide +kernel
theorem dX3_allPermits_20 : decode cX3_allPermits 20 = .ok (.istore_n 1, 1) := by decide +kernel
theorem dX3_allPermits_21 : decode cX3_allPermits 21 = .ok (.iinc 2 1, 3) := by decide +kernel
theorem dX3_allPermits_24 : decode cX3_allPermits 24 = .ok (.goto (-20), 3) := by decide +kernel
theorem dX3_allPermits_27 : decode cX3_allPermits 27 = .ok (.iload_n 1, 1) := by decide +kernel
theorem dX3_allPermits_28 : decode cX3_allPermits 28 = .ok (.ireturn, 1) := by decide +kernel
set_option maxRecDepth 20000 in
theorem ggX3_reasonAgainst_X3_hasDucks : GoodIn wsX3_reasonAgainst wsX3_hasDucks := goodIn_r _ [5, 6, 7, 8, 9, 30, 31, 32, 33, 34, 35, 36, 37, 38, 39, 40, 41, 42, 43, 44] (by decide +kernel) (by decide +kernel)
set_option maxRecDepth 20000 in
theorem gX3_reasonAgainst_X3_hasDucks : GoodIn wsX3_reasonAgainst (wsV RX3 113 RX3 yX3_hasDucks wsX3_hasDucks) := goodIn_app (goodIn_of _ (by decide +kernel)) ggX3_reasonAgainst_X3_hasDucks
set_option maxRecDepth 20000 in
theorem ggX3_reasonAgainst_X3_hasPermit : GoodIn wsX3_reasonAgainst wsX3_hasPermit := goodIn_r _ [13, 14, 15, 8, 16, 30, 31, 32, 33, 34, 35, 36, 37, 38, 39, 40, 41, 42, 43, 44] (by decide +kernel) (by decide +kernel)
set_option maxRecDepth 20000 in
theorem gX3_reasonAgainst_X3_hasPermit : GoodIn wsX3_reasonAgainst (wsV RX3 102 RX3 yX3_hasPermit wsX3_hasPermit) := goodIn_app (goodIn_of _ (by decide +kernel)) ggX3_reasonAgainst_X3_hasPermit
set_option maxRecDepth 20000 in
theorem ggX3_reasonAgainst_X3_depth : GoodIn wsX3_reasonAgainst wsX3_depth := goodIn_r _ [20, 21, 30, 31, 32, 33, 34, 35, 36, 37, 38, 39, 40, 41, 42, 43, 44] (by decide +kernel) (by decide +kernel)
set_option maxRecDepth 20000 in
theorem gX3_reasonAgainst_X3_depth : GoodIn wsX3_reasonAgainst (wsV RX3 92 RX3 yX3_depth wsX3_depth) := goodIn_app (goodIn_of _ (by decide +kernel)) ggX3_reasonAgainst_X3_depth
set_option maxRecDepth 20000 in
theorem ggX3_reasonAgainst_X3_isFrozen : GoodIn wsX3_reasonAgainst wsX3_isFrozen := goodIn_r _ [25, 26, 7, 8, 9, 30, 31, 32, 33, 34, 35, 36, 37, 38, 39, 40, 41, 42, 43, 44] (by decide +kernel) (by decide +kernel)
set_option maxRecDepth 20000 in
theorem gX3_reasonAgainst_X3_isFrozen : GoodIn wsX3_reasonAgainst (wsV RX3 82 RX3 yX3_isFrozen wsX3_isFrozen) := goodIn_app (goodIn_of _ (by decide +kernel)) ggX3_reasonAgainst_X3_isFrozen
set_option maxRecDepth 20000 in
theorem ggX3_reasonAgainst_X3_depthKeptOut : GoodIn wsX3_reasonAgainst wsX3_depthKeptOut := goodIn_r _ [29] (by decide +kernel) (by decide +kernel)
set_option maxRecDepth 20000 in
theorem gX3_reasonAgainst_X3_depthKeptOut : GoodIn wsX3_reasonAgainst (va_wsS RX3 116 yX3_depthKeptOut wsX3_depthKeptOut) := goodIn_app (goodIn_of _ (by decide +kernel)) ggX3_reasonAgainst_X3_depthKeptOut
theorem dX3_reasonAgainst_0 : decode cX3_reasonAgainst 0 = .ok (.aload_n 0, 1) := by decide +kernel
theorem dX3_reasonAgainst_1 : decode cX3_reasonAgainst 1 = .ok (.iload_n 2, 1) := by decide +kernel
theorem dX3_reasonAgainst_2 : decode cX3_reasonAgainst 2 = .ok (.invokevirtual 113, 3) := by decide +kernel
theorem dX3_reasonAgainst_5 : decode cX3_reasonAgainst 5 = .ok (.ifCond .eq 5, 3) := by decide +kernel
theorem dX3_reasonAgainst_8 : decode cX3_reasonAgainst 8 = .ok (.iconst 1, 1) := by decide +kernel
theorem dX3_reasonAgainst_9 : decode cX3_reasonAgainst 9 = .ok (.ireturn, 1) := by decide +kernel
theorem dX3_reasonAgainst_10 : decode cX3_reasonAgainst 10 = .ok (.aload_n 0, 1) := by decide +kernel
theorem dX3_reasonAgainst_11 : decode cX3_reasonAgainst 11 = .ok (.iload_n 1, 1) := by decide +kernel
theorem dX3_reasonAgainst_12 : decode cX3_reasonAgainst 12 = .ok (.iload_n 2, 1) := by decide +kernel
theorem dX3_reasonAgainst_13 : decode cX3_reasonAgainst 13 = .ok (.invokevirtual 102, 3) := by decide +kernel
theorem dX3_reasonAgainst_16 : decode cX3_reasonAgainst 16 = .ok (.ifCond .eq 5, 3) := by decide +kernel
theorem dX3_reasonAgainst_19 : decode cX3_reasonAgainst 19 = .ok (.iconst 0, 1) := by decide +kernel
theorem dX3_reasonAgainst_20 : decode cX3_reasonAgainst 20 = .ok (.ireturn, 1) := by decide +kernel
theorem dX3_reasonAgainst_21 : decode cX3_reasonAgainst 21 = .ok (.aload_n 0, 1) := by decide +kernel
theorem dX3_reasonAgainst_22 : decode cX3_reasonAgainst 22 = .ok (.iload_n 2, 1) := by decide +kernel
theorem dX3_reasonAgainst_23 : decode cX3_reasonAgainst 23 = .ok (.invokevirtual 92, 3) := by decide +kernel
theorem dX3_reasonAgainst_26 : decode cX3_reasonAgainst 26 = .ok (.istore 4, 2) := by decide +kernel
theorem dX3_reasonAgainst_28 : decode cX3_reasonAgainst 28 = .ok (.aload_n 0, 1) := by decide +kernel
theorem dX3_reasonAgainst_29 : decode cX3_reasonAgainst 29 = .ok (.iload_n 2, 1) := by decide +kernel
theorem dX3_reasonAgainst_30 : decode cX3_reasonAgainst 30 = .ok (.invokevirtual 82, 3) := by decide +kernel
theorem dX3_reasonAgainst_33 : decode cX3_reasonAgainst 33 = .ok (.ifCond .eq 15, 3) := by decide +kernel
theorem dX3_reasonAgainst_36 : decode cX3_reasonAgainst 36 = .ok (.iload 4, 2) := by decide +kernel
theorem dX3_reasonAgainst_38 : decode cX3_reasonAgainst 38 = .ok (.iconst 1, 1) := by decide +kernel
theorem dX3_reasonAgainst_39 : decode cX3_reasonAgainst 39 = .ok (.if_icmp .lt 7, 3) := by decide +kernel
theorem dX3_reasonAgainst_42 : decode cX3_reasonAgainst 42 = .ok (.iconst 3, 1) := by decide +kernel
theorem dX3_reasonAgainst_43 : decode cX3_reasonAgainst 43 = .ok (.goto 4, 3) := by decide +kernel
theorem dX3_reasonAgainst_46 : decode cX3_reasonAgainst 46 = .ok (.iconst 0, 1) := by decide +kernel
theorem dX3_reasonAgainst_47 : decode cX3_reasonAgainst 47 = .ok (.ireturn, 1) := by decide +kernel
theorem dX3_reasonAgainst_48 : decode cX3_reasonAgainst 48 = .ok (.iload 4, 2) := by decide +kernel
theorem dX3_reasonAgainst_50 : decode cX3_reasonAgainst 50 = .ok (.iload_n 3, 1) := by decide +kernel
theorem dX3_reasonAgainst_51 : decode cX3_reasonAgainst 51 = .ok (.invokestatic 116, 3) := by decide +kernel
theorem dX3_reasonAgainst_54 : decode cX3_reasonAgainst 54 = .ok (.if_icmp .le 7, 3) := by decide +kernel
theorem dX3_reasonAgainst_57 : decode cX3_reasonAgainst 57 = .ok (.iconst 2, 1) := by decide +kernel
theorem dX3_reasonAgainst_58 : decode cX3_reasonAgainst 58 = .ok (.goto 4, 3) := by decide +kernel
theorem dX3_reasonAgainst_61 : decode cX3_reasonAgainst 61 = .ok (.iconst 0, 1) := by decide +kernel
theorem dX3_reasonAgainst_62 : decode cX3_reasonAgainst 62 = .ok (.ireturn, 1) := by decide +kernel
theorem dX3_depthKeptOut_0 : decode cX3_depthKeptOut 0 = .ok (.iconst 1, 1) := by decide +kernel
theorem dX3_depthKeptOut_1 : decode cX3_depthKeptOut 1 = .ok (.iconst 2, 1) := by decide +kernel
theorem dX3_depthKeptOut_2 : decode cX3_depthKeptOut 2 = .ok (.iload_n 0, 1) := by decide +kernel
theorem dX3_depthKeptOut_3 : decode cX3_depthKeptOut 3 = .ok (.imul, 1) := by decide +kernel
theorem dX3_depthKeptOut_4 : decode cX3_depthKeptOut 4 = .ok (.iadd, 1) := by decide +kernel
theorem dX3_depthKeptOut_5 : decode cX3_depthKeptOut 5 = .ok (.ireturn, 1) := by decide +kernel
set_option maxRecDepth 20000 in
theorem ggX3_mayCross_X3_reasonAgainst : GoodIn wsX3_mayCross wsX3_reasonAgainst := goodIn_r _ [6, 7, 8, 9, 5, 10, 11, 12, 13, 14, 15, 16, 17, 18, 19, 20, 21, 22, 23, 24, 25, 26, 27, 28, 29, 30, 31, 32, 33, 34, 35, 36, 37, 38, 39, 40, 41, 42, 43, 44, 45, 46, 47, 48, 49] (by decide +kernel) (by decide +kernel)
set_option maxRecDepth 20000 in
theorem gX3_mayCross_X3_reasonAgainst : GoodIn wsX3_mayCross (wsV RX3 119 RX3 yX3_reasonAgainst wsX3_reasonAgainst) := goodIn_app (goodIn_of _ (by decide +kernel)) ggX3_mayCross_X3_reasonAgainst
theorem dX3_mayCross_0 : decode cX3_mayCross 0 = .ok (.aload_n 0, 1) := by decide +kernel
theorem dX3_mayCross_1 : decode cX3_mayCross 1 = .ok (.iload_n 1, 1) := by decide +kernel
theorem dX3_mayCross_2 : decode cX3_mayCross 2 = .ok (.iload_n 2, 1) := by decide +kernel
theorem dX3_mayCross_3 : decode cX3_mayCross 3 = .ok (.aload_n 0, 1) := by decide +kernel
theorem dX3_mayCross_4 : decode cX3_mayCross 4 = .ok (.getfield 24, 3) := by decide +kernel
theorem dX3_mayCross_7 : decode cX3_mayCross 7 = .ok (.iload_n 1, 1) := by decide +kernel
theorem dX3_mayCross_8 : decode cX3_mayCross 8 = .ok (.iaload, 1) := by decide +kernel
theorem dX3_mayCross_9 : decode cX3_mayCross 9 = .ok (.invokevirtual 119, 3) := by decide +kernel
theorem dX3_mayCross_12 : decode cX3_mayCross 12 = .ok (.ifCond .ne 7, 3) := by decide +kernel
theorem dX3_mayCross_15 : decode cX3_mayCross 15 = .ok (.iconst 1, 1) := by decide +kernel
theorem dX3_mayCross_16 : decode cX3_mayCross 16 = .ok (.goto 4, 3) := by decide +kernel
theorem dX3_mayCross_19 : decode cX3_mayCross 19 = .ok (.iconst 0, 1) := by decide +kernel
theorem dX3_mayCross_20 : decode cX3_mayCross 20 = .ok (.ireturn, 1) := by decide +kernel
set_option maxRecDepth 20000 in
theorem ggX3_allowedFor_X3_mayCross : GoodIn wsX3_allowedFor wsX3_mayCross := goodIn_r _ [5, 6, 7, 8, 9, 4, 10, 11, 12, 13, 14, 15, 16, 17, 18, 19, 20, 21, 22, 23, 24, 25, 26, 27, 28, 29, 30, 31, 32, 33, 34, 35, 36, 37, 38, 39, 40, 41, 42, 43, 44, 45, 46, 47, 48, 49, 50, 51, 52, 53] (by decide +kernel) (by decide +kernel)
set_option maxRecDepth 20000 in
theorem gX3_allowedFor_X3_mayCross : GoodIn wsX3_allowedFor (wsV RX3 123 RX3 yX3_mayCross wsX3_mayCross) := goodIn_app (goodIn_of _ (by decide +kernel)) ggX3_allowedFor_X3_mayCross
theorem dX3_allowedFor_0 : decode cX3_allowedFor 0 = .ok (.iconst 0, 1) := by decide +kernel
theorem dX3_allowedFor_1 : decode cX3_allowedFor 1 = .ok (.istore_n 2, 1) := by decide +kernel
theorem dX3_allowedFor_2 : decode cX3_allowedFor 2 = .ok (.iconst 0, 1) := by decide +kernel
theorem dX3_allowedFor_3 : decode cX3_allowedFor 3 = .ok (.istore_n 3, 1) := by decide +kernel
theorem dX3_allowedFor_4 : decode cX3_allowedFor 4 = .ok (.iload_n 3, 1) := by decide +kernel
theorem dX3_allowedFor_5 : decode cX3_allowedFor 5 = .ok (.bipush 12, 2) := by decide +kernel
theorem dX3_allowedFor_7 : decode cX3_allowedFor 7 = .ok (.if_icmp .ge 24, 3) := by decide +kernel
theorem dX3_allowedFor_10 : decode cX3_allowedFor 10 = .ok (.aload_n 0, 1) := by decide +kernel
theorem dX3_allowedFor_11 : decode cX3_allowedFor 11 = .ok (.iload_n 1, 1) := by decide +kernel
theorem dX3_allowedFor_12 : decode cX3_allowedFor 12 = .ok (.iload_n 3, 1) := by decide +kernel
theorem dX3_allowedFor_13 : decode cX3_allowedFor 13 = .ok (.invokevirtual 123, 3) := by decide +kernel
theorem dX3_allowedFor_16 : decode cX3_allowedFor 16 = .ok (.ifCond .eq 9, 3) := by decide +kernel
theorem dX3_allowedFor_19 : decode cX3_allowedFor 19 = .ok (.iload_n 2, 1) := by decide +kernel
theorem dX3_allowedFor_20 : decode cX3_allowedFor 20 = .ok (.iconst 1, 1) := by decide +kernel
theorem dX3_allowedFor_21 : decode cX3_allowedFor 21 = .ok (.iload_n 3, 1) := by decide +kernel
theorem dX3_allowedFor_22 : decode cX3_allowedFor 22 = .ok (.ishl, 1) := by decide +kernel
theorem dX3_allowedFor_23 : decode cX3_allowedFor 23 = .ok (.ior, 1) := by decide +kernel
theorem dX3_allowedFor_24 : decode cX3_allowedFor 24 = .ok (.istore_n 2, 1) := by decide +kernel
theorem dX3_allowedFor_25 : decode cX3_allowedFor 25 = .ok (.iinc 3 1, 3) := by decide +kernel
theorem dX3_allowedFor_28 : decode cX3_allowedFor 28 = .ok (.goto (-24), 3) := by decide +kernel
theorem dX3_allowedFor_31 : decode cX3_allowedFor 31 = .ok (.iload_n 2, 1) := by decide +kernel
theorem dX3_allowedFor_32 : decode cX3_allowedFor 32 = .ok (.ireturn, 1) := by decide +kernel
set_option maxRecDepth 20000 in
theorem ggX3_allowsAllWith_X3_reasonAgainst : GoodIn wsX3_allowsAllWith wsX3_reasonAgainst := goodIn_r _ [5, 6, 7, 8, 4, 9, 10, 11, 12, 13, 14, 15, 16, 17, 18, 19, 20, 21, 22, 23, 24, 25, 26, 27, 28, 29, 30, 31, 32, 33, 34, 35, 36, 37, 38, 39, 40, 41, 42, 43, 44, 45, 46, 47, 48] (by decide +kernel) (by decide +kernel)
set_option maxRecDepth 20000 in
theorem gX3_allowsAllWith_X3_reasonAgainst : GoodIn wsX3_allowsAllWith (wsV RX3 119 RX3 yX3_reasonAgainst wsX3_reasonAgainst) := goodIn_app (goodIn_of _ (by decide +kernel)) ggX3_allowsAllWith_X3_reasonAgainst
theorem dX3_allowsAllWith_0 : decode cX3_allowsAllWith 0 = .ok (.iconst 0, 1) := by decide +kernel
theorem dX3_allowsAllWith_1 : decode cX3_allowsAllWith 1 = .ok (.istore_n 3, 1) := by decide +kernel
theorem dX3_allowsAllWith_2 : decode cX3_allowsAllWith 2 = .ok (.iload_n 3, 1) := by decide +kernel
theorem dX3_allowsAllWith_3 : decode cX3_allowsAllWith 3 = .ok (.bipush 12, 2) := by decide +kernel
theorem dX3_allowsAllWith_5 : decode cX3_allowsAllWith 5 = .ok (.if_icmp .ge 21, 3) := by decide +kernel
theorem dX3_allowsAllWith_8 : decode cX3_allowsAllWith 8 = .ok (.aload_n 0, 1) := by decide +kernel
theorem dX3_allowsAllWith_9 : decode cX3_allowsAllWith 9 = .ok (.iload_n 1, 1) := by decide +kernel
theorem dX3_allowsAllWith_10 : decode cX3_allowsAllWith 10 = .ok (.iload_n 3, 1) := by decide +kernel
theorem dX3_allowsAllWith_11 : decode cX3_allowsAllWith 11 = .ok (.iload_n 2, 1) := by decide +kernel
theorem dX3_allowsAllWith_12 : decode cX3_allowsAllWith 12 = .ok (.invokevirtual 119, 3) := by decide +kernel
theorem dX3_allowsAllWith_15 : decode cX3_allowsAllWith 15 = .ok (.ifCond .eq 5, 3) := by decide +kernel
theorem dX3_allowsAllWith_18 : decode cX3_allowsAllWith 18 = .ok (.iconst 0, 1) := by decide +kernel
theorem dX3_allowsAllWith_19 : decode cX3_allowsAllWith 19 = .ok (.ireturn, 1) := by decide +kernel
theorem dX3_allowsAllWith_20 : decode cX3_allowsAllWith 20 = .ok (.iinc 3 1, 3) := by decide +kernel
theorem dX3_allowsAllWith_23 : decode cX3_allowsAllWith 23 = .ok (.goto (-21), 3) := by decide +kernel
theorem dX3_allowsAllWith_26 : decode cX3_allowsAllWith 26 = .ok (.iconst 1, 1) := by decide +kernel
theorem dX3_allowsAllWith_27 : decode cX3_allowsAllWith 27 = .ok (.ireturn, 1) := by decide +kernel
set_option maxRecDepth 20000 in
theorem ggX3_dutyAt_X3_isFrozen : GoodIn wsX3_dutyAt wsX3_isFrozen := goodIn_r _ [6, 7, 8, 9, 10, 16, 17, 18, 19, 20, 21, 22, 23, 24, 25, 26, 27, 28, 29, 30] (by decide +kernel) (by decide +kernel)
set_option maxRecDepth 20000 in
theorem gX3_dutyAt_X3_isFrozen : GoodIn wsX3_dutyAt (wsV RX3 82 RX3 yX3_isFrozen wsX3_isFrozen) := goodIn_app (goodIn_of _ (by decide +kernel)) ggX3_dutyAt_X3_isFrozen
set_option maxRecDepth 20000 in
theorem ggX3_dutyAt_X3_depth : GoodIn wsX3_dutyAt wsX3_depth := goodIn_r _ [14, 15, 16, 17, 18, 19, 20, 21, 22, 23, 24, 25, 26, 27, 28, 29, 30] (by decide +kernel) (by decide +kernel)
set_option maxRecDepth 20000 in
theorem gX3_dutyAt_X3_depth : GoodIn wsX3_dutyAt (wsV RX3 92 RX3 yX3_depth wsX3_depth) := goodIn_app (goodIn_of _ (by decide +kernel)) ggX3_dutyAt_X3_depth
theorem dX3_dutyAt_0 : decode cX3_dutyAt 0 = .ok (.aload_n 0, 1) := by decide +kernel
theorem dX3_dutyAt_1 : decode cX3_dutyAt 1 = .ok (.iload_n 1, 1) := by decide +kernel
theorem dX3_dutyAt_2 : decode cX3_dutyAt 2 = .ok (.invokevirtual 82, 3) := by decide +kernel
theorem dX3_dutyAt_5 : decode cX3_dutyAt 5 = .ok (.ifCond .eq 7, 3) := by decide +kernel
theorem dX3_dutyAt_8 : decode cX3_dutyAt 8 = .ok (.iconst 0, 1) := by decide +kernel
theorem dX3_dutyAt_9 : decode cX3_dutyAt 9 = .ok (.goto 15, 3) := by decide +kernel
theorem dX3_dutyAt_12 : decode cX3_dutyAt 12 = .ok (.aload_n 0, 1) := by decide +kernel
theorem dX3_dutyAt_13 : decode cX3_dutyAt 13 = .ok (.getfield 9, 3) := by decide +kernel
theorem dX3_dutyAt_16 : decode cX3_dutyAt 16 = .ok (.iconst 0, 1) := by decide +kernel
theorem dX3_dutyAt_17 : decode cX3_dutyAt 17 = .ok (.iaload, 1) := by decide +kernel
theorem dX3_dutyAt_18 : decode cX3_dutyAt 18 = .ok (.aload_n 0, 1) := by decide +kernel
theorem dX3_dutyAt_19 : decode cX3_dutyAt 19 = .ok (.iload_n 1, 1) := by decide +kernel
theorem dX3_dutyAt_20 : decode cX3_dutyAt 20 = .ok (.invokevirtual 92, 3) := by decide +kernel
theorem dX3_dutyAt_23 : decode cX3_dutyAt 23 = .ok (.imul, 1) := by decide +kernel
theorem dX3_dutyAt_24 : decode cX3_dutyAt 24 = .ok (.ireturn, 1) := by decide +kernel
set_option maxRecDepth 20000 in
theorem ggX3_cross_X3_dutyAt : GoodIn wsX3_cross wsX3_dutyAt := goodIn_r _ [8, 9, 10, 11, 12, 7, 13, 14, 15, 16, 17, 18, 19, 20, 21, 22, 23, 24, 25, 26, 27, 28, 29, 30, 31, 32, 33, 34, 35, 36, 37] (by decide +kernel) (by decide +kernel)
set_option maxRecDepth 20000 in
theorem gX3_cross_X3_dutyAt : GoodIn wsX3_cross (wsV RX3 126 RX3 yX3_dutyAt wsX3_dutyAt) := goodIn_app (goodIn_of _ (by decide +kernel)) ggX3_cross_X3_dutyAt
theorem dX3_cross_0 : decode cX3_cross 0 = .ok (.aload_n 0, 1) := by decide +kernel
theorem dX3_cross_1 : decode cX3_cross 1 = .ok (.getfield 27, 3) := by decide +kernel
theorem dX3_cross_4 : decode cX3_cross 4 = .ok (.iload_n 1, 1) := by decide +kernel
theorem dX3_cross_5 : decode cX3_cross 5 = .ok (.dup2, 1) := by decide +kernel
theorem dX3_cross_6 : decode cX3_cross 6 = .ok (.iaload, 1) := by decide +kernel
theorem dX3_cross_7 : decode cX3_cross 7 = .ok (.aload_n 0, 1) := by decide +kernel
theorem dX3_cross_8 : decode cX3_cross 8 = .ok (.iload_n 2, 1) := by decide +kernel
theorem dX3_cross_9 : decode cX3_cross 9 = .ok (.invokevirtual 126, 3) := by decide +kernel
theorem dX3_cross_12 : decode cX3_cross 12 = .ok (.iadd, 1) := by decide +kernel
theorem dX3_cross_13 : decode cX3_cross 13 = .ok (.iastore, 1) := by decide +kernel
theorem dX3_cross_14 : decode cX3_cross 14 = .ok (.aload_n 0, 1) := by decide +kernel
theorem dX3_cross_15 : decode cX3_cross 15 = .ok (.getfield 33, 3) := by decide +kernel
theorem dX3_cross_18 : decode cX3_cross 18 = .ok (.iload_n 1, 1) := by decide +kernel
theorem dX3_cross_19 : decode cX3_cross 19 = .ok (.dup2, 1) := by decide +kernel
theorem dX3_cross_20 : decode cX3_cross 20 = .ok (.iaload, 1) := by decide +kernel
theorem dX3_cross_21 : decode cX3_cross 21 = .ok (.iconst 1, 1) := by decide +kernel
theorem dX3_cross_22 : decode cX3_cross 22 = .ok (.iadd, 1) := by decide +kernel
theorem dX3_cross_23 : decode cX3_cross 23 = .ok (.iastore, 1) := by decide +kernel
theorem dX3_cross_24 : decode cX3_cross 24 = .ok (.aload_n 0, 1) := by decide +kernel
theorem dX3_cross_25 : decode cX3_cross 25 = .ok (.getfield 21, 3) := by decide +kernel
theorem dX3_cross_28 : decode cX3_cross 28 = .ok (.iload_n 2, 1) := by decide +kernel
theorem dX3_cross_29 : decode cX3_cross 29 = .ok (.dup2, 1) := by decide +kernel
theorem dX3_cross_30 : decode cX3_cross 30 = .ok (.iaload, 1) := by decide +kernel
theorem dX3_cross_31 : decode cX3_cross 31 = .ok (.iconst 1, 1) := by decide +kernel
theorem dX3_cross_32 : decode cX3_cross 32 = .ok (.iadd, 1) := by decide +kernel
theorem dX3_cross_33 : decode cX3_cross 33 = .ok (.iastore, 1) := by decide +kernel
theorem dX3_cross_34 : decode cX3_cross 34 = .ok (.return_, 1) := by decide +kernel
set_option maxRecDepth 20000 in
theorem ggX3_stepsUntilBlocked_X4_placeAfter : GoodIn wsX3_stepsUntilBlocked wsX4_placeAfter := goodIn_r _ [7] (by decide +kernel) (by decide +kernel)
set_option maxRecDepth 20000 in
theorem gX3_stepsUntilBlocked_X4_placeAfter_n132 : GoodIn wsX3_stepsUntilBlocked (wsX4_placeAfter) := ggX3_stepsUntilBlocked_X4_placeAfter
set_option maxRecDepth 20000 in
theorem ggX3_stepsUntilBlocked_X3_mayCross : GoodIn wsX3_stepsUntilBlocked wsX3_mayCross := goodIn_r _ [12, 13, 14, 15, 16, 11, 17, 18, 19, 20, 21, 22, 23, 6, 24, 25, 26, 27, 28, 29, 30, 31, 32, 33, 34, 35, 36, 37, 38, 39, 40, 41, 42, 43, 44, 45, 46, 47, 48, 49, 50, 51, 52, 53, 54, 55, 56, 57, 58, 59] (by decide +kernel) (by decide +kernel)
set_option maxRecDepth 20000 in
theorem gX3_stepsUntilBlocked_X3_mayCross : GoodIn wsX3_stepsUntilBlocked (wsV RX3 123 RX3 yX3_mayCross wsX3_mayCross) := goodIn_app (goodIn_of _ (by decide +kernel)) ggX3_stepsUntilBlocked_X3_mayCross
theorem dX3_stepsUntilBlocked_0 : decode cX3_stepsUntilBlocked 0 = .ok (.iload_n 3, 1) := by decide +kernel
theorem dX3_stepsUntilBlocked_1 : decode cX3_stepsUntilBlocked 1 = .ok (.iload_n 2, 1) := by decide +kernel
theorem dX3_stepsUntilBlocked_2 : decode cX3_stepsUntilBlocked 2 = .ok (.isub, 1) := by decide +kernel
theorem dX3_stepsUntilBlocked_3 : decode cX3_stepsUntilBlocked 3 = .ok (.invokestatic 129, 3) := by decide +kernel
theorem dX3_stepsUntilBlocked_6 : decode cX3_stepsUntilBlocked 6 = .ok (.iconst 1, 1) := by decide +kernel
theorem dX3_stepsUntilBlocked_7 : decode cX3_stepsUntilBlocked 7 = .ok (.iadd, 1) := by decide +kernel
theorem dX3_stepsUntilBlocked_8 : decode cX3_stepsUntilBlocked 8 = .ok (.istore 4, 2) := by decide +kernel
theorem dX3_stepsUntilBlocked_10 : decode cX3_stepsUntilBlocked 10 = .ok (.iconst 0, 1) := by decide +kernel
theorem dX3_stepsUntilBlocked_11 : decode cX3_stepsUntilBlocked 11 = .ok (.istore 5, 2) := by decide +kernel
theorem dX3_stepsUntilBlocked_13 : decode cX3_stepsUntilBlocked 13 = .ok (.iload 5, 2) := by decide +kernel
theorem dX3_stepsUntilBlocked_15 : decode cX3_stepsUntilBlocked 15 = .ok (.iload 4, 2) := by decide +kernel
theorem dX3_stepsUntilBlocked_17 : decode cX3_stepsUntilBlocked 17 = .ok (.if_icmp .ge 27, 3) := by decide +kernel
theorem dX3_stepsUntilBlocked_20 : decode cX3_stepsUntilBlocked 20 = .ok (.aload_n 0, 1) := by decide +kernel
theorem dX3_stepsUntilBlocked_21 : decode cX3_stepsUntilBlocked 21 = .ok (.iload_n 1, 1) := by decide +kernel
theorem dX3_stepsUntilBlocked_22 : decode cX3_stepsUntilBlocked 22 = .ok (.iload 5, 2) := by decide +kernel
theorem dX3_stepsUntilBlocked_24 : decode cX3_stepsUntilBlocked 24 = .ok (.iload_n 2, 1) := by decide +kernel
theorem dX3_stepsUntilBlocked_25 : decode cX3_stepsUntilBlocked 25 = .ok (.iload_n 3, 1) := by decide +kernel
theorem dX3_stepsUntilBlocked_26 : decode cX3_stepsUntilBlocked 26 = .ok (.invokestatic 132, 3) := by decide +kernel
theorem dX3_stepsUntilBlocked_29 : decode cX3_stepsUntilBlocked 29 = .ok (.invokevirtual 123, 3) := by decide +kernel
theorem dX3_stepsUntilBlocked_32 : decode cX3_stepsUntilBlocked 32 = .ok (.ifCond .ne 6, 3) := by decide +kernel
theorem dX3_stepsUntilBlocked_35 : decode cX3_stepsUntilBlocked 35 = .ok (.iload 5, 2) := by decide +kernel
theorem dX3_stepsUntilBlocked_37 : decode cX3_stepsUntilBlocked 37 = .ok (.ireturn, 1) := by decide +kernel
theorem dX3_stepsUntilBlocked_38 : decode cX3_stepsUntilBlocked 38 = .ok (.iinc 5 1, 3) := by decide +kernel
theorem dX3_stepsUntilBlocked_41 : decode cX3_stepsUntilBlocked 41 = .ok (.goto (-28), 3) := by decide +kernel
theorem dX3_stepsUntilBlocked_44 : decode cX3_stepsUntilBlocked 44 = .ok (.iload 4, 2) := by decide +kernel
theorem dX3_stepsUntilBlocked_46 : decode cX3_stepsUntilBlocked 46 = .ok (.ireturn, 1) := by decide +kernel
set_option maxRecDepth 20000 in
theorem ggX3_costBySteps_X4_placeAfter : GoodIn wsX3_costBySteps wsX4_placeAfter := goodIn_r _ [7] (by decide +kernel) (by decide +kernel)
set_option maxRecDepth 20000 in
theorem gX3_costBySteps_X4_placeAfter_n132 : GoodIn wsX3_costBySteps (wsX4_placeAfter) := ggX3_costBySteps_X4_placeAfter
set_option maxRecDepth 20000 in
theorem ggX3_costBySteps_X3_mayCross : GoodIn wsX3_costBySteps wsX3_mayCross := goodIn_r _ [12, 13, 14, 15, 16, 11, 17, 18, 19, 20, 21, 22, 23, 6, 24, 25, 26, 27, 28, 29, 30, 31, 32, 33, 34, 35, 36, 37, 38, 39, 40, 41, 42, 43, 44, 50, 51, 52, 53, 54, 55, 56, 57, 58, 59, 60, 61, 62, 63, 64] (by decide +kernel) (by decide +kernel)
set_option maxRecDepth 20000 in
theorem gX3_costBySteps_X3_mayCross : GoodIn wsX3_costBySteps (wsV RX3 123 RX3 yX3_mayCross wsX3_mayCross) := goodIn_app (goodIn_of _ (by decide +kernel)) ggX3_costBySteps_X3_mayCross
set_option maxRecDepth 20000 in
theorem ggX3_costBySteps_X3_dutyAt : GoodIn wsX3_costBySteps wsX3_dutyAt := goodIn_r _ [48, 49, 37, 38, 39, 11, 40, 41, 23, 6, 24, 32, 33, 34, 35, 36, 50, 51, 52, 53, 54, 55, 56, 57, 58, 59, 60, 61, 62, 63, 64] (by decide +kernel) (by decide +kernel)
set_option maxRecDepth 20000 in
theorem gX3_costBySteps_X3_dutyAt : GoodIn wsX3_costBySteps (wsV RX3 126 RX3 yX3_dutyAt wsX3_dutyAt) := goodIn_app (goodIn_of _ (by decide +kernel)) ggX3_costBySteps_X3_dutyAt
theorem dX3_costBySteps_0 : decode cX3_costBySteps 0 = .ok (.iload_n 3, 1) := by decide +kernel
theorem dX3_costBySteps_1 : decode cX3_costBySteps 1 = .ok (.iload_n 2, 1) := by decide +kernel
theorem dX3_costBySteps_2 : decode cX3_costBySteps 2 = .ok (.isub, 1) := by decide +kernel
theorem dX3_costBySteps_3 : decode cX3_costBySteps 3 = .ok (.invokestatic 129, 3) := by decide +kernel
theorem dX3_costBySteps_6 : decode cX3_costBySteps 6 = .ok (.iconst 1, 1) := by decide +kernel
theorem dX3_costBySteps_7 : decode cX3_costBySteps 7 = .ok (.iadd, 1) := by decide +kernel
theorem dX3_costBySteps_8 : decode cX3_costBySteps 8 = .ok (.istore 4, 2) := by decide +kernel
theorem dX3_costBySteps_10 : decode cX3_costBySteps 10 = .ok (.iconst 0, 1) := by decide +kernel
theorem dX3_costBySteps_11 : decode cX3_costBySteps 11 = .ok (.istore 5, 2) := by decide +kernel
theorem dX3_costBySteps_13 : decode cX3_costBySteps 13 = .ok (.iconst 0, 1) := by decide +kernel
theorem dX3_costBySteps_14 : decode cX3_costBySteps 14 = .ok (.istore 6, 2) := by decide +kernel
theorem dX3_costBySteps_16 : decode cX3_costBySteps 16 = .ok (.iload 6, 2) := by decide +kernel
theorem dX3_costBySteps_18 : decode cX3_costBySteps 18 = .ok (.iload 4, 2) := by decide +kernel
theorem dX3_costBySteps_20 : decode cX3_costBySteps 20 = .ok (.if_icmp .ge 42, 3) := by decide +kernel
theorem dX3_costBySteps_23 : decode cX3_costBySteps 23 = .ok (.iload 6, 2) := by decide +kernel
theorem dX3_costBySteps_25 : decode cX3_costBySteps 25 = .ok (.iload_n 2, 1) := by decide +kernel
theorem dX3_costBySteps_26 : decode cX3_costBySteps 26 = .ok (.iload_n 3, 1) := by decide +kernel
theorem dX3_costBySteps_27 : decode cX3_costBySteps 27 = .ok (.invokestatic 132, 3) := by decide +kernel
theorem dX3_costBySteps_30 : decode cX3_costBySteps 30 = .ok (.istore 7, 2) := by decide +kernel
theorem dX3_costBySteps_32 : decode cX3_costBySteps 32 = .ok (.aload_n 0, 1) := by decide +kernel
theorem dX3_costBySteps_33 : decode cX3_costBySteps 33 = .ok (.iload_n 1, 1) := by decide +kernel
theorem dX3_costBySteps_34 : decode cX3_costBySteps 34 = .ok (.iload 7, 2) := by decide +kernel
theorem dX3_costBySteps_36 : decode cX3_costBySteps 36 = .ok (.invokevirtual 123, 3) := by decide +kernel
theorem dX3_costBySteps_39 : decode cX3_costBySteps 39 = .ok (.ifCond .ne 6, 3) := by decide +kernel
theorem dX3_costBySteps_42 : decode cX3_costBySteps 42 = .ok (.iload 5, 2) := by decide +kernel
theorem dX3_costBySteps_44 : decode cX3_costBySteps 44 = .ok (.ireturn, 1) := by decide +kernel
theorem dX3_costBySteps_45 : decode cX3_costBySteps 45 = .ok (.iload 5, 2) := by decide +kernel
theorem dX3_costBySteps_47 : decode cX3_costBySteps 47 = .ok (.aload_n 0, 1) := by decide +kernel
theorem dX3_costBySteps_48 : decode cX3_costBySteps 48 = .ok (.iload 7, 2) := by decide +kernel
theorem dX3_costBySteps_50 : decode cX3_costBySteps 50 = .ok (.invokevirtual 126, 3) := by decide +kernel
theorem dX3_costBySteps_53 : decode cX3_costBySteps 53 = .ok (.iadd, 1) := by decide +kernel
theorem dX3_costBySteps_54 : decode cX3_costBySteps 54 = .ok (.istore 5, 2) := by decide +kernel
theorem dX3_costBySteps_56 : decode cX3_costBySteps 56 = .ok (.iinc 6 1, 3) := by decide +kernel
theorem dX3_costBySteps_59 : decode cX3_costBySteps 59 = .ok (.goto (-43), 3) := by decide +kernel
theorem dX3_costBySteps_62 : decode cX3_costBySteps 62 = .ok (.iload 5, 2) := by decide +kernel
theorem dX3_costBySteps_64 : decode cX3_costBySteps 64 = .ok (.ireturn, 1) := by decide +kernel
set_option maxRecDepth 20000 in
theorem ggX3_costByBlock_X3_stepsUntilBlocked : GoodIn wsX3_costByBlock wsX3_stepsUntilBlocked := goodIn_r _ [5, 6, 7, 8, 9, 10, 11, 12, 13, 14, 15, 4, 16, 17, 18, 19, 20, 21, 22, 23, 24, 25, 26, 27, 28, 29, 30, 31, 32, 33, 34, 35, 36, 37, 38, 39, 40, 41, 42, 43, 44, 45, 46, 47, 48, 54, 55, 56, 57, 58, 59, 60, 61, 62, 63, 64, 65, 66, 67, 68] (by decide +kernel) (by decide +kernel)
set_option maxRecDepth 20000 in
theorem gX3_costByBlock_X3_stepsUntilBlocked : GoodIn wsX3_costByBlock (wsV RX3 135 RX3 yX3_stepsUntilBlocked wsX3_stepsUntilBlocked) := goodIn_app (goodIn_of _ (by decide +kernel)) ggX3_costByBlock_X3_stepsUntilBlocked
set_option maxRecDepth 20000 in
theorem ggX3_costByBlock_X4_placeAfter : GoodIn wsX3_costByBlock wsX4_placeAfter := goodIn_r _ [12] (by decide +kernel) (by decide +kernel)
set_option maxRecDepth 20000 in
theorem gX3_costByBlock_X4_placeAfter_n132 : GoodIn wsX3_costByBlock (wsX4_placeAfter) := ggX3_costByBlock_X4_placeAfter
set_option maxRecDepth 20000 in
theorem ggX3_costByBlock_X3_dutyAt : GoodIn wsX3_costByBlock wsX3_dutyAt := goodIn_r _ [52, 53, 41, 42, 43, 4, 44, 45, 27, 11, 28, 36, 37, 38, 39, 40, 54, 55, 56, 57, 58, 59, 60, 61, 62, 63, 64, 65, 66, 67, 68] (by decide +kernel) (by decide +kernel)
set_option maxRecDepth 20000 in
theorem gX3_costByBlock_X3_dutyAt : GoodIn wsX3_costByBlock (wsV RX3 126 RX3 yX3_dutyAt wsX3_dutyAt) := goodIn_app (goodIn_of _ (by decide +kernel)) ggX3_costByBlock_X3_dutyAt
theorem dX3_costByBlock_0 : decode cX3_costByBlock 0 = .ok (.aload_n 0, 1) := by decide +kernel
theorem dX3_costByBlock_1 : decode cX3_costByBlock 1 = .ok (.iload_n 1, 1) := by decide +kernel
theorem dX3_costByBlock_2 : decode cX3_costByBlock 2 = .ok (.iload_n 2, 1) := by decide +kernel
theorem dX3_costByBlock_3 : decode cX3_costByBlock 3 = .ok (.iload_n 3, 1) := by decide +kernel
theorem dX3_costByBlock_4 : decode cX3_costByBlock 4 = .ok (.invokevirtual 135, 3) := by decide +kernel
theorem dX3_costByBlock_7 : decode cX3_costByBlock 7 = .ok (.istore 4, 2) := by decide +kernel
theorem dX3_costByBlock_9 : decode cX3_costByBlock 9 = .ok (.iconst 0, 1) := by decide +kernel
theorem dX3_costByBlock_10 : decode cX3_costByBlock 10 = .ok (.istore 5, 2) := by decide +kernel
theorem dX3_costByBlock_12 : decode cX3_costByBlock 12 = .ok (.iconst 0, 1) := by decide +kernel
theorem dX3_costByBlock_13 : decode cX3_costByBlock 13 = .ok (.istore 6, 2) := by decide +kernel
theorem dX3_costByBlock_15 : decode cX3_costByBlock 15 = .ok (.iload 6, 2) := by decide +kernel
theorem dX3_costByBlock_17 : decode cX3_costByBlock 17 = .ok (.iload 4, 2) := by decide +kernel
theorem dX3_costByBlock_19 : decode cX3_costByBlock 19 = .ok (.if_icmp .ge 25, 3) := by decide +kernel
theorem dX3_costByBlock_22 : decode cX3_costByBlock 22 = .ok (.iload 5, 2) := by decide +kernel
theorem dX3_costByBlock_24 : decode cX3_costByBlock 24 = .ok (.aload_n 0, 1) := by decide +kernel
theorem dX3_costByBlock_25 : decode cX3_costByBlock 25 = .ok (.iload 6, 2) := by decide +kernel
theorem dX3_costByBlock_27 : decode cX3_costByBlock 27 = .ok (.iload_n 2, 1) := by decide +kernel
theorem dX3_costByBlock_28 : decode cX3_costByBlock 28 = .ok (.iload_n 3, 1) := by decide +kernel
theorem dX3_costByBlock_29 : decode cX3_costByBlock 29 = .ok (.invokestatic 132, 3) := by decide +kernel
theorem dX3_costByBlock_32 : decode cX3_costByBlock 32 = .ok (.invokevirtual 126, 3) := by decide +kernel
theorem dX3_costByBlock_35 : decode cX3_costByBlock 35 = .ok (.iadd, 1) := by decide +kernel
theorem dX3_costByBlock_36 : decode cX3_costByBlock 36 = .ok (.istore 5, 2) := by decide +kernel
theorem dX3_costByBlock_38 : decode cX3_costByBlock 38 = .ok (.iinc 6 1, 3) := by decide +kernel
theorem dX3_costByBlock_41 : decode cX3_costByBlock 41 = .ok (.goto (-26), 3) := by decide +kernel
theorem dX3_costByBlock_44 : decode cX3_costByBlock 44 = .ok (.iload 5, 2) := by decide +kernel
theorem dX3_costByBlock_46 : decode cX3_costByBlock 46 = .ok (.ireturn, 1) := by decide +kernel
end
section
set_option maxRecDepth 20000 in
theorem ggX4_init_X3_init : GoodIn wsX4_init wsX3_init := goodIn_r _ [22, 23, 2, 3, 24, 25, 26, 27, 28, 29, 30, 31, 32, 33, 55, 56, 57, 58, 59, 60, 61, 62, 63, 64, 65, 66, 67, 68, 69] (by decide +kernel) (by decide +kernel)
set_option maxRecDepth 20000 in
theorem gX4_init_X3_init : GoodIn wsX4_init (wsX3_init) := ggX4_init_X3_init
set_option maxRecDepth 20000 in
theorem ggX4_init_X1_init : GoodIn wsX4_init wsX1_init := goodIn_r _ [35, 36, 2, 3, 37, 38, 74, 75] (by decide +kernel) (by decide +kernel)
set_option maxRecDepth 20000 in
theorem gX4_init_X1_init_n18 : GoodIn wsX4_init (wsX1_init) := ggX4_init_X1_init
set_option maxRecDepth 20000 in
theorem ggX4_init_X0_init : GoodIn wsX4_init wsX0_init := goodIn_r _ [41, 42, 2, 3, 43, 44, 5, 6, 45, 21, 22, 23, 24, 25, 26, 27, 28, 29, 30, 31, 32, 33, 76, 77, 55, 56, 57, 58, 59, 60, 61, 62, 63, 64, 65, 66, 67, 68, 69] (by decide +kernel) (by decide +kernel)
set_option maxRecDepth 20000 in
theorem gX4_init_X0_init : GoodIn wsX4_init (wsX0_init) := ggX4_init_X0_init
set_option maxRecDepth 20000 in
theorem ggX4_init_X2_init : GoodIn wsX4_init wsX2_init := goodIn_r _ [48, 49, 2, 3, 50, 51, 52, 53, 5, 6, 54, 21, 22, 23, 24, 25, 26, 27, 28, 29, 30, 31, 32, 33, 78, 79, 55, 56, 57, 58, 59, 60, 61, 62, 63, 64, 65, 66, 67, 68, 69] (by decide +kernel) (by decide +kernel)
set_option maxRecDepth 20000 in
theorem gX4_init_X2_init : GoodIn wsX4_init (wsX2_init) := ggX4_init_X2_init
theorem dX4_init_0 : decode cX4_init 0 = .ok (.aload_n 0, 1) := by decide +kernel
theorem dX4_init_1 : decode cX4_init 1 = .ok (.invokespecial 1, 3) := by decide +kernel
theorem dX4_init_4 : decode cX4_init 4 = .ok (.aload_n 0, 1) := by decide +kernel
theorem dX4_init_5 : decode cX4_init 5 = .ok (.new 7, 3) := by decide +kernel
theorem dX4_init_8 : decode cX4_init 8 = .ok (.dup, 1) := by decide +kernel
theorem dX4_init_9 : decode cX4_init 9 = .ok (.invokespecial 9, 3) := by decide +kernel
theorem dX4_init_12 : decode cX4_init 12 = .ok (.putfield 10, 3) := by decide +kernel
theorem dX4_init_15 : decode cX4_init 15 = .ok (.aload_n 0, 1) := by decide +kernel
theorem dX4_init_16 : decode cX4_init 16 = .ok (.new 16, 3) := by decide +kernel
theorem dX4_init_19 : decode cX4_init 19 = .ok (.dup, 1) := by decide +kernel
theorem dX4_init_20 : decode cX4_init 20 = .ok (.invokespecial 18, 3) := by decide +kernel
theorem dX4_init_23 : decode cX4_init 23 = .ok (.putfield 19, 3) := by decide +kernel
theorem dX4_init_26 : decode cX4_init 26 = .ok (.aload_n 0, 1) := by decide +kernel
theorem dX4_init_27 : decode cX4_init 27 = .ok (.new 23, 3) := by decide +kernel
theorem dX4_init_30 : decode cX4_init 30 = .ok (.dup, 1) := by decide +kernel
theorem dX4_init_31 : decode cX4_init 31 = .ok (.invokespecial 25, 3) := by decide +kernel
theorem dX4_init_34 : decode cX4_init 34 = .ok (.putfield 26, 3) := by decide +kernel
theorem dX4_init_37 : decode cX4_init 37 = .ok (.aload_n 0, 1) := by decide +kernel
theorem dX4_init_38 : decode cX4_init 38 = .ok (.new 30, 3) := by decide +kernel
theorem dX4_init_41 : decode cX4_init 41 = .ok (.dup, 1) := by decide +kernel
theorem dX4_init_42 : decode cX4_init 42 = .ok (.invokespecial 32, 3) := by decide +kernel
theorem dX4_init_45 : decode cX4_init 45 = .ok (.putfield 33, 3) := by decide +kernel
theorem dX4_init_48 : decode cX4_init 48 = .ok (.return_, 1) := by decide +kernel
set_option maxRecDepth 20000 in
theorem ggX4_set_X0_record : GoodIn wsX4_set wsX0_record := goodIn_r _ [10, 11, 12, 13, 14, 15, 9, 16, 17, 18, 19, 20, 21, 22, 23, 24, 25, 26, 27, 28, 29, 30, 31, 32, 33, 34, 35, 36, 37, 38, 39, 59, 60, 44, 45, 46, 47, 48, 49, 50, 51, 52, 53, 54, 55, 56, 57, 58] (by decide +kernel) (by decide +kernel)
set_option maxRecDepth 20000 in
theorem gX4_set_X0_record : GoodIn wsX4_set (wsV RX4 44 RX0 yX0_record wsX0_record) := goodIn_app (goodIn_of _ (by decide +kernel)) ggX4_set_X0_record
theorem dX4_set_0 : decode cX4_set 0 = .ok (.iload_n 1, 1) := by decide +kernel
theorem dX4_set_1 : decode cX4_set 1 = .ok (.ifCond .lt 8, 3) := by decide +kernel
theorem dX4_set_4 : decode cX4_set 4 = .ok (.iload_n 1, 1) := by decide +kernel
theorem dX4_set_5 : decode cX4_set 5 = .ok (.iconst 4, 1) := by decide +kernel
theorem dX4_set_6 : decode cX4_set 6 = .ok (.if_icmp .lt 6, 3) := by decide +kernel
theorem dX4_set_9 : decode cX4_set 9 = .ok (.bipush (-2), 2) := by decide +kernel
theorem dX4_set_11 : decode cX4_set 11 = .ok (.ireturn, 1) := by decide +kernel
theorem dX4_set_12 : decode cX4_set 12 = .ok (.iload_n 2, 1) := by decide +kernel
theorem dX4_set_13 : decode cX4_set 13 = .ok (.getstatic 37, 3) := by decide +kernel
theorem dX4_set_16 : decode cX4_set 16 = .ok (.iload_n 1, 1) := by decide +kernel
theorem dX4_set_17 : decode cX4_set 17 = .ok (.iaload, 1) := by decide +kernel
theorem dX4_set_18 : decode cX4_set 18 = .ok (.if_icmp .lt 12, 3) := by decide +kernel
theorem dX4_set_21 : decode cX4_set 21 = .ok (.iload_n 2, 1) := by decide +kernel
theorem dX4_set_22 : decode cX4_set 22 = .ok (.getstatic 41, 3) := by decide +kernel
theorem dX4_set_25 : decode cX4_set 25 = .ok (.iload_n 1, 1) := by decide +kernel
theorem dX4_set_26 : decode cX4_set 26 = .ok (.iaload, 1) := by decide +kernel
theorem dX4_set_27 : decode cX4_set 27 = .ok (.if_icmp .le 6, 3) := by decide +kernel
theorem dX4_set_30 : decode cX4_set 30 = .ok (.bipush (-2), 2) := by decide +kernel
theorem dX4_set_32 : decode cX4_set 32 = .ok (.ireturn, 1) := by decide +kernel
theorem dX4_set_33 : decode cX4_set 33 = .ok (.aload_n 0, 1) := by decide +kernel
theorem dX4_set_34 : decode cX4_set 34 = .ok (.getfield 26, 3) := by decide +kernel
theorem dX4_set_37 : decode cX4_set 37 = .ok (.aload_n 0, 1) := by decide +kernel
theorem dX4_set_38 : decode cX4_set 38 = .ok (.getfield 10, 3) := by decide +kernel
theorem dX4_set_41 : decode cX4_set 41 = .ok (.invokevirtual 44, 3) := by decide +kernel
theorem dX4_set_44 : decode cX4_set 44 = .ok (.aload_n 0, 1) := by decide +kernel
theorem dX4_set_45 : decode cX4_set 45 = .ok (.getfield 10, 3) := by decide +kernel
theorem dX4_set_48 : decode cX4_set 48 = .ok (.getfield 48, 3) := by decide +kernel
theorem dX4_set_51 : decode cX4_set 51 = .ok (.iload_n 1, 1) := by decide +kernel
theorem dX4_set_52 : decode cX4_set 52 = .ok (.iaload, 1) := by decide +kernel
theorem dX4_set_53 : decode cX4_set 53 = .ok (.istore_n 3, 1) := by decide +kernel
theorem dX4_set_54 : decode cX4_set 54 = .ok (.aload_n 0, 1) := by decide +kernel
theorem dX4_set_55 : decode cX4_set 55 = .ok (.getfield 10, 3) := by decide +kernel
theorem dX4_set_58 : decode cX4_set 58 = .ok (.getfield 48, 3) := by decide +kernel
theorem dX4_set_61 : decode cX4_set 61 = .ok (.iload_n 1, 1) := by decide +kernel
theorem dX4_set_62 : decode cX4_set 62 = .ok (.iload_n 2, 1) := by decide +kernel
theorem dX4_set_63 : decode cX4_set 63 = .ok (.iastore, 1) := by decide +kernel
theorem dX4_set_64 : decode cX4_set 64 = .ok (.iload_n 3, 1) := by decide +kernel
theorem dX4_set_65 : decode cX4_set 65 = .ok (.ireturn, 1) := by decide +kernel
set_option maxRecDepth 20000 in
theorem ggX4_brim_X4_isPuddle : GoodIn wsX4_brim wsX4_isPuddle := goodIn_r _ [7] (by decide +kernel) (by decide +kernel)
set_option maxRecDepth 20000 in
theorem gX4_brim_X4_isPuddle : GoodIn wsX4_brim (va_wsS RX4 51 yX4_isPuddle wsX4_isPuddle) := goodIn_app (goodIn_of _ (by decide +kernel)) ggX4_brim_X4_isPuddle
set_option maxRecDepth 20000 in
theorem ggX4_brim_X0_record : GoodIn wsX4_brim wsX0_record := goodIn_r _ [12, 13, 14, 15, 16, 17, 11, 18, 19, 20, 21, 22, 23, 24, 25, 26, 27, 28, 29, 30, 31, 32, 33, 34, 35, 36, 37, 38, 39, 6, 40, 64, 65, 49, 50, 51, 52, 53, 54, 55, 56, 57, 58, 59, 60, 61, 62, 63] (by decide +kernel) (by decide +kernel)
set_option maxRecDepth 20000 in
theorem gX4_brim_X0_record : GoodIn wsX4_brim (wsV RX4 44 RX0 yX0_record wsX0_record) := goodIn_app (goodIn_of _ (by decide +kernel)) ggX4_brim_X0_record
set_option maxRecDepth 20000 in
theorem ggX4_brim_X3_drainDownTo : GoodIn wsX4_brim wsX3_drainDownTo := goodIn_r _ [44, 26, 38, 49, 50, 51, 52, 53, 54, 55, 56, 57, 58, 59, 60, 61, 62, 63] (by decide +kernel) (by decide +kernel)
set_option maxRecDepth 20000 in
theorem gX4_brim_X3_drainDownTo : GoodIn wsX4_brim (wsV RX4 58 RX3 yX3_drainDownTo wsX3_drainDownTo) := goodIn_app (goodIn_of _ (by decide +kernel)) ggX4_brim_X3_drainDownTo
theorem dX4_brim_0 : decode cX4_brim 0 = .ok (.iload_n 1, 1) := by decide +kernel
theorem dX4_brim_1 : decode cX4_brim 1 = .ok (.invokestatic 51, 3) := by decide +kernel
theorem dX4_brim_4 : decode cX4_brim 4 = .ok (.ifCond .ne 5, 3) := by decide +kernel
theorem dX4_brim_7 : decode cX4_brim 7 = .ok (.iconst (-1), 1) := by decide +kernel
theorem dX4_brim_8 : decode cX4_brim 8 = .ok (.ireturn, 1) := by decide +kernel
theorem dX4_brim_9 : decode cX4_brim 9 = .ok (.iload_n 2, 1) := by decide +kernel
theorem dX4_brim_10 : decode cX4_brim 10 = .ok (.iconst 1, 1) := by decide +kernel
theorem dX4_brim_11 : decode cX4_brim 11 = .ok (.if_icmp .lt 9, 3) := by decide +kernel
theorem dX4_brim_14 : decode cX4_brim 14 = .ok (.iload_n 2, 1) := by decide +kernel
theorem dX4_brim_15 : decode cX4_brim 15 = .ok (.bipush 60, 2) := by decide +kernel
theorem dX4_brim_17 : decode cX4_brim 17 = .ok (.if_icmp .le 6, 3) := by decide +kernel
theorem dX4_brim_20 : decode cX4_brim 20 = .ok (.bipush (-2), 2) := by decide +kernel
theorem dX4_brim_22 : decode cX4_brim 22 = .ok (.ireturn, 1) := by decide +kernel
theorem dX4_brim_23 : decode cX4_brim 23 = .ok (.aload_n 0, 1) := by decide +kernel
theorem dX4_brim_24 : decode cX4_brim 24 = .ok (.getfield 26, 3) := by decide +kernel
theorem dX4_brim_27 : decode cX4_brim 27 = .ok (.aload_n 0, 1) := by decide +kernel
theorem dX4_brim_28 : decode cX4_brim 28 = .ok (.getfield 10, 3) := by decide +kernel
theorem dX4_brim_31 : decode cX4_brim 31 = .ok (.invokevirtual 44, 3) := by decide +kernel
theorem dX4_brim_34 : decode cX4_brim 34 = .ok (.aload_n 0, 1) := by decide +kernel
theorem dX4_brim_35 : decode cX4_brim 35 = .ok (.getfield 10, 3) := by decide +kernel
theorem dX4_brim_38 : decode cX4_brim 38 = .ok (.getfield 55, 3) := by decide +kernel
theorem dX4_brim_41 : decode cX4_brim 41 = .ok (.iload_n 1, 1) := by decide +kernel
theorem dX4_brim_42 : decode cX4_brim 42 = .ok (.iaload, 1) := by decide +kernel
theorem dX4_brim_43 : decode cX4_brim 43 = .ok (.istore_n 3, 1) := by decide +kernel
theorem dX4_brim_44 : decode cX4_brim 44 = .ok (.aload_n 0, 1) := by decide +kernel
theorem dX4_brim_45 : decode cX4_brim 45 = .ok (.getfield 10, 3) := by decide +kernel
theorem dX4_brim_48 : decode cX4_brim 48 = .ok (.getfield 55, 3) := by decide +kernel
theorem dX4_brim_51 : decode cX4_brim 51 = .ok (.iload_n 1, 1) := by decide +kernel
theorem dX4_brim_52 : decode cX4_brim 52 = .ok (.iload_n 2, 1) := by decide +kernel
theorem dX4_brim_53 : decode cX4_brim 53 = .ok (.iastore, 1) := by decide +kernel
theorem dX4_brim_54 : decode cX4_brim 54 = .ok (.aload_n 0, 1) := by decide +kernel
theorem dX4_brim_55 : decode cX4_brim 55 = .ok (.getfield 10, 3) := by decide +kernel
theorem dX4_brim_58 : decode cX4_brim 58 = .ok (.iload_n 1, 1) := by decide +kernel
theorem dX4_brim_59 : decode cX4_brim 59 = .ok (.iload_n 2, 1) := by decide +kernel
theorem dX4_brim_60 : decode cX4_brim 60 = .ok (.invokevirtual 58, 3) := by decide +kernel
theorem dX4_brim_63 : decode cX4_brim 63 = .ok (.iload_n 3, 1) := by decide +kernel
theorem dX4_brim_64 : decode cX4_brim 64 = .ok (.ireturn, 1) := by decide +kernel
set_option maxRecDepth 20000 in
theorem ggX4_drain_X4_isPuddle : GoodIn wsX4_drain wsX4_isPuddle := goodIn_r _ [7] (by decide +kernel) (by decide +kernel)
set_option maxRecDepth 20000 in
theorem gX4_drain_X4_isPuddle : GoodIn wsX4_drain (va_wsS RX4 51 yX4_isPuddle wsX4_isPuddle) := goodIn_app (goodIn_of _ (by decide +kernel)) ggX4_drain_X4_isPuddle
set_option maxRecDepth 20000 in
theorem ggX4_drain_X3_hasDucks : GoodIn wsX4_drain wsX3_hasDucks := goodIn_r _ [12, 13, 14, 6, 15, 59, 60, 61, 62, 63, 64, 65, 66, 67, 68, 69, 70, 71, 72, 73] (by decide +kernel) (by decide +kernel)
set_option maxRecDepth 20000 in
theorem gX4_drain_X3_hasDucks : GoodIn wsX4_drain (wsV RX4 62 RX3 yX3_hasDucks wsX3_hasDucks) := goodIn_app (goodIn_of _ (by decide +kernel)) ggX4_drain_X3_hasDucks
set_option maxRecDepth 20000 in
theorem ggX4_drain_X0_record : GoodIn wsX4_drain wsX0_record := goodIn_r _ [20, 21, 22, 23, 24, 25, 19, 26, 27, 28, 29, 11, 30, 31, 32, 33, 34, 35, 36, 37, 38, 39, 40, 13, 41, 42, 43, 44, 45, 6, 46, 74, 75, 59, 60, 61, 62, 63, 64, 65, 66, 67, 68, 69, 70, 71, 72, 73] (by decide +kernel) (by decide +kernel)
set_option maxRecDepth 20000 in
theorem gX4_drain_X0_record : GoodIn wsX4_drain (wsV RX4 44 RX0 yX0_record wsX0_record) := goodIn_app (goodIn_of _ (by decide +kernel)) ggX4_drain_X0_record
set_option maxRecDepth 20000 in
theorem ggX4_drain_X3_drainDownTo : GoodIn wsX4_drain wsX3_drainDownTo := goodIn_r _ [50, 33, 44, 59, 60, 61, 62, 63, 64, 65, 66, 67, 68, 69, 70, 71, 72, 73] (by decide +kernel) (by decide +kernel)
set_option maxRecDepth 20000 in
theorem gX4_drain_X3_drainDownTo : GoodIn wsX4_drain (wsV RX4 58 RX3 yX3_drainDownTo wsX3_drainDownTo) := goodIn_app (goodIn_of _ (by decide +kernel)) ggX4_drain_X3_drainDownTo
set_option maxRecDepth 20000 in
theorem ggX4_drain_X3_thaw : GoodIn wsX4_drain wsX3_thaw := goodIn_r _ [54, 40, 59, 60, 61, 62, 63, 64, 65, 66, 67, 68, 69, 70, 71, 72, 73] (by decide +kernel) (by decide +kernel)
set_option maxRecDepth 20000 in
theorem gX4_drain_X3_thaw : GoodIn wsX4_drain (wsV RX4 68 RX3 yX3_thaw wsX3_thaw) := goodIn_app (goodIn_of _ (by decide +kernel)) ggX4_drain_X3_thaw
theorem dX4_drain_0 : decode cX4_drain 0 = .ok (.iload_n 1, 1) := by decide +kernel
theorem dX4_drain_1 : decode cX4_drain 1 = .ok (.invokestatic 51, 3) := by decide +kernel
theorem dX4_drain_4 : decode cX4_drain 4 = .ok (.ifCond .ne 5, 3) := by decide +kernel
theorem dX4_drain_7 : decode cX4_drain 7 = .ok (.iconst (-1), 1) := by decide +kernel
theorem dX4_drain_8 : decode cX4_drain 8 = .ok (.ireturn, 1) := by decide +kernel
theorem dX4_drain_9 : decode cX4_drain 9 = .ok (.aload_n 0, 1) := by decide +kernel
theorem dX4_drain_10 : decode cX4_drain 10 = .ok (.getfield 10, 3) := by decide +kernel
theorem dX4_drain_13 : decode cX4_drain 13 = .ok (.iload_n 1, 1) := by decide +kernel
theorem dX4_drain_14 : decode cX4_drain 14 = .ok (.invokevirtual 62, 3) := by decide +kernel
theorem dX4_drain_17 : decode cX4_drain 17 = .ok (.ifCond .eq 6, 3) := by decide +kernel
theorem dX4_drain_20 : decode cX4_drain 20 = .ok (.bipush (-5), 2) := by decide +kernel
theorem dX4_drain_22 : decode cX4_drain 22 = .ok (.ireturn, 1) := by decide +kernel
theorem dX4_drain_23 : decode cX4_drain 23 = .ok (.aload_n 0, 1) := by decide +kernel
theorem dX4_drain_24 : decode cX4_drain 24 = .ok (.getfield 26, 3) := by decide +kernel
theorem dX4_drain_27 : decode cX4_drain 27 = .ok (.aload_n 0, 1) := by decide +kernel
theorem dX4_drain_28 : decode cX4_drain 28 = .ok (.getfield 10, 3) := by decide +kernel
theorem dX4_drain_31 : decode cX4_drain 31 = .ok (.invokevirtual 44, 3) := by decide +kernel
theorem dX4_drain_34 : decode cX4_drain 34 = .ok (.aload_n 0, 1) := by decide +kernel
theorem dX4_drain_35 : decode cX4_drain 35 = .ok (.getfield 10, 3) := by decide +kernel
theorem dX4_drain_38 : decode cX4_drain 38 = .ok (.getfield 65, 3) := by decide +kernel
theorem dX4_drain_41 : decode cX4_drain 41 = .ok (.iload_n 1, 1) := by decide +kernel
theorem dX4_drain_42 : decode cX4_drain 42 = .ok (.iaload, 1) := by decide +kernel
theorem dX4_drain_43 : decode cX4_drain 43 = .ok (.istore_n 2, 1) := by decide +kernel
theorem dX4_drain_44 : decode cX4_drain 44 = .ok (.aload_n 0, 1) := by decide +kernel
theorem dX4_drain_45 : decode cX4_drain 45 = .ok (.getfield 10, 3) := by decide +kernel
theorem dX4_drain_48 : decode cX4_drain 48 = .ok (.iload_n 1, 1) := by decide +kernel
theorem dX4_drain_49 : decode cX4_drain 49 = .ok (.iconst 0, 1) := by decide +kernel
theorem dX4_drain_50 : decode cX4_drain 50 = .ok (.invokevirtual 58, 3) := by decide +kernel
theorem dX4_drain_53 : decode cX4_drain 53 = .ok (.aload_n 0, 1) := by decide +kernel
theorem dX4_drain_54 : decode cX4_drain 54 = .ok (.getfield 10, 3) := by decide +kernel
theorem dX4_drain_57 : decode cX4_drain 57 = .ok (.iload_n 1, 1) := by decide +kernel
theorem dX4_drain_58 : decode cX4_drain 58 = .ok (.invokevirtual 68, 3) := by decide +kernel
theorem dX4_drain_61 : decode cX4_drain 61 = .ok (.iload_n 2, 1) := by decide +kernel
theorem dX4_drain_62 : decode cX4_drain 62 = .ok (.ireturn, 1) := by decide +kernel
set_option maxRecDepth 20000 in
theorem ggX4_shoes_X4_isWalker : GoodIn wsX4_shoes wsX4_isWalker := goodIn_r _ [7] (by decide +kernel) (by decide +kernel)
set_option maxRecDepth 20000 in
theorem gX4_shoes_X4_isWalker : GoodIn wsX4_shoes (va_wsS RX4 72 yX4_isWalker wsX4_isWalker) := goodIn_app (goodIn_of _ (by decide +kernel)) ggX4_shoes_X4_isWalker
set_option maxRecDepth 20000 in
theorem ggX4_shoes_X0_record : GoodIn wsX4_shoes wsX0_record := goodIn_r _ [12, 13, 14, 15, 16, 17, 11, 18, 19, 20, 21, 22, 23, 24, 25, 26, 27, 28, 29, 30, 31, 32, 33, 34, 35, 36, 37, 38, 39, 6, 40, 60, 61, 45, 46, 47, 48, 49, 50, 51, 52, 53, 54, 55, 56, 57, 58, 59] (by decide +kernel) (by decide +kernel)
set_option maxRecDepth 20000 in
theorem gX4_shoes_X0_record : GoodIn wsX4_shoes (wsV RX4 44 RX0 yX0_record wsX0_record) := goodIn_app (goodIn_of _ (by decide +kernel)) ggX4_shoes_X0_record
theorem dX4_shoes_0 : decode cX4_shoes 0 = .ok (.iload_n 1, 1) := by decide +kernel
theorem dX4_shoes_1 : decode cX4_shoes 1 = .ok (.invokestatic 72, 3) := by decide +kernel
theorem dX4_shoes_4 : decode cX4_shoes 4 = .ok (.ifCond .ne 5, 3) := by decide +kernel
theorem dX4_shoes_7 : decode cX4_shoes 7 = .ok (.iconst (-1), 1) := by decide +kernel
theorem dX4_shoes_8 : decode cX4_shoes 8 = .ok (.ireturn, 1) := by decide +kernel
theorem dX4_shoes_9 : decode cX4_shoes 9 = .ok (.iload_n 2, 1) := by decide +kernel
theorem dX4_shoes_10 : decode cX4_shoes 10 = .ok (.ifCond .lt 8, 3) := by decide +kernel
theorem dX4_shoes_13 : decode cX4_shoes 13 = .ok (.iload_n 2, 1) := by decide +kernel
theorem dX4_shoes_14 : decode cX4_shoes 14 = .ok (.iconst 3, 1) := by decide +kernel
theorem dX4_shoes_15 : decode cX4_shoes 15 = .ok (.if_icmp .le 6, 3) := by decide +kernel
theorem dX4_shoes_18 : decode cX4_shoes 18 = .ok (.bipush (-2), 2) := by decide +kernel
theorem dX4_shoes_20 : decode cX4_shoes 20 = .ok (.ireturn, 1) := by decide +kernel
theorem dX4_shoes_21 : decode cX4_shoes 21 = .ok (.aload_n 0, 1) := by decide +kernel
theorem dX4_shoes_22 : decode cX4_shoes 22 = .ok (.getfield 26, 3) := by decide +kernel
theorem dX4_shoes_25 : decode cX4_shoes 25 = .ok (.aload_n 0, 1) := by decide +kernel
theorem dX4_shoes_26 : decode cX4_shoes 26 = .ok (.getfield 10, 3) := by decide +kernel
theorem dX4_shoes_29 : decode cX4_shoes 29 = .ok (.invokevirtual 44, 3) := by decide +kernel
theorem dX4_shoes_32 : decode cX4_shoes 32 = .ok (.aload_n 0, 1) := by decide +kernel
theorem dX4_shoes_33 : decode cX4_shoes 33 = .ok (.getfield 10, 3) := by decide +kernel
theorem dX4_shoes_36 : decode cX4_shoes 36 = .ok (.getfield 75, 3) := by decide +kernel
theorem dX4_shoes_39 : decode cX4_shoes 39 = .ok (.iload_n 1, 1) := by decide +kernel
theorem dX4_shoes_40 : decode cX4_shoes 40 = .ok (.iaload, 1) := by decide +kernel
theorem dX4_shoes_41 : decode cX4_shoes 41 = .ok (.istore_n 3, 1) := by decide +kernel
theorem dX4_shoes_42 : decode cX4_shoes 42 = .ok (.aload_n 0, 1) := by decide +kernel
theorem dX4_shoes_43 : decode cX4_shoes 43 = .ok (.getfield 10, 3) := by decide +kernel
theorem dX4_shoes_46 : decode cX4_shoes 46 = .ok (.getfield 75, 3) := by decide +kernel
theorem dX4_shoes_49 : decode cX4_shoes 49 = .ok (.iload_n 1, 1) := by decide +kernel
theorem dX4_shoes_50 : decode cX4_shoes 50 = .ok (.iload_n 2, 1) := by decide +kernel
theorem dX4_shoes_51 : decode cX4_shoes 51 = .ok (.iastore, 1) := by decide +kernel
theorem dX4_shoes_52 : decode cX4_shoes 52 = .ok (.iload_n 3, 1) := by decide +kernel
theorem dX4_shoes_53 : decode cX4_shoes 53 = .ok (.ireturn, 1) := by decide +kernel
set_option maxRecDepth 20000 in
theorem ggX4_permit_X4_isWalker : GoodIn wsX4_permit wsX4_isWalker := goodIn_r _ [8] (by decide +kernel) (by decide +kernel)
set_option maxRecDepth 20000 in
theorem gX4_permit_X4_isWalker : GoodIn wsX4_permit (va_wsS RX4 72 yX4_isWalker wsX4_isWalker) := goodIn_app (goodIn_of _ (by decide +kernel)) ggX4_permit_X4_isWalker
set_option maxRecDepth 20000 in
theorem ggX4_permit_X4_isPuddle : GoodIn wsX4_permit wsX4_isPuddle := goodIn_r _ [11] (by decide +kernel) (by decide +kernel)
set_option maxRecDepth 20000 in
theorem gX4_permit_X4_isPuddle : GoodIn wsX4_permit (va_wsS RX4 51 yX4_isPuddle wsX4_isPuddle) := goodIn_app (goodIn_of _ (by decide +kernel)) ggX4_permit_X4_isPuddle
set_option maxRecDepth 20000 in
theorem ggX4_permit_X3_hasDucks : GoodIn wsX4_permit wsX3_hasDucks := goodIn_r _ [16, 17, 18, 7, 19, 73, 74, 75, 76, 77, 78, 79, 80, 81, 82, 83, 84, 85, 86, 87] (by decide +kernel) (by decide +kernel)
set_option maxRecDepth 20000 in
theorem gX4_permit_X3_hasDucks : GoodIn wsX4_permit (wsV RX4 62 RX3 yX3_hasDucks wsX3_hasDucks) := goodIn_app (goodIn_of _ (by decide +kernel)) ggX4_permit_X3_hasDucks
set_option maxRecDepth 20000 in
theorem ggX4_permit_X0_record : GoodIn wsX4_permit wsX0_record := goodIn_r _ [24, 25, 26, 27, 28, 29, 23, 30, 31, 32, 33, 15, 34, 35, 36, 37, 38, 39, 40, 41, 42, 43, 44, 17, 45, 46, 47, 48, 49, 7, 50, 88, 89, 73, 74, 75, 76, 77, 78, 79, 80, 81, 82, 83, 84, 85, 86, 87] (by decide +kernel) (by decide +kernel)
set_option maxRecDepth 20000 in
theorem gX4_permit_X0_record : GoodIn wsX4_permit (wsV RX4 44 RX0 yX0_record wsX0_record) := goodIn_app (goodIn_of _ (by decide +kernel)) ggX4_permit_X0_record
set_option maxRecDepth 20000 in
theorem ggX4_permit_X4_placeOf : GoodIn wsX4_permit wsX4_placeOf := goodIn_r _ [53] (by decide +kernel) (by decide +kernel)
set_option maxRecDepth 20000 in
theorem gX4_permit_X4_placeOf : GoodIn wsX4_permit (va_wsS RX4 81 yX4_placeOf wsX4_placeOf) := goodIn_app (goodIn_of _ (by decide +kernel)) ggX4_permit_X4_placeOf
set_option maxRecDepth 20000 in
theorem ggX4_permit_X3_permitsOf : GoodIn wsX4_permit wsX3_permitsOf := goodIn_r _ [57, 58, 59, 60, 15, 61, 43, 52, 7, 53, 73, 74, 75, 76, 77, 78, 79, 80, 81, 82, 83, 84, 85, 86, 87] (by decide +kernel) (by decide +kernel)
set_option maxRecDepth 20000 in
theorem gX4_permit_X3_permitsOf : GoodIn wsX4_permit (wsV RX4 85 RX3 yX3_permitsOf wsX3_permitsOf) := goodIn_app (goodIn_of _ (by decide +kernel)) ggX4_permit_X3_permitsOf
set_option maxRecDepth 20000 in
theorem ggX4_permit_J6_bitCount_0f7a4 : GoodIn wsX4_permit wsJ6_bitCount_0f7a4 := goodIn_r _ [65, 66, 67, 68] (by decide +kernel) (by decide +kernel)
set_option maxRecDepth 20000 in
theorem gX4_permit_J6_bitCount_0f7a4 : GoodIn wsX4_permit (va_wsS RX4 89 yJ6_bitCount_0f7a4 wsJ6_bitCount_0f7a4) := goodIn_app (goodIn_of _ (by decide +kernel)) ggX4_permit_J6_bitCount_0f7a4
theorem dX4_permit_0 : decode cX4_permit 0 = .ok (.iload_n 1, 1) := by decide +kernel
theorem dX4_permit_1 : decode cX4_permit 1 = .ok (.invokestatic 72, 3) := by decide +kernel
theorem dX4_permit_4 : decode cX4_permit 4 = .ok (.ifCond .eq 10, 3) := by decide +kernel
theorem dX4_permit_7 : decode cX4_permit 7 = .ok (.iload_n 2, 1) := by decide +kernel
theorem dX4_permit_8 : decode cX4_permit 8 = .ok (.invokestatic 51, 3) := by decide +kernel
theorem dX4_permit_11 : decode cX4_permit 11 = .ok (.ifCond .ne 5, 3) := by decide +kernel
theorem dX4_permit_14 : decode cX4_permit 14 = .ok (.iconst (-1), 1) := by decide +kernel
theorem dX4_permit_15 : decode cX4_permit 15 = .ok (.ireturn, 1) := by decide +kernel
theorem dX4_permit_16 : decode cX4_permit 16 = .ok (.aload_n 0, 1) := by decide +kernel
theorem dX4_permit_17 : decode cX4_permit 17 = .ok (.getfield 10, 3) := by decide +kernel
theorem dX4_permit_20 : decode cX4_permit 20 = .ok (.iload_n 2, 1) := by decide +kernel
theorem dX4_permit_21 : decode cX4_permit 21 = .ok (.invokevirtual 62, 3) := by decide +kernel
theorem dX4_permit_24 : decode cX4_permit 24 = .ok (.ifCond .eq 6, 3) := by decide +kernel
theorem dX4_permit_27 : decode cX4_permit 27 = .ok (.bipush (-5), 2) := by decide +kernel
theorem dX4_permit_29 : decode cX4_permit 29 = .ok (.ireturn, 1) := by decide +kernel
theorem dX4_permit_30 : decode cX4_permit 30 = .ok (.aload_n 0, 1) := by decide +kernel
theorem dX4_permit_31 : decode cX4_permit 31 = .ok (.getfield 26, 3) := by decide +kernel
theorem dX4_permit_34 : decode cX4_permit 34 = .ok (.aload_n 0, 1) := by decide +kernel
theorem dX4_permit_35 : decode cX4_permit 35 = .ok (.getfield 10, 3) := by decide +kernel
theorem dX4_permit_38 : decode cX4_permit 38 = .ok (.invokevirtual 44, 3) := by decide +kernel
theorem dX4_permit_41 : decode cX4_permit 41 = .ok (.aload_n 0, 1) := by decide +kernel
theorem dX4_permit_42 : decode cX4_permit 42 = .ok (.getfield 10, 3) := by decide +kernel
theorem dX4_permit_45 : decode cX4_permit 45 = .ok (.getfield 78, 3) := by decide +kernel
theorem dX4_permit_48 : decode cX4_permit 48 = .ok (.iload_n 1, 1) := by decide +kernel
theorem dX4_permit_49 : decode cX4_permit 49 = .ok (.iload_n 2, 1) := by decide +kernel
theorem dX4_permit_50 : decode cX4_permit 50 = .ok (.invokestatic 81, 3) := by decide +kernel
theorem dX4_permit_53 : decode cX4_permit 53 = .ok (.aload_n 0, 1) := by decide +kernel
theorem dX4_permit_54 : decode cX4_permit 54 = .ok (.getfield 10, 3) := by decide +kernel
theorem dX4_permit_57 : decode cX4_permit 57 = .ok (.getfield 48, 3) := by decide +kernel
theorem dX4_permit_60 : decode cX4_permit 60 = .ok (.iconst 3, 1) := by decide +kernel
theorem dX4_permit_61 : decode cX4_permit 61 = .ok (.iaload, 1) := by decide +kernel
theorem dX4_permit_62 : decode cX4_permit 62 = .ok (.iastore, 1) := by decide +kernel
theorem dX4_permit_63 : decode cX4_permit 63 = .ok (.aload_n 0, 1) := by decide +kernel
theorem dX4_permit_64 : decode cX4_permit 64 = .ok (.getfield 10, 3) := by decide +kernel
theorem dX4_permit_67 : decode cX4_permit 67 = .ok (.iload_n 1, 1) := by decide +kernel
theorem dX4_permit_68 : decode cX4_permit 68 = .ok (.invokevirtual 85, 3) := by decide +kernel
theorem dX4_permit_71 : decode cX4_permit 71 = .ok (.invokestatic 89, 3) := by decide +kernel
theorem dX4_permit_74 : decode cX4_permit 74 = .ok (.ireturn, 1) := by decide +kernel
set_option maxRecDepth 20000 in
theorem ggX4_walk_X4_isWalker : GoodIn wsX4_walk wsX4_isWalker := goodIn_r _ [6] (by decide +kernel) (by decide +kernel)
set_option maxRecDepth 20000 in
theorem gX4_walk_X4_isWalker : GoodIn wsX4_walk (va_wsS RX4 72 yX4_isWalker wsX4_isWalker) := goodIn_app (goodIn_of _ (by decide +kernel)) ggX4_walk_X4_isWalker
set_option maxRecDepth 20000 in
theorem ggX4_walk_X4_isPuddle : GoodIn wsX4_walk wsX4_isPuddle := goodIn_r _ [9] (by decide +kernel) (by decide +kernel)
set_option maxRecDepth 20000 in
theorem gX4_walk_X4_isPuddle : GoodIn wsX4_walk (va_wsS RX4 51 yX4_isPuddle wsX4_isPuddle) := goodIn_app (goodIn_of _ (by decide +kernel)) ggX4_walk_X4_isPuddle
set_option maxRecDepth 20000 in
theorem ggX4_walk_X0_record : GoodIn wsX4_walk wsX0_record := goodIn_r _ [14, 15, 16, 17, 18, 19, 13, 20, 21, 22, 23, 24, 25, 26, 27, 28, 29, 30, 31, 32, 33, 34, 35, 36, 37, 38, 39, 40, 41, 5, 42, 97, 98, 99, 100, 101, 102, 103, 104, 105, 106, 107, 108, 109, 110, 111, 112, 113] (by decide +kernel) (by decide +kernel)
set_option maxRecDepth 20000 in
theorem gX4_walk_X0_record : GoodIn wsX4_walk (wsV RX4 44 RX0 yX0_record wsX0_record) := goodIn_app (goodIn_of _ (by decide +kernel)) ggX4_walk_X0_record
set_option maxRecDepth 20000 in
theorem ggX4_walk_X3_stepsUntilBlocked : GoodIn wsX4_walk wsX3_stepsUntilBlocked := goodIn_r _ [46, 47, 48, 49, 50, 51, 5, 52, 53, 54, 55, 24, 56, 30, 57, 58, 59, 60, 61, 62, 63, 64, 36, 65, 66, 67, 68, 69, 70, 34, 71, 72, 73, 74, 75, 76, 28, 77, 78, 79, 80, 35, 81, 82, 83, 99, 100, 101, 102, 103, 104, 105, 106, 107, 108, 109, 110, 111, 112, 113] (by decide +kernel) (by decide +kernel)
set_option maxRecDepth 20000 in
theorem gX4_walk_X3_stepsUntilBlocked : GoodIn wsX4_walk (wsV RX4 94 RX3 yX3_stepsUntilBlocked wsX3_stepsUntilBlocked) := goodIn_app (goodIn_of _ (by decide +kernel)) ggX4_walk_X3_stepsUntilBlocked
set_option maxRecDepth 20000 in
theorem ggX4_walk_X4_placeAfter : GoodIn wsX4_walk wsX4_placeAfter := goodIn_r _ [52] (by decide +kernel) (by decide +kernel)
set_option maxRecDepth 20000 in
theorem gX4_walk_X4_placeAfter : GoodIn wsX4_walk (va_wsS RX4 98 yX4_placeAfter wsX4_placeAfter) := goodIn_app (goodIn_of _ (by decide +kernel)) ggX4_walk_X4_placeAfter
set_option maxRecDepth 20000 in
theorem ggX4_walk_X3_cross : GoodIn wsX4_walk wsX3_cross := goodIn_r _ [88, 31, 33, 29, 89, 90, 91, 24, 92, 26, 77, 78, 79, 80, 35, 65, 5, 66, 73, 74, 75, 76, 28, 99, 100, 101, 102, 103, 104, 105, 106, 107, 108, 109, 110, 111, 112, 113] (by decide +kernel) (by decide +kernel)
set_option maxRecDepth 20000 in
theorem gX4_walk_X3_cross : GoodIn wsX4_walk (wsV RX4 101 RX3 yX3_cross wsX3_cross) := goodIn_app (goodIn_of _ (by decide +kernel)) ggX4_walk_X3_cross
theorem dX4_walk_0 : decode cX4_walk 0 = .ok (.iload_n 1, 1) := by decide +kernel
theorem dX4_walk_1 : decode cX4_walk 1 = .ok (.invokestatic 72, 3) := by decide +kernel
theorem dX4_walk_4 : decode cX4_walk 4 = .ok (.ifCond .eq 17, 3) := by decide +kernel
theorem dX4_walk_7 : decode cX4_walk 7 = .ok (.iload_n 2, 1) := by decide +kernel
theorem dX4_walk_8 : decode cX4_walk 8 = .ok (.invokestatic 51, 3) := by decide +kernel
theorem dX4_walk_11 : decode cX4_walk 11 = .ok (.ifCond .eq 10, 3) := by decide +kernel
theorem dX4_walk_14 : decode cX4_walk 14 = .ok (.iload_n 3, 1) := by decide +kernel
theorem dX4_walk_15 : decode cX4_walk 15 = .ok (.invokestatic 51, 3) := by decide +kernel
theorem dX4_walk_18 : decode cX4_walk 18 = .ok (.ifCond .ne 5, 3) := by decide +kernel
theorem dX4_walk_21 : decode cX4_walk 21 = .ok (.iconst (-1), 1) := by decide +kernel
theorem dX4_walk_22 : decode cX4_walk 22 = .ok (.ireturn, 1) := by decide +kernel
theorem dX4_walk_23 : decode cX4_walk 23 = .ok (.aload_n 0, 1) := by decide +kernel
theorem dX4_walk_24 : decode cX4_walk 24 = .ok (.getfield 26, 3) := by decide +kernel
theorem dX4_walk_27 : decode cX4_walk 27 = .ok (.aload_n 0, 1) := by decide +kernel
theorem dX4_walk_28 : decode cX4_walk 28 = .ok (.getfield 10, 3) := by decide +kernel
theorem dX4_walk_31 : decode cX4_walk 31 = .ok (.invokevirtual 44, 3) := by decide +kernel
theorem dX4_walk_34 : decode cX4_walk 34 = .ok (.aload_n 0, 1) := by decide +kernel
theorem dX4_walk_35 : decode cX4_walk 35 = .ok (.getfield 10, 3) := by decide +kernel
theorem dX4_walk_38 : decode cX4_walk 38 = .ok (.iload_n 1, 1) := by decide +kernel
theorem dX4_walk_39 : decode cX4_walk 39 = .ok (.iload_n 2, 1) := by decide +kernel
theorem dX4_walk_40 : decode cX4_walk 40 = .ok (.iload_n 3, 1) := by decide +kernel
theorem dX4_walk_41 : decode cX4_walk 41 = .ok (.invokevirtual 94, 3) := by decide +kernel
theorem dX4_walk_44 : decode cX4_walk 44 = .ok (.istore 4, 2) := by decide +kernel
theorem dX4_walk_46 : decode cX4_walk 46 = .ok (.iconst 0, 1) := by decide +kernel
theorem dX4_walk_47 : decode cX4_walk 47 = .ok (.istore 5, 2) := by decide +kernel
theorem dX4_walk_49 : decode cX4_walk 49 = .ok (.iload 5, 2) := by decide +kernel
theorem dX4_walk_51 : decode cX4_walk 51 = .ok (.iload 4, 2) := by decide +kernel
theorem dX4_walk_53 : decode cX4_walk 53 = .ok (.if_icmp .ge 24, 3) := by decide +kernel
theorem dX4_walk_56 : decode cX4_walk 56 = .ok (.aload_n 0, 1) := by decide +kernel
theorem dX4_walk_57 : decode cX4_walk 57 = .ok (.getfield 10, 3) := by decide +kernel
theorem dX4_walk_60 : decode cX4_walk 60 = .ok (.iload_n 1, 1) := by decide +kernel
theorem dX4_walk_61 : decode cX4_walk 61 = .ok (.iload 5, 2) := by decide +kernel
theorem dX4_walk_63 : decode cX4_walk 63 = .ok (.iload_n 2, 1) := by decide +kernel
theorem dX4_walk_64 : decode cX4_walk 64 = .ok (.iload_n 3, 1) := by decide +kernel
theorem dX4_walk_65 : decode cX4_walk 65 = .ok (.invokestatic 98, 3) := by decide +kernel
theorem dX4_walk_68 : decode cX4_walk 68 = .ok (.invokevirtual 101, 3) := by decide +kernel
theorem dX4_walk_71 : decode cX4_walk 71 = .ok (.iinc 5 1, 3) := by decide +kernel
theorem dX4_walk_74 : decode cX4_walk 74 = .ok (.goto (-25), 3) := by decide +kernel
theorem dX4_walk_77 : decode cX4_walk 77 = .ok (.iload 4, 2) := by decide +kernel
theorem dX4_walk_79 : decode cX4_walk 79 = .ok (.ireturn, 1) := by decide +kernel
set_option maxRecDepth 20000 in
theorem ggX4_pay_X4_isWalker : GoodIn wsX4_pay wsX4_isWalker := goodIn_r _ [8] (by decide +kernel) (by decide +kernel)
set_option maxRecDepth 20000 in
theorem gX4_pay_X4_isWalker : GoodIn wsX4_pay (va_wsS RX4 72 yX4_isWalker wsX4_isWalker) := goodIn_app (goodIn_of _ (by decide +kernel)) ggX4_pay_X4_isWalker
set_option maxRecDepth 20000 in
theorem ggX4_pay_X0_record : GoodIn wsX4_pay wsX0_record := goodIn_r _ [13, 14, 15, 16, 17, 18, 12, 19, 20, 21, 22, 23, 24, 25, 26, 27, 28, 29, 30, 31, 32, 33, 34, 35, 36, 37, 38, 39, 40, 7, 41, 61, 62, 46, 47, 48, 49, 50, 51, 52, 53, 54, 55, 56, 57, 58, 59, 60] (by decide +kernel) (by decide +kernel)
set_option maxRecDepth 20000 in
theorem gX4_pay_X0_record : GoodIn wsX4_pay (wsV RX4 44 RX0 yX0_record wsX0_record) := goodIn_app (goodIn_of _ (by decide +kernel)) ggX4_pay_X0_record
theorem dX4_pay_0 : decode cX4_pay 0 = .ok (.iload_n 1, 1) := by decide +kernel
theorem dX4_pay_1 : decode cX4_pay 1 = .ok (.invokestatic 72, 3) := by decide +kernel
theorem dX4_pay_4 : decode cX4_pay 4 = .ok (.ifCond .ne 5, 3) := by decide +kernel
theorem dX4_pay_7 : decode cX4_pay 7 = .ok (.iconst (-1), 1) := by decide +kernel
theorem dX4_pay_8 : decode cX4_pay 8 = .ok (.ireturn, 1) := by decide +kernel
theorem dX4_pay_9 : decode cX4_pay 9 = .ok (.aload_n 0, 1) := by decide +kernel
theorem dX4_pay_10 : decode cX4_pay 10 = .ok (.getfield 26, 3) := by decide +kernel
theorem dX4_pay_13 : decode cX4_pay 13 = .ok (.aload_n 0, 1) := by decide +kernel
theorem dX4_pay_14 : decode cX4_pay 14 = .ok (.getfield 10, 3) := by decide +kernel
theorem dX4_pay_17 : decode cX4_pay 17 = .ok (.invokevirtual 44, 3) := by decide +kernel
theorem dX4_pay_20 : decode cX4_pay 20 = .ok (.aload_n 0, 1) := by decide +kernel
theorem dX4_pay_21 : decode cX4_pay 21 = .ok (.getfield 10, 3) := by decide +kernel
theorem dX4_pay_24 : decode cX4_pay 24 = .ok (.getfield 104, 3) := by decide +kernel
theorem dX4_pay_27 : decode cX4_pay 27 = .ok (.iload_n 1, 1) := by decide +kernel
theorem dX4_pay_28 : decode cX4_pay 28 = .ok (.iaload, 1) := by decide +kernel
theorem dX4_pay_29 : decode cX4_pay 29 = .ok (.istore_n 2, 1) := by decide +kernel
theorem dX4_pay_30 : decode cX4_pay 30 = .ok (.aload_n 0, 1) := by decide +kernel
theorem dX4_pay_31 : decode cX4_pay 31 = .ok (.getfield 10, 3) := by decide +kernel
theorem dX4_pay_34 : decode cX4_pay 34 = .ok (.getfield 104, 3) := by decide +kernel
theorem dX4_pay_37 : decode cX4_pay 37 = .ok (.iload_n 1, 1) := by decide +kernel
theorem dX4_pay_38 : decode cX4_pay 38 = .ok (.iconst 0, 1) := by decide +kernel
theorem dX4_pay_39 : decode cX4_pay 39 = .ok (.iastore, 1) := by decide +kernel
theorem dX4_pay_40 : decode cX4_pay 40 = .ok (.aload_n 0, 1) := by decide +kernel
theorem dX4_pay_41 : decode cX4_pay 41 = .ok (.getfield 10, 3) := by decide +kernel
theorem dX4_pay_44 : decode cX4_pay 44 = .ok (.getfield 107, 3) := by decide +kernel
theorem dX4_pay_47 : decode cX4_pay 47 = .ok (.iload_n 1, 1) := by decide +kernel
theorem dX4_pay_48 : decode cX4_pay 48 = .ok (.dup2, 1) := by decide +kernel
theorem dX4_pay_49 : decode cX4_pay 49 = .ok (.iaload, 1) := by decide +kernel
theorem dX4_pay_50 : decode cX4_pay 50 = .ok (.iload_n 2, 1) := by decide +kernel
theorem dX4_pay_51 : decode cX4_pay 51 = .ok (.iadd, 1) := by decide +kernel
theorem dX4_pay_52 : decode cX4_pay 52 = .ok (.iastore, 1) := by decide +kernel
theorem dX4_pay_53 : decode cX4_pay 53 = .ok (.iload_n 2, 1) := by decide +kernel
theorem dX4_pay_54 : decode cX4_pay 54 = .ok (.ireturn, 1) := by decide +kernel
set_option maxRecDepth 20000 in
theorem ggX4_pass_X0_record : GoodIn wsX4_pass wsX0_record := goodIn_r _ [9, 10, 11, 12, 13, 14, 8, 15, 16, 17, 18, 19, 20, 21, 22, 23, 24, 25, 26, 27, 28, 29, 30, 31, 32, 33, 34, 35, 36, 37, 38, 101, 102, 86, 87, 88, 89, 90, 91, 92, 93, 94, 95, 96, 97, 98, 99, 100] (by decide +kernel) (by decide +kernel)
set_option maxRecDepth 20000 in
theorem gX4_pass_X0_record : GoodIn wsX4_pass (wsV RX4 44 RX0 yX0_record wsX0_record) := goodIn_app (goodIn_of _ (by decide +kernel)) ggX4_pass_X0_record
set_option maxRecDepth 20000 in
theorem ggX4_pass_X3_letPass : GoodIn wsX4_pass wsX3_letPass := goodIn_r _ [42, 43, 44, 45, 19, 46, 23, 21, 47, 48, 49, 50, 34, 30, 51, 52, 53, 54, 55, 37, 56, 57, 58, 59, 60, 61, 62, 63, 64, 65, 66, 67, 68, 31, 32, 69, 70, 71, 72, 29, 73, 74, 75, 76, 77, 78, 35, 33, 22, 86, 87, 88, 89, 90, 91, 92, 93, 94, 95, 96, 97, 98, 99, 100] (by decide +kernel) (by decide +kernel)
set_option maxRecDepth 20000 in
theorem gX4_pass_X3_letPass : GoodIn wsX4_pass (wsV RX4 114 RX3 yX3_letPass wsX3_letPass) := goodIn_app (goodIn_of _ (by decide +kernel)) ggX4_pass_X3_letPass
set_option maxRecDepth 20000 in
theorem ggX4_pass_X4_sum : GoodIn wsX4_pass wsX4_sum := goodIn_r _ [81] (by decide +kernel) (by decide +kernel)
set_option maxRecDepth 20000 in
theorem gX4_pass_X4_sum : GoodIn wsX4_pass (va_wsS RX4 117 yX4_sum wsX4_sum) := goodIn_app (goodIn_of _ (by decide +kernel)) ggX4_pass_X4_sum
theorem dX4_pass_0 : decode cX4_pass 0 = .ok (.iload_n 1, 1) := by decide +kernel
theorem dX4_pass_1 : decode cX4_pass 1 = .ok (.ifCond .lt 9, 3) := by decide +kernel
theorem dX4_pass_4 : decode cX4_pass 4 = .ok (.iload_n 1, 1) := by decide +kernel
theorem dX4_pass_5 : decode cX4_pass 5 = .ok (.bipush 11, 2) := by decide +kernel
theorem dX4_pass_7 : decode cX4_pass 7 = .ok (.if_icmp .le 6, 3) := by decide +kernel
theorem dX4_pass_10 : decode cX4_pass 10 = .ok (.bipush (-2), 2) := by decide +kernel
theorem dX4_pass_12 : decode cX4_pass 12 = .ok (.ireturn, 1) := by decide +kernel
theorem dX4_pass_13 : decode cX4_pass 13 = .ok (.iload_n 1, 1) := by decide +kernel
theorem dX4_pass_14 : decode cX4_pass 14 = .ok (.bipush 11, 2) := by decide +kernel
theorem dX4_pass_16 : decode cX4_pass 16 = .ok (.if_icmp .ne 19, 3) := by decide +kernel
theorem dX4_pass_19 : decode cX4_pass 19 = .ok (.aload_n 0, 1) := by decide +kernel
theorem dX4_pass_20 : decode cX4_pass 20 = .ok (.getfield 10, 3) := by decide +kernel
theorem dX4_pass_23 : decode cX4_pass 23 = .ok (.getfield 110, 3) := by decide +kernel
theorem dX4_pass_26 : decode cX4_pass 26 = .ok (.sipush 9999, 3) := by decide +kernel
theorem dX4_pass_29 : decode cX4_pass 29 = .ok (.if_icmp .lt 6, 3) := by decide +kernel
theorem dX4_pass_32 : decode cX4_pass 32 = .ok (.bipush (-4), 2) := by decide +kernel
theorem dX4_pass_34 : decode cX4_pass 34 = .ok (.ireturn, 1) := by decide +kernel
theorem dX4_pass_35 : decode cX4_pass 35 = .ok (.aload_n 0, 1) := by decide +kernel
theorem dX4_pass_36 : decode cX4_pass 36 = .ok (.getfield 26, 3) := by decide +kernel
theorem dX4_pass_39 : decode cX4_pass 39 = .ok (.aload_n 0, 1) := by decide +kernel
theorem dX4_pass_40 : decode cX4_pass 40 = .ok (.getfield 10, 3) := by decide +kernel
theorem dX4_pass_43 : decode cX4_pass 43 = .ok (.invokevirtual 44, 3) := by decide +kernel
theorem dX4_pass_46 : decode cX4_pass 46 = .ok (.aload_n 0, 1) := by decide +kernel
theorem dX4_pass_47 : decode cX4_pass 47 = .ok (.getfield 10, 3) := by decide +kernel
theorem dX4_pass_50 : decode cX4_pass 50 = .ok (.iload_n 1, 1) := by decide +kernel
theorem dX4_pass_51 : decode cX4_pass 51 = .ok (.invokevirtual 114, 3) := by decide +kernel
theorem dX4_pass_54 : decode cX4_pass 54 = .ok (.aload_n 0, 1) := by decide +kernel
theorem dX4_pass_55 : decode cX4_pass 55 = .ok (.getfield 10, 3) := by decide +kernel
theorem dX4_pass_58 : decode cX4_pass 58 = .ok (.getfield 65, 3) := by decide +kernel
theorem dX4_pass_61 : decode cX4_pass 61 = .ok (.invokestatic 117, 3) := by decide +kernel
theorem dX4_pass_64 : decode cX4_pass 64 = .ok (.ireturn, 1) := by decide +kernel
set_option maxRecDepth 20000 in
theorem ggX4_read_X1_findFault : GoodIn wsX4_read wsX1_findFault := goodIn_r _ [11, 12, 13, 14, 15, 10, 16, 17, 18, 19, 125, 126] (by decide +kernel) (by decide +kernel)
set_option maxRecDepth 20000 in
theorem gX4_read_X1_findFault : GoodIn wsX4_read (wsV RX4 121 RX1 yX1_findFault wsX1_findFault) := goodIn_app (goodIn_of _ (by decide +kernel)) ggX4_read_X1_findFault
set_option maxRecDepth 20000 in
theorem ggX4_read_X1_daysTold : GoodIn wsX4_read wsX1_daysTold := goodIn_r _ [23, 12, 24, 25, 26, 10, 27, 13, 14, 15, 16, 125, 126] (by decide +kernel) (by decide +kernel)
set_option maxRecDepth 20000 in
theorem gX4_read_X1_daysTold : GoodIn wsX4_read (wsV RX4 125 RX1 yX1_daysTold wsX1_daysTold) := goodIn_app (goodIn_of _ (by decide +kernel)) ggX4_read_X1_daysTold
set_option maxRecDepth 20000 in
theorem ggX4_read_X0_record : GoodIn wsX4_read wsX0_record := goodIn_r _ [32, 33, 34, 35, 36, 37, 31, 38, 39, 40, 41, 42, 43, 44, 45, 46, 47, 48, 49, 50, 51, 52, 53, 54, 55, 56, 57, 58, 59, 60, 61, 127, 128, 110, 111, 112, 113, 114, 115, 116, 117, 118, 119, 120, 121, 122, 123, 124] (by decide +kernel) (by decide +kernel)
set_option maxRecDepth 20000 in
theorem gX4_read_X0_record : GoodIn wsX4_read (wsV RX4 44 RX0 yX0_record wsX0_record) := goodIn_app (goodIn_of _ (by decide +kernel)) ggX4_read_X0_record
set_option maxRecDepth 20000 in
theorem ggX4_read_X1_weatherAt : GoodIn wsX4_read wsX1_weatherAt := goodIn_r _ [27, 13, 14, 15, 10, 16, 125, 126] (by decide +kernel) (by decide +kernel)
set_option maxRecDepth 20000 in
theorem gX4_read_X1_weatherAt : GoodIn wsX4_read (wsV RX4 131 RX1 yX1_weatherAt wsX1_weatherAt) := goodIn_app (goodIn_of _ (by decide +kernel)) ggX4_read_X1_weatherAt
set_option maxRecDepth 20000 in
theorem ggX4_read_X3_letPass : GoodIn wsX4_read wsX3_letPass := goodIn_r _ [66, 67, 68, 69, 42, 70, 46, 44, 71, 72, 73, 74, 57, 53, 75, 76, 77, 78, 79, 60, 80, 81, 82, 83, 84, 85, 86, 87, 88, 89, 90, 91, 92, 54, 55, 93, 94, 95, 96, 52, 97, 98, 99, 100, 101, 102, 58, 56, 45, 110, 111, 112, 113, 114, 115, 116, 117, 118, 119, 120, 121, 122, 123, 124] (by decide +kernel) (by decide +kernel)
set_option maxRecDepth 20000 in
theorem gX4_read_X3_letPass : GoodIn wsX4_read (wsV RX4 114 RX3 yX3_letPass wsX3_letPass) := goodIn_app (goodIn_of _ (by decide +kernel)) ggX4_read_X3_letPass
set_option maxRecDepth 20000 in
theorem ggX4_read_X4_sum : GoodIn wsX4_read wsX4_sum := goodIn_r _ [105] (by decide +kernel) (by decide +kernel)
set_option maxRecDepth 20000 in
theorem gX4_read_X4_sum : GoodIn wsX4_read (va_wsS RX4 117 yX4_sum wsX4_sum) := goodIn_app (goodIn_of _ (by decide +kernel)) ggX4_read_X4_sum
theorem dX4_read_0 : decode cX4_read 0 = .ok (.aload_n 0, 1) := by decide +kernel
theorem dX4_read_1 : decode cX4_read 1 = .ok (.getfield 19, 3) := by decide +kernel
theorem dX4_read_4 : decode cX4_read 4 = .ok (.invokevirtual 121, 3) := by decide +kernel
theorem dX4_read_7 : decode cX4_read 7 = .ok (.bipush (-6), 2) := by decide +kernel
theorem dX4_read_9 : decode cX4_read 9 = .ok (.if_icmp .eq 6, 3) := by decide +kernel
theorem dX4_read_12 : decode cX4_read 12 = .ok (.bipush (-3), 2) := by decide +kernel
theorem dX4_read_14 : decode cX4_read 14 = .ok (.ireturn, 1) := by decide +kernel
theorem dX4_read_15 : decode cX4_read 15 = .ok (.aload_n 0, 1) := by decide +kernel
theorem dX4_read_16 : decode cX4_read 16 = .ok (.getfield 10, 3) := by decide +kernel
theorem dX4_read_19 : decode cX4_read 19 = .ok (.getfield 110, 3) := by decide +kernel
theorem dX4_read_22 : decode cX4_read 22 = .ok (.aload_n 0, 1) := by decide +kernel
theorem dX4_read_23 : decode cX4_read 23 = .ok (.getfield 19, 3) := by decide +kernel
theorem dX4_read_26 : decode cX4_read 26 = .ok (.invokevirtual 125, 3) := by decide +kernel
theorem dX4_read_29 : decode cX4_read 29 = .ok (.iadd, 1) := by decide +kernel
theorem dX4_read_30 : decode cX4_read 30 = .ok (.sipush 9999, 3) := by decide +kernel
theorem dX4_read_33 : decode cX4_read 33 = .ok (.if_icmp .le 6, 3) := by decide +kernel
theorem dX4_read_36 : decode cX4_read 36 = .ok (.bipush (-4), 2) := by decide +kernel
theorem dX4_read_38 : decode cX4_read 38 = .ok (.ireturn, 1) := by decide +kernel
theorem dX4_read_39 : decode cX4_read 39 = .ok (.aload_n 0, 1) := by decide +kernel
theorem dX4_read_40 : decode cX4_read 40 = .ok (.getfield 26, 3) := by decide +kernel
theorem dX4_read_43 : decode cX4_read 43 = .ok (.aload_n 0, 1) := by decide +kernel
theorem dX4_read_44 : decode cX4_read 44 = .ok (.getfield 10, 3) := by decide +kernel
theorem dX4_read_47 : decode cX4_read 47 = .ok (.invokevirtual 44, 3) := by decide +kernel
theorem dX4_read_50 : decode cX4_read 50 = .ok (.iconst 0, 1) := by decide +kernel
theorem dX4_read_51 : decode cX4_read 51 = .ok (.istore_n 1, 1) := by decide +kernel
theorem dX4_read_52 : decode cX4_read 52 = .ok (.iload_n 1, 1) := by decide +kernel
theorem dX4_read_53 : decode cX4_read 53 = .ok (.aload_n 0, 1) := by decide +kernel
theorem dX4_read_54 : decode cX4_read 54 = .ok (.getfield 19, 3) := by decide +kernel
theorem dX4_read_57 : decode cX4_read 57 = .ok (.getfield 128, 3) := by decide +kernel
theorem dX4_read_60 : decode cX4_read 60 = .ok (.if_icmp .ge 24, 3) := by decide +kernel
theorem dX4_read_63 : decode cX4_read 63 = .ok (.aload_n 0, 1) := by decide +kernel
theorem dX4_read_64 : decode cX4_read 64 = .ok (.getfield 10, 3) := by decide +kernel
theorem dX4_read_67 : decode cX4_read 67 = .ok (.aload_n 0, 1) := by decide +kernel
theorem dX4_read_68 : decode cX4_read 68 = .ok (.getfield 19, 3) := by decide +kernel
theorem dX4_read_71 : decode cX4_read 71 = .ok (.iload_n 1, 1) := by decide +kernel
theorem dX4_read_72 : decode cX4_read 72 = .ok (.invokevirtual 131, 3) := by decide +kernel
theorem dX4_read_75 : decode cX4_read 75 = .ok (.invokevirtual 114, 3) := by decide +kernel
theorem dX4_read_78 : decode cX4_read 78 = .ok (.iinc 1 1, 3) := by decide +kernel
theorem dX4_read_81 : decode cX4_read 81 = .ok (.goto (-29), 3) := by decide +kernel
theorem dX4_read_84 : decode cX4_read 84 = .ok (.aload_n 0, 1) := by decide +kernel
theorem dX4_read_85 : decode cX4_read 85 = .ok (.getfield 19, 3) := by decide +kernel
theorem dX4_read_88 : decode cX4_read 88 = .ok (.iconst 0, 1) := by decide +kernel
theorem dX4_read_89 : decode cX4_read 89 = .ok (.putfield 128, 3) := by decide +kernel
theorem dX4_read_92 : decode cX4_read 92 = .ok (.aload_n 0, 1) := by decide +kernel
theorem dX4_read_93 : decode cX4_read 93 = .ok (.getfield 10, 3) := by decide +kernel
theorem dX4_read_96 : decode cX4_read 96 = .ok (.getfield 65, 3) := by decide +kernel
theorem dX4_read_99 : decode cX4_read 99 = .ok (.invokestatic 117, 3) := by decide +kernel
theorem dX4_read_102 : decode cX4_read 102 = .ok (.ireturn, 1) := by decide +kernel
set_option maxRecDepth 20000 in
theorem ggX4_puddle_X4_isPuddle : GoodIn wsX4_puddle wsX4_isPuddle := goodIn_r _ [8] (by decide +kernel) (by decide +kernel)
set_option maxRecDepth 20000 in
theorem gX4_puddle_X4_isPuddle : GoodIn wsX4_puddle (va_wsS RX4 51 yX4_isPuddle wsX4_isPuddle) := goodIn_app (goodIn_of _ (by decide +kernel)) ggX4_puddle_X4_isPuddle
set_option maxRecDepth 20000 in
theorem ggX4_puddle_X3_depth : GoodIn wsX4_puddle wsX3_depth := goodIn_r _ [13, 14, 42, 43, 44, 45, 46, 47, 48, 49, 50, 51, 52, 53, 54, 55, 56] (by decide +kernel) (by decide +kernel)
set_option maxRecDepth 20000 in
theorem gX4_puddle_X3_depth : GoodIn wsX4_puddle (wsV RX4 134 RX3 yX3_depth wsX3_depth) := goodIn_app (goodIn_of _ (by decide +kernel)) ggX4_puddle_X3_depth
set_option maxRecDepth 20000 in
theorem ggX4_puddle_X3_isFrozen : GoodIn wsX4_puddle wsX3_isFrozen := goodIn_r _ [18, 19, 20, 7, 21, 42, 43, 44, 45, 46, 47, 48, 49, 50, 51, 52, 53, 54, 55, 56] (by decide +kernel) (by decide +kernel)
set_option maxRecDepth 20000 in
theorem gX4_puddle_X3_isFrozen : GoodIn wsX4_puddle (wsV RX4 137 RX3 yX3_isFrozen wsX3_isFrozen) := goodIn_app (goodIn_of _ (by decide +kernel)) ggX4_puddle_X3_isFrozen
set_option maxRecDepth 20000 in
theorem ggX4_puddle_X3_hasDucks : GoodIn wsX4_puddle wsX3_hasDucks := goodIn_r _ [25, 26, 20, 7, 21, 42, 43, 44, 45, 46, 47, 48, 49, 50, 51, 52, 53, 54, 55, 56] (by decide +kernel) (by decide +kernel)
set_option maxRecDepth 20000 in
theorem gX4_puddle_X3_hasDucks : GoodIn wsX4_puddle (wsV RX4 62 RX3 yX3_hasDucks wsX3_hasDucks) := goodIn_app (goodIn_of _ (by decide +kernel)) ggX4_puddle_X3_hasDucks
set_option maxRecDepth 20000 in
theorem ggX4_puddle_X3_permitHoldersAt : GoodIn wsX4_puddle wsX3_permitHoldersAt := goodIn_r _ [30, 31, 32, 33, 12, 34, 35, 36, 7, 37, 42, 43, 44, 45, 46, 47, 48, 49, 50, 51, 52, 53, 54, 55, 56] (by decide +kernel) (by decide +kernel)
set_option maxRecDepth 20000 in
theorem gX4_puddle_X3_permitHoldersAt : GoodIn wsX4_puddle (wsV RX4 143 RX3 yX3_permitHoldersAt wsX3_permitHoldersAt) := goodIn_app (goodIn_of _ (by decide +kernel)) ggX4_puddle_X3_permitHoldersAt
theorem dX4_puddle_0 : decode cX4_puddle 0 = .ok (.iload_n 1, 1) := by decide +kernel
theorem dX4_puddle_1 : decode cX4_puddle 1 = .ok (.invokestatic 51, 3) := by decide +kernel
theorem dX4_puddle_4 : decode cX4_puddle 4 = .ok (.ifCond .ne 5, 3) := by decide +kernel
theorem dX4_puddle_7 : decode cX4_puddle 7 = .ok (.iconst (-1), 1) := by decide +kernel
theorem dX4_puddle_8 : decode cX4_puddle 8 = .ok (.ireturn, 1) := by decide +kernel
theorem dX4_puddle_9 : decode cX4_puddle 9 = .ok (.iload_n 2, 1) := by decide +kernel
theorem dX4_puddle_10 : decode cX4_puddle 10 = .ok (.tableswitch 124 0 6 #[42, 52, 62, 71, 88, 105, 115], 42) := by decide +kernel
theorem dX4_puddle_52 : decode cX4_puddle 52 = .ok (.aload_n 0, 1) := by decide +kernel
theorem dX4_puddle_53 : decode cX4_puddle 53 = .ok (.getfield 10, 3) := by decide +kernel
theorem dX4_puddle_56 : decode cX4_puddle 56 = .ok (.getfield 55, 3) := by decide +kernel
theorem dX4_puddle_59 : decode cX4_puddle 59 = .ok (.iload_n 1, 1) := by decide +kernel
theorem dX4_puddle_60 : decode cX4_puddle 60 = .ok (.iaload, 1) := by decide +kernel
theorem dX4_puddle_61 : decode cX4_puddle 61 = .ok (.ireturn, 1) := by decide +kernel
theorem dX4_puddle_62 : decode cX4_puddle 62 = .ok (.aload_n 0, 1) := by decide +kernel
theorem dX4_puddle_63 : decode cX4_puddle 63 = .ok (.getfield 10, 3) := by decide +kernel
theorem dX4_puddle_66 : decode cX4_puddle 66 = .ok (.getfield 65, 3) := by decide +kernel
theorem dX4_puddle_69 : decode cX4_puddle 69 = .ok (.iload_n 1, 1) := by decide +kernel
theorem dX4_puddle_70 : decode cX4_puddle 70 = .ok (.iaload, 1) := by decide +kernel
theorem dX4_puddle_71 : decode cX4_puddle 71 = .ok (.ireturn, 1) := by decide +kernel
theorem dX4_puddle_72 : decode cX4_puddle 72 = .ok (.aload_n 0, 1) := by decide +kernel
theorem dX4_puddle_73 : decode cX4_puddle 73 = .ok (.getfield 10, 3) := by decide +kernel
theorem dX4_puddle_76 : decode cX4_puddle 76 = .ok (.iload_n 1, 1) := by decide +kernel
theorem dX4_puddle_77 : decode cX4_puddle 77 = .ok (.invokevirtual 134, 3) := by decide +kernel
theorem dX4_puddle_80 : decode cX4_puddle 80 = .ok (.ireturn, 1) := by decide +kernel
theorem dX4_puddle_81 : decode cX4_puddle 81 = .ok (.aload_n 0, 1) := by decide +kernel
theorem dX4_puddle_82 : decode cX4_puddle 82 = .ok (.getfield 10, 3) := by decide +kernel
theorem dX4_puddle_85 : decode cX4_puddle 85 = .ok (.iload_n 1, 1) := by decide +kernel
theorem dX4_puddle_86 : decode cX4_puddle 86 = .ok (.invokevirtual 137, 3) := by decide +kernel
theorem dX4_puddle_89 : decode cX4_puddle 89 = .ok (.ifCond .eq 7, 3) := by decide +kernel
theorem dX4_puddle_92 : decode cX4_puddle 92 = .ok (.iconst 1, 1) := by decide +kernel
theorem dX4_puddle_93 : decode cX4_puddle 93 = .ok (.goto 4, 3) := by decide +kernel
theorem dX4_puddle_96 : decode cX4_puddle 96 = .ok (.iconst 0, 1) := by decide +kernel
theorem dX4_puddle_97 : decode cX4_puddle 97 = .ok (.ireturn, 1) := by decide +kernel
theorem dX4_puddle_98 : decode cX4_puddle 98 = .ok (.aload_n 0, 1) := by decide +kernel
theorem dX4_puddle_99 : decode cX4_puddle 99 = .ok (.getfield 10, 3) := by decide +kernel
theorem dX4_puddle_102 : decode cX4_puddle 102 = .ok (.iload_n 1, 1) := by decide +kernel
theorem dX4_puddle_103 : decode cX4_puddle 103 = .ok (.invokevirtual 62, 3) := by decide +kernel
theorem dX4_puddle_106 : decode cX4_puddle 106 = .ok (.ifCond .eq 7, 3) := by decide +kernel
theorem dX4_puddle_109 : decode cX4_puddle 109 = .ok (.iconst 1, 1) := by decide +kernel
theorem dX4_puddle_110 : decode cX4_puddle 110 = .ok (.goto 4, 3) := by decide +kernel
theorem dX4_puddle_113 : decode cX4_puddle 113 = .ok (.iconst 0, 1) := by decide +kernel
theorem dX4_puddle_114 : decode cX4_puddle 114 = .ok (.ireturn, 1) := by decide +kernel
theorem dX4_puddle_115 : decode cX4_puddle 115 = .ok (.aload_n 0, 1) := by decide +kernel
theorem dX4_puddle_116 : decode cX4_puddle 116 = .ok (.getfield 10, 3) := by decide +kernel
theorem dX4_puddle_119 : decode cX4_puddle 119 = .ok (.getfield 140, 3) := by decide +kernel
theorem dX4_puddle_122 : decode cX4_puddle 122 = .ok (.iload_n 1, 1) := by decide +kernel
theorem dX4_puddle_123 : decode cX4_puddle 123 = .ok (.iaload, 1) := by decide +kernel
theorem dX4_puddle_124 : decode cX4_puddle 124 = .ok (.ireturn, 1) := by decide +kernel
theorem dX4_puddle_125 : decode cX4_puddle 125 = .ok (.aload_n 0, 1) := by decide +kernel
theorem dX4_puddle_126 : decode cX4_puddle 126 = .ok (.getfield 10, 3) := by decide +kernel
theorem dX4_puddle_129 : decode cX4_puddle 129 = .ok (.iload_n 1, 1) := by decide +kernel
theorem dX4_puddle_130 : decode cX4_puddle 130 = .ok (.invokevirtual 143, 3) := by decide +kernel
theorem dX4_puddle_133 : decode cX4_puddle 133 = .ok (.ireturn, 1) := by decide +kernel
theorem dX4_puddle_134 : decode cX4_puddle 134 = .ok (.bipush (-2), 2) := by decide +kernel
theorem dX4_puddle_136 : decode cX4_puddle 136 = .ok (.ireturn, 1) := by decide +kernel
set_option maxRecDepth 20000 in
theorem ggX4_walker_X4_isWalker : GoodIn wsX4_walker wsX4_isWalker := goodIn_r _ [9] (by decide +kernel) (by decide +kernel)
set_option maxRecDepth 20000 in
theorem gX4_walker_X4_isWalker : GoodIn wsX4_walker (va_wsS RX4 72 yX4_isWalker wsX4_isWalker) := goodIn_app (goodIn_of _ (by decide +kernel)) ggX4_walker_X4_isWalker
set_option maxRecDepth 20000 in
theorem ggX4_walker_X3_permitsOf : GoodIn wsX4_walker wsX3_permitsOf := goodIn_r _ [14, 15, 16, 17, 13, 18, 19, 20, 8, 21, 59, 60, 61, 62, 63, 64, 65, 66, 67, 68, 69, 70, 71, 72, 73] (by decide +kernel) (by decide +kernel)
set_option maxRecDepth 20000 in
theorem gX4_walker_X3_permitsOf : GoodIn wsX4_walker (wsV RX4 85 RX3 yX3_permitsOf wsX3_permitsOf) := goodIn_app (goodIn_of _ (by decide +kernel)) ggX4_walker_X3_permitsOf
set_option maxRecDepth 20000 in
theorem ggX4_walker_X3_allowedFor : GoodIn wsX4_walker wsX3_allowedFor := goodIn_r _ [25, 26, 27, 28, 13, 29, 30, 31, 32, 33, 34, 35, 36, 37, 38, 39, 40, 8, 41, 15, 16, 17, 18, 19, 20, 21, 42, 43, 44, 45, 46, 47, 48, 49, 50, 51, 52, 53, 54, 59, 60, 61, 62, 63, 64, 65, 66, 67, 68, 69, 70, 71, 72, 73] (by decide +kernel) (by decide +kernel)
set_option maxRecDepth 20000 in
theorem gX4_walker_X3_allowedFor : GoodIn wsX4_walker (wsV RX4 149 RX3 yX3_allowedFor wsX3_allowedFor) := goodIn_app (goodIn_of _ (by decide +kernel)) ggX4_walker_X3_allowedFor
theorem dX4_walker_0 : decode cX4_walker 0 = .ok (.iload_n 1, 1) := by decide +kernel
theorem dX4_walker_1 : decode cX4_walker 1 = .ok (.invokestatic 72, 3) := by decide +kernel
theorem dX4_walker_4 : decode cX4_walker 4 = .ok (.ifCond .ne 5, 3) := by decide +kernel
theorem dX4_walker_7 : decode cX4_walker 7 = .ok (.iconst (-1), 1) := by decide +kernel
theorem dX4_walker_8 : decode cX4_walker 8 = .ok (.ireturn, 1) := by decide +kernel
theorem dX4_walker_9 : decode cX4_walker 9 = .ok (.iload_n 2, 1) := by decide +kernel
theorem dX4_walker_10 : decode cX4_walker 10 = .ok (.tableswitch 96 0 5 #[38, 48, 58, 68, 78, 87], 38) := by decide +kernel
theorem dX4_walker_48 : decode cX4_walker 48 = .ok (.aload_n 0, 1) := by decide +kernel
theorem dX4_walker_49 : decode cX4_walker 49 = .ok (.getfield 10, 3) := by decide +kernel
theorem dX4_walker_52 : decode cX4_walker 52 = .ok (.getfield 75, 3) := by decide +kernel
theorem dX4_walker_55 : decode cX4_walker 55 = .ok (.iload_n 1, 1) := by decide +kernel
theorem dX4_walker_56 : decode cX4_walker 56 = .ok (.iaload, 1) := by decide +kernel
theorem dX4_walker_57 : decode cX4_walker 57 = .ok (.ireturn, 1) := by decide +kernel
theorem dX4_walker_58 : decode cX4_walker 58 = .ok (.aload_n 0, 1) := by decide +kernel
theorem dX4_walker_59 : decode cX4_walker 59 = .ok (.getfield 10, 3) := by decide +kernel
theorem dX4_walker_62 : decode cX4_walker 62 = .ok (.getfield 104, 3) := by decide +kernel
theorem dX4_walker_65 : decode cX4_walker 65 = .ok (.iload_n 1, 1) := by decide +kernel
theorem dX4_walker_66 : decode cX4_walker 66 = .ok (.iaload, 1) := by decide +kernel
theorem dX4_walker_67 : decode cX4_walker 67 = .ok (.ireturn, 1) := by decide +kernel
theorem dX4_walker_68 : decode cX4_walker 68 = .ok (.aload_n 0, 1) := by decide +kernel
theorem dX4_walker_69 : decode cX4_walker 69 = .ok (.getfield 10, 3) := by decide +kernel
theorem dX4_walker_72 : decode cX4_walker 72 = .ok (.getfield 107, 3) := by decide +kernel
theorem dX4_walker_75 : decode cX4_walker 75 = .ok (.iload_n 1, 1) := by decide +kernel
theorem dX4_walker_76 : decode cX4_walker 76 = .ok (.iaload, 1) := by decide +kernel
theorem dX4_walker_77 : decode cX4_walker 77 = .ok (.ireturn, 1) := by decide +kernel
theorem dX4_walker_78 : decode cX4_walker 78 = .ok (.aload_n 0, 1) := by decide +kernel
theorem dX4_walker_79 : decode cX4_walker 79 = .ok (.getfield 10, 3) := by decide +kernel
theorem dX4_walker_82 : decode cX4_walker 82 = .ok (.getfield 146, 3) := by decide +kernel
theorem dX4_walker_85 : decode cX4_walker 85 = .ok (.iload_n 1, 1) := by decide +kernel
theorem dX4_walker_86 : decode cX4_walker 86 = .ok (.iaload, 1) := by decide +kernel
theorem dX4_walker_87 : decode cX4_walker 87 = .ok (.ireturn, 1) := by decide +kernel
theorem dX4_walker_88 : decode cX4_walker 88 = .ok (.aload_n 0, 1) := by decide +kernel
theorem dX4_walker_89 : decode cX4_walker 89 = .ok (.getfield 10, 3) := by decide +kernel
theorem dX4_walker_92 : decode cX4_walker 92 = .ok (.iload_n 1, 1) := by decide +kernel
theorem dX4_walker_93 : decode cX4_walker 93 = .ok (.invokevirtual 85, 3) := by decide +kernel
theorem dX4_walker_96 : decode cX4_walker 96 = .ok (.ireturn, 1) := by decide +kernel
theorem dX4_walker_97 : decode cX4_walker 97 = .ok (.aload_n 0, 1) := by decide +kernel
theorem dX4_walker_98 : decode cX4_walker 98 = .ok (.getfield 10, 3) := by decide +kernel
theorem dX4_walker_101 : decode cX4_walker 101 = .ok (.iload_n 1, 1) := by decide +kernel
theorem dX4_walker_102 : decode cX4_walker 102 = .ok (.invokevirtual 149, 3) := by decide +kernel
theorem dX4_walker_105 : decode cX4_walker 105 = .ok (.ireturn, 1) := by decide +kernel
theorem dX4_walker_106 : decode cX4_walker 106 = .ok (.bipush (-2), 2) := by decide +kernel
theorem dX4_walker_108 : decode cX4_walker 108 = .ok (.ireturn, 1) := by decide +kernel
set_option maxRecDepth 20000 in
theorem ggX4_why_X4_isWalker : GoodIn wsX4_why wsX4_isWalker := goodIn_r _ [6] (by decide +kernel) (by decide +kernel)
set_option maxRecDepth 20000 in
theorem gX4_why_X4_isWalker : GoodIn wsX4_why (va_wsS RX4 72 yX4_isWalker wsX4_isWalker) := goodIn_app (goodIn_of _ (by decide +kernel)) ggX4_why_X4_isWalker
set_option maxRecDepth 20000 in
theorem ggX4_why_X4_isPuddle : GoodIn wsX4_why wsX4_isPuddle := goodIn_r _ [9] (by decide +kernel) (by decide +kernel)
set_option maxRecDepth 20000 in
theorem gX4_why_X4_isPuddle : GoodIn wsX4_why (va_wsS RX4 51 yX4_isPuddle wsX4_isPuddle) := goodIn_app (goodIn_of _ (by decide +kernel)) ggX4_why_X4_isPuddle
set_option maxRecDepth 20000 in
theorem ggX4_why_X3_reasonAgainst : GoodIn wsX4_why wsX3_reasonAgainst := goodIn_r _ [14, 15, 16, 17, 13, 18, 19, 20, 5, 21, 22, 23, 24, 25, 26, 27, 28, 29, 30, 31, 32, 33, 34, 35, 36, 37, 38, 39, 40, 41, 46, 47, 48, 49, 50, 51, 52, 53, 54, 55, 56, 57, 58, 59, 60] (by decide +kernel) (by decide +kernel)
set_option maxRecDepth 20000 in
theorem gX4_why_X3_reasonAgainst : GoodIn wsX4_why (wsV RX4 152 RX3 yX3_reasonAgainst wsX3_reasonAgainst) := goodIn_app (goodIn_of _ (by decide +kernel)) ggX4_why_X3_reasonAgainst
theorem dX4_why_0 : decode cX4_why 0 = .ok (.iload_n 1, 1) := by decide +kernel
theorem dX4_why_1 : decode cX4_why 1 = .ok (.invokestatic 72, 3) := by decide +kernel
theorem dX4_why_4 : decode cX4_why 4 = .ok (.ifCond .eq 10, 3) := by decide +kernel
theorem dX4_why_7 : decode cX4_why 7 = .ok (.iload_n 2, 1) := by decide +kernel
theorem dX4_why_8 : decode cX4_why 8 = .ok (.invokestatic 51, 3) := by decide +kernel
theorem dX4_why_11 : decode cX4_why 11 = .ok (.ifCond .ne 5, 3) := by decide +kernel
theorem dX4_why_14 : decode cX4_why 14 = .ok (.iconst (-1), 1) := by decide +kernel
theorem dX4_why_15 : decode cX4_why 15 = .ok (.ireturn, 1) := by decide +kernel
theorem dX4_why_16 : decode cX4_why 16 = .ok (.aload_n 0, 1) := by decide +kernel
theorem dX4_why_17 : decode cX4_why 17 = .ok (.getfield 10, 3) := by decide +kernel
theorem dX4_why_20 : decode cX4_why 20 = .ok (.iload_n 1, 1) := by decide +kernel
theorem dX4_why_21 : decode cX4_why 21 = .ok (.iload_n 2, 1) := by decide +kernel
theorem dX4_why_22 : decode cX4_why 22 = .ok (.aload_n 0, 1) := by decide +kernel
theorem dX4_why_23 : decode cX4_why 23 = .ok (.getfield 10, 3) := by decide +kernel
theorem dX4_why_26 : decode cX4_why 26 = .ok (.getfield 75, 3) := by decide +kernel
theorem dX4_why_29 : decode cX4_why 29 = .ok (.iload_n 1, 1) := by decide +kernel
theorem dX4_why_30 : decode cX4_why 30 = .ok (.iaload, 1) := by decide +kernel
theorem dX4_why_31 : decode cX4_why 31 = .ok (.invokevirtual 152, 3) := by decide +kernel
theorem dX4_why_34 : decode cX4_why 34 = .ok (.ireturn, 1) := by decide +kernel
set_option maxRecDepth 20000 in
theorem ggX4_holds_X4_isWalker : GoodIn wsX4_holds wsX4_isWalker := goodIn_r _ [6] (by decide +kernel) (by decide +kernel)
set_option maxRecDepth 20000 in
theorem gX4_holds_X4_isWalker : GoodIn wsX4_holds (va_wsS RX4 72 yX4_isWalker wsX4_isWalker) := goodIn_app (goodIn_of _ (by decide +kernel)) ggX4_holds_X4_isWalker
set_option maxRecDepth 20000 in
theorem ggX4_holds_X4_isPuddle : GoodIn wsX4_holds wsX4_isPuddle := goodIn_r _ [9] (by decide +kernel) (by decide +kernel)
set_option maxRecDepth 20000 in
theorem gX4_holds_X4_isPuddle : GoodIn wsX4_holds (va_wsS RX4 51 yX4_isPuddle wsX4_isPuddle) := goodIn_app (goodIn_of _ (by decide +kernel)) ggX4_holds_X4_isPuddle
set_option maxRecDepth 20000 in
theorem ggX4_holds_X4_placeOf : GoodIn wsX4_holds wsX4_placeOf := goodIn_r _ [12] (by decide +kernel) (by decide +kernel)
set_option maxRecDepth 20000 in
theorem gX4_holds_X4_placeOf : GoodIn wsX4_holds (va_wsS RX4 81 yX4_placeOf wsX4_placeOf) := goodIn_app (goodIn_of _ (by decide +kernel)) ggX4_holds_X4_placeOf
theorem dX4_holds_0 : decode cX4_holds 0 = .ok (.iload_n 1, 1) := by decide +kernel
theorem dX4_holds_1 : decode cX4_holds 1 = .ok (.invokestatic 72, 3) := by decide +kernel
theorem dX4_holds_4 : decode cX4_holds 4 = .ok (.ifCond .eq 10, 3) := by decide +kernel
theorem dX4_holds_7 : decode cX4_holds 7 = .ok (.iload_n 2, 1) := by decide +kernel
theorem dX4_holds_8 : decode cX4_holds 8 = .ok (.invokestatic 51, 3) := by decide +kernel
theorem dX4_holds_11 : decode cX4_holds 11 = .ok (.ifCond .ne 5, 3) := by decide +kernel
theorem dX4_holds_14 : decode cX4_holds 14 = .ok (.iconst (-1), 1) := by decide +kernel
theorem dX4_holds_15 : decode cX4_holds 15 = .ok (.ireturn, 1) := by decide +kernel
theorem dX4_holds_16 : decode cX4_holds 16 = .ok (.aload_n 0, 1) := by decide +kernel
theorem dX4_holds_17 : decode cX4_holds 17 = .ok (.getfield 10, 3) := by decide +kernel
theorem dX4_holds_20 : decode cX4_holds 20 = .ok (.getfield 78, 3) := by decide +kernel
theorem dX4_holds_23 : decode cX4_holds 23 = .ok (.iload_n 1, 1) := by decide +kernel
theorem dX4_holds_24 : decode cX4_holds 24 = .ok (.iload_n 2, 1) := by decide +kernel
theorem dX4_holds_25 : decode cX4_holds 25 = .ok (.invokestatic 81, 3) := by decide +kernel
theorem dX4_holds_28 : decode cX4_holds 28 = .ok (.iaload, 1) := by decide +kernel
theorem dX4_holds_29 : decode cX4_holds 29 = .ok (.istore_n 3, 1) := by decide +kernel
theorem dX4_holds_30 : decode cX4_holds 30 = .ok (.iload_n 3, 1) := by decide +kernel
theorem dX4_holds_31 : decode cX4_holds 31 = .ok (.ifCond .le 7, 3) := by decide +kernel
theorem dX4_holds_34 : decode cX4_holds 34 = .ok (.iload_n 3, 1) := by decide +kernel
theorem dX4_holds_35 : decode cX4_holds 35 = .ok (.goto 5, 3) := by decide +kernel
theorem dX4_holds_38 : decode cX4_holds 38 = .ok (.bipush (-6), 2) := by decide +kernel
theorem dX4_holds_40 : decode cX4_holds 40 = .ok (.ireturn, 1) := by decide +kernel
set_option maxRecDepth 20000 in
theorem ggX4_count_X4_sum : GoodIn wsX4_count wsX4_sum := goodIn_r _ [19] (by decide +kernel) (by decide +kernel)
set_option maxRecDepth 20000 in
theorem gX4_count_X4_sum : GoodIn wsX4_count (va_wsS RX4 117 yX4_sum wsX4_sum) := goodIn_app (goodIn_of _ (by decide +kernel)) ggX4_count_X4_sum
set_option maxRecDepth 20000 in
theorem ggX4_count_X3_allPermits : GoodIn wsX4_count wsX3_allPermits := goodIn_r _ [24, 25, 26, 27, 23, 28, 29, 30, 31, 32, 33, 34, 18, 35, 36, 37, 38, 39, 40, 41, 42, 47, 48, 49, 50, 51, 52, 53, 54, 55, 56, 57, 58, 59, 60, 61] (by decide +kernel) (by decide +kernel)
set_option maxRecDepth 20000 in
theorem gX4_count_X3_allPermits : GoodIn wsX4_count (wsV RX4 170 RX3 yX3_allPermits wsX3_allPermits) := goodIn_app (goodIn_of _ (by decide +kernel)) ggX4_count_X3_allPermits
theorem dX4_count_0 : decode cX4_count 0 = .ok (.iload_n 1, 1) := by decide +kernel
theorem dX4_count_1 : decode cX4_count 1 = .ok (.ifCond .lt 18, 3) := by decide +kernel
theorem dX4_count_4 : decode cX4_count 4 = .ok (.iload_n 1, 1) := by decide +kernel
theorem dX4_count_5 : decode cX4_count 5 = .ok (.iconst 4, 1) := by decide +kernel
theorem dX4_count_6 : decode cX4_count 6 = .ok (.if_icmp .ge 13, 3) := by decide +kernel
theorem dX4_count_9 : decode cX4_count 9 = .ok (.aload_n 0, 1) := by decide +kernel
theorem dX4_count_10 : decode cX4_count 10 = .ok (.getfield 10, 3) := by decide +kernel
theorem dX4_count_13 : decode cX4_count 13 = .ok (.getfield 48, 3) := by decide +kernel
theorem dX4_count_16 : decode cX4_count 16 = .ok (.iload_n 1, 1) := by decide +kernel
theorem dX4_count_17 : decode cX4_count 17 = .ok (.iaload, 1) := by decide +kernel
theorem dX4_count_18 : decode cX4_count 18 = .ok (.ireturn, 1) := by decide +kernel
theorem dX4_count_19 : decode cX4_count 19 = .ok (.iload_n 1, 1) := by decide +kernel
theorem dX4_count_20 : decode cX4_count 20 = .ok (.tableswitch 169 4 15 #[64, 72, 83, 91, 99, 107, 115, 123, 131, 142, 153, 161], 64) := by decide +kernel
theorem dX4_count_84 : decode cX4_count 84 = .ok (.aload_n 0, 1) := by decide +kernel
theorem dX4_count_85 : decode cX4_count 85 = .ok (.getfield 10, 3) := by decide +kernel
theorem dX4_count_88 : decode cX4_count 88 = .ok (.getfield 110, 3) := by decide +kernel
theorem dX4_count_91 : decode cX4_count 91 = .ok (.ireturn, 1) := by decide +kernel
theorem dX4_count_92 : decode cX4_count 92 = .ok (.aload_n 0, 1) := by decide +kernel
theorem dX4_count_93 : decode cX4_count 93 = .ok (.getfield 10, 3) := by decide +kernel
theorem dX4_count_96 : decode cX4_count 96 = .ok (.getfield 65, 3) := by decide +kernel
theorem dX4_count_99 : decode cX4_count 99 = .ok (.invokestatic 117, 3) := by decide +kernel
theorem dX4_count_102 : decode cX4_count 102 = .ok (.ireturn, 1) := by decide +kernel
theorem dX4_count_103 : decode cX4_count 103 = .ok (.aload_n 0, 1) := by decide +kernel
theorem dX4_count_104 : decode cX4_count 104 = .ok (.getfield 10, 3) := by decide +kernel
theorem dX4_count_107 : decode cX4_count 107 = .ok (.getfield 155, 3) := by decide +kernel
theorem dX4_count_110 : decode cX4_count 110 = .ok (.ireturn, 1) := by decide +kernel
theorem dX4_count_111 : decode cX4_count 111 = .ok (.aload_n 0, 1) := by decide +kernel
theorem dX4_count_112 : decode cX4_count 112 = .ok (.getfield 10, 3) := by decide +kernel
theorem dX4_count_115 : decode cX4_count 115 = .ok (.getfield 158, 3) := by decide +kernel
theorem dX4_count_118 : decode cX4_count 118 = .ok (.ireturn, 1) := by decide +kernel
theorem dX4_count_119 : decode cX4_count 119 = .ok (.aload_n 0, 1) := by decide +kernel
theorem dX4_count_120 : decode cX4_count 120 = .ok (.getfield 10, 3) := by decide +kernel
theorem dX4_count_123 : decode cX4_count 123 = .ok (.getfield 161, 3) := by decide +kernel
theorem dX4_count_126 : decode cX4_count 126 = .ok (.ireturn, 1) := by decide +kernel
theorem dX4_count_127 : decode cX4_count 127 = .ok (.aload_n 0, 1) := by decide +kernel
theorem dX4_count_128 : decode cX4_count 128 = .ok (.getfield 10, 3) := by decide +kernel
theorem dX4_count_131 : decode cX4_count 131 = .ok (.getfield 164, 3) := by decide +kernel
theorem dX4_count_134 : decode cX4_count 134 = .ok (.ireturn, 1) := by decide +kernel
theorem dX4_count_135 : decode cX4_count 135 = .ok (.aload_n 0, 1) := by decide +kernel
theorem dX4_count_136 : decode cX4_count 136 = .ok (.getfield 10, 3) := by decide +kernel
theorem dX4_count_139 : decode cX4_count 139 = .ok (.getfield 167, 3) := by decide +kernel
theorem dX4_count_142 : decode cX4_count 142 = .ok (.ireturn, 1) := by decide +kernel
theorem dX4_count_143 : decode cX4_count 143 = .ok (.aload_n 0, 1) := by decide +kernel
theorem dX4_count_144 : decode cX4_count 144 = .ok (.getfield 10, 3) := by decide +kernel
theorem dX4_count_147 : decode cX4_count 147 = .ok (.invokevirtual 170, 3) := by decide +kernel
theorem dX4_count_150 : decode cX4_count 150 = .ok (.ireturn, 1) := by decide +kernel
theorem dX4_count_151 : decode cX4_count 151 = .ok (.aload_n 0, 1) := by decide +kernel
theorem dX4_count_152 : decode cX4_count 152 = .ok (.getfield 10, 3) := by decide +kernel
theorem dX4_count_155 : decode cX4_count 155 = .ok (.getfield 104, 3) := by decide +kernel
theorem dX4_count_158 : decode cX4_count 158 = .ok (.invokestatic 117, 3) := by decide +kernel
theorem dX4_count_161 : decode cX4_count 161 = .ok (.ireturn, 1) := by decide +kernel
theorem dX4_count_162 : decode cX4_count 162 = .ok (.aload_n 0, 1) := by decide +kernel
theorem dX4_count_163 : decode cX4_count 163 = .ok (.getfield 10, 3) := by decide +kernel
theorem dX4_count_166 : decode cX4_count 166 = .ok (.getfield 107, 3) := by decide +kernel
theorem dX4_count_169 : decode cX4_count 169 = .ok (.invokestatic 117, 3) := by decide +kernel
theorem dX4_count_172 : decode cX4_count 172 = .ok (.ireturn, 1) := by decide +kernel
theorem dX4_count_173 : decode cX4_count 173 = .ok (.aload_n 0, 1) := by decide +kernel
theorem dX4_count_174 : decode cX4_count 174 = .ok (.getfield 19, 3) := by decide +kernel
theorem dX4_count_177 : decode cX4_count 177 = .ok (.getfield 128, 3) := by decide +kernel
theorem dX4_count_180 : decode cX4_count 180 = .ok (.ireturn, 1) := by decide +kernel
theorem dX4_count_181 : decode cX4_count 181 = .ok (.aload_n 0, 1) := by decide +kernel
theorem dX4_count_182 : decode cX4_count 182 = .ok (.getfield 26, 3) := by decide +kernel
theorem dX4_count_185 : decode cX4_count 185 = .ok (.getfield 173, 3) := by decide +kernel
theorem dX4_count_188 : decode cX4_count 188 = .ok (.ireturn, 1) := by decide +kernel
theorem dX4_count_189 : decode cX4_count 189 = .ok (.bipush (-2), 2) := by decide +kernel
theorem dX4_count_191 : decode cX4_count 191 = .ok (.ireturn, 1) := by decide +kernel
set_option maxRecDepth 20000 in
theorem ggX4_cost_X4_isWalker : GoodIn wsX4_cost wsX4_isWalker := goodIn_r _ [5] (by decide +kernel) (by decide +kernel)
set_option maxRecDepth 20000 in
theorem gX4_cost_X4_isWalker : GoodIn wsX4_cost (va_wsS RX4 72 yX4_isWalker wsX4_isWalker) := goodIn_app (goodIn_of _ (by decide +kernel)) ggX4_cost_X4_isWalker
set_option maxRecDepth 20000 in
theorem ggX4_cost_X4_isPuddle : GoodIn wsX4_cost wsX4_isPuddle := goodIn_r _ [8] (by decide +kernel) (by decide +kernel)
set_option maxRecDepth 20000 in
theorem gX4_cost_X4_isPuddle : GoodIn wsX4_cost (va_wsS RX4 51 yX4_isPuddle wsX4_isPuddle) := goodIn_app (goodIn_of _ (by decide +kernel)) ggX4_cost_X4_isPuddle
set_option maxRecDepth 20000 in
theorem ggX4_cost_X3_costBySteps : GoodIn wsX4_cost wsX3_costBySteps := goodIn_r _ [13, 14, 15, 16, 17, 18, 4, 19, 20, 21, 22, 12, 23, 24, 25, 26, 27, 28, 29, 30, 31, 32, 33, 34, 35, 36, 37, 38, 39, 40, 41, 42, 43, 44, 45, 46, 47, 48, 49, 50, 51, 52, 53, 54, 55, 56, 57, 58, 59, 60, 73, 74, 75, 76, 77, 78, 79, 80, 81, 82, 83, 84, 85, 86, 87] (by decide +kernel) (by decide +kernel)
set_option maxRecDepth 20000 in
theorem gX4_cost_X3_costBySteps : GoodIn wsX4_cost (wsV RX4 176 RX3 yX3_costBySteps wsX3_costBySteps) := goodIn_app (goodIn_of _ (by decide +kernel)) ggX4_cost_X3_costBySteps
set_option maxRecDepth 20000 in
theorem ggX4_cost_X3_costByBlock : GoodIn wsX4_cost wsX3_costByBlock := goodIn_r _ [64, 65, 66, 67, 12, 68, 14, 15, 16, 17, 18, 4, 19, 20, 21, 22, 23, 24, 25, 26, 27, 28, 29, 30, 31, 32, 33, 34, 35, 36, 37, 38, 39, 40, 41, 42, 43, 44, 45, 46, 47, 48, 49, 50, 51, 52, 53, 54, 55, 56, 57, 58, 59, 60, 73, 74, 75, 76, 77, 78, 79, 80, 81, 82, 83, 84, 85, 86, 87] (by decide +kernel) (by decide +kernel)
set_option maxRecDepth 20000 in
theorem gX4_cost_X3_costByBlock : GoodIn wsX4_cost (wsV RX4 179 RX3 yX3_costByBlock wsX3_costByBlock) := goodIn_app (goodIn_of _ (by decide +kernel)) ggX4_cost_X3_costByBlock
theorem dX4_cost_0 : decode cX4_cost 0 = .ok (.iload_n 1, 1) := by decide +kernel
theorem dX4_cost_1 : decode cX4_cost 1 = .ok (.invokestatic 72, 3) := by decide +kernel
theorem dX4_cost_4 : decode cX4_cost 4 = .ok (.ifCond .eq 17, 3) := by decide +kernel
theorem dX4_cost_7 : decode cX4_cost 7 = .ok (.iload_n 2, 1) := by decide +kernel
theorem dX4_cost_8 : decode cX4_cost 8 = .ok (.invokestatic 51, 3) := by decide +kernel
theorem dX4_cost_11 : decode cX4_cost 11 = .ok (.ifCond .eq 10, 3) := by decide +kernel
theorem dX4_cost_14 : decode cX4_cost 14 = .ok (.iload_n 3, 1) := by decide +kernel
theorem dX4_cost_15 : decode cX4_cost 15 = .ok (.invokestatic 51, 3) := by decide +kernel
theorem dX4_cost_18 : decode cX4_cost 18 = .ok (.ifCond .ne 5, 3) := by decide +kernel
theorem dX4_cost_21 : decode cX4_cost 21 = .ok (.iconst (-1), 1) := by decide +kernel
theorem dX4_cost_22 : decode cX4_cost 22 = .ok (.ireturn, 1) := by decide +kernel
theorem dX4_cost_23 : decode cX4_cost 23 = .ok (.iload 4, 2) := by decide +kernel
theorem dX4_cost_25 : decode cX4_cost 25 = .ok (.ifCond .ne 14, 3) := by decide +kernel
theorem dX4_cost_28 : decode cX4_cost 28 = .ok (.aload_n 0, 1) := by decide +kernel
theorem dX4_cost_29 : decode cX4_cost 29 = .ok (.getfield 10, 3) := by decide +kernel
theorem dX4_cost_32 : decode cX4_cost 32 = .ok (.iload_n 1, 1) := by decide +kernel
theorem dX4_cost_33 : decode cX4_cost 33 = .ok (.iload_n 2, 1) := by decide +kernel
theorem dX4_cost_34 : decode cX4_cost 34 = .ok (.iload_n 3, 1) := by decide +kernel
theorem dX4_cost_35 : decode cX4_cost 35 = .ok (.invokevirtual 176, 3) := by decide +kernel
theorem dX4_cost_38 : decode cX4_cost 38 = .ok (.ireturn, 1) := by decide +kernel
theorem dX4_cost_39 : decode cX4_cost 39 = .ok (.iload 4, 2) := by decide +kernel
theorem dX4_cost_41 : decode cX4_cost 41 = .ok (.iconst 1, 1) := by decide +kernel
theorem dX4_cost_42 : decode cX4_cost 42 = .ok (.if_icmp .ne 14, 3) := by decide +kernel
theorem dX4_cost_45 : decode cX4_cost 45 = .ok (.aload_n 0, 1) := by decide +kernel
theorem dX4_cost_46 : decode cX4_cost 46 = .ok (.getfield 10, 3) := by decide +kernel
theorem dX4_cost_49 : decode cX4_cost 49 = .ok (.iload_n 1, 1) := by decide +kernel
theorem dX4_cost_50 : decode cX4_cost 50 = .ok (.iload_n 2, 1) := by decide +kernel
theorem dX4_cost_51 : decode cX4_cost 51 = .ok (.iload_n 3, 1) := by decide +kernel
theorem dX4_cost_52 : decode cX4_cost 52 = .ok (.invokevirtual 179, 3) := by decide +kernel
theorem dX4_cost_55 : decode cX4_cost 55 = .ok (.ireturn, 1) := by decide +kernel
theorem dX4_cost_56 : decode cX4_cost 56 = .ok (.bipush (-2), 2) := by decide +kernel
theorem dX4_cost_58 : decode cX4_cost 58 = .ok (.ireturn, 1) := by decide +kernel
set_option maxRecDepth 20000 in
theorem ggX4_untilDry_X4_isPuddle : GoodIn wsX4_untilDry wsX4_isPuddle := goodIn_r _ [7] (by decide +kernel) (by decide +kernel)
set_option maxRecDepth 20000 in
theorem gX4_untilDry_X4_isPuddle : GoodIn wsX4_untilDry (va_wsS RX4 51 yX4_isPuddle wsX4_isPuddle) := goodIn_app (goodIn_of _ (by decide +kernel)) ggX4_untilDry_X4_isPuddle
set_option maxRecDepth 20000 in
theorem ggX4_untilDry_X3_isFrozen : GoodIn wsX4_untilDry wsX3_isFrozen := goodIn_r _ [12, 13, 14, 6, 15, 20, 21, 22, 23, 24, 25, 26, 27, 28, 29, 30, 31, 32, 33, 34] (by decide +kernel) (by decide +kernel)
set_option maxRecDepth 20000 in
theorem gX4_untilDry_X3_isFrozen : GoodIn wsX4_untilDry (wsV RX4 137 RX3 yX3_isFrozen wsX3_isFrozen) := goodIn_app (goodIn_of _ (by decide +kernel)) ggX4_untilDry_X3_isFrozen
theorem dX4_untilDry_0 : decode cX4_untilDry 0 = .ok (.iload_n 1, 1) := by decide +kernel
theorem dX4_untilDry_1 : decode cX4_untilDry 1 = .ok (.invokestatic 51, 3) := by decide +kernel
theorem dX4_untilDry_4 : decode cX4_untilDry 4 = .ok (.ifCond .ne 5, 3) := by decide +kernel
theorem dX4_untilDry_7 : decode cX4_untilDry 7 = .ok (.iconst (-1), 1) := by decide +kernel
theorem dX4_untilDry_8 : decode cX4_untilDry 8 = .ok (.ireturn, 1) := by decide +kernel
theorem dX4_untilDry_9 : decode cX4_untilDry 9 = .ok (.aload_n 0, 1) := by decide +kernel
theorem dX4_untilDry_10 : decode cX4_untilDry 10 = .ok (.getfield 10, 3) := by decide +kernel
theorem dX4_untilDry_13 : decode cX4_untilDry 13 = .ok (.getfield 65, 3) := by decide +kernel
theorem dX4_untilDry_16 : decode cX4_untilDry 16 = .ok (.iload_n 1, 1) := by decide +kernel
theorem dX4_untilDry_17 : decode cX4_untilDry 17 = .ok (.iaload, 1) := by decide +kernel
theorem dX4_untilDry_18 : decode cX4_untilDry 18 = .ok (.istore_n 2, 1) := by decide +kernel
theorem dX4_untilDry_19 : decode cX4_untilDry 19 = .ok (.aload_n 0, 1) := by decide +kernel
theorem dX4_untilDry_20 : decode cX4_untilDry 20 = .ok (.getfield 10, 3) := by decide +kernel
theorem dX4_untilDry_23 : decode cX4_untilDry 23 = .ok (.getfield 48, 3) := by decide +kernel
theorem dX4_untilDry_26 : decode cX4_untilDry 26 = .ok (.iconst 1, 1) := by decide +kernel
theorem dX4_untilDry_27 : decode cX4_untilDry 27 = .ok (.iaload, 1) := by decide +kernel
theorem dX4_untilDry_28 : decode cX4_untilDry 28 = .ok (.istore_n 3, 1) := by decide +kernel
theorem dX4_untilDry_29 : decode cX4_untilDry 29 = .ok (.iload_n 2, 1) := by decide +kernel
theorem dX4_untilDry_30 : decode cX4_untilDry 30 = .ok (.ifCond .ne 5, 3) := by decide +kernel
theorem dX4_untilDry_33 : decode cX4_untilDry 33 = .ok (.iconst 0, 1) := by decide +kernel
theorem dX4_untilDry_34 : decode cX4_untilDry 34 = .ok (.ireturn, 1) := by decide +kernel
theorem dX4_untilDry_35 : decode cX4_untilDry 35 = .ok (.iload_n 3, 1) := by decide +kernel
theorem dX4_untilDry_36 : decode cX4_untilDry 36 = .ok (.ifCond .gt 6, 3) := by decide +kernel
theorem dX4_untilDry_39 : decode cX4_untilDry 39 = .ok (.bipush (-6), 2) := by decide +kernel
theorem dX4_untilDry_41 : decode cX4_untilDry 41 = .ok (.ireturn, 1) := by decide +kernel
theorem dX4_untilDry_42 : decode cX4_untilDry 42 = .ok (.iload_n 2, 1) := by decide +kernel
theorem dX4_untilDry_43 : decode cX4_untilDry 43 = .ok (.iload_n 3, 1) := by decide +kernel
theorem dX4_untilDry_44 : decode cX4_untilDry 44 = .ok (.iadd, 1) := by decide +kernel
theorem dX4_untilDry_45 : decode cX4_untilDry 45 = .ok (.iconst 1, 1) := by decide +kernel
theorem dX4_untilDry_46 : decode cX4_untilDry 46 = .ok (.isub, 1) := by decide +kernel
theorem dX4_untilDry_47 : decode cX4_untilDry 47 = .ok (.iload_n 3, 1) := by decide +kernel
theorem dX4_untilDry_48 : decode cX4_untilDry 48 = .ok (.idiv, 1) := by decide +kernel
theorem dX4_untilDry_49 : decode cX4_untilDry 49 = .ok (.istore 4, 2) := by decide +kernel
theorem dX4_untilDry_51 : decode cX4_untilDry 51 = .ok (.aload_n 0, 1) := by decide +kernel
theorem dX4_untilDry_52 : decode cX4_untilDry 52 = .ok (.getfield 10, 3) := by decide +kernel
theorem dX4_untilDry_55 : decode cX4_untilDry 55 = .ok (.iload_n 1, 1) := by decide +kernel
theorem dX4_untilDry_56 : decode cX4_untilDry 56 = .ok (.invokevirtual 137, 3) := by decide +kernel
theorem dX4_untilDry_59 : decode cX4_untilDry 59 = .ok (.ifCond .eq 10, 3) := by decide +kernel
theorem dX4_untilDry_62 : decode cX4_untilDry 62 = .ok (.iload 4, 2) := by decide +kernel
theorem dX4_untilDry_64 : decode cX4_untilDry 64 = .ok (.iconst 1, 1) := by decide +kernel
theorem dX4_untilDry_65 : decode cX4_untilDry 65 = .ok (.iadd, 1) := by decide +kernel
theorem dX4_untilDry_66 : decode cX4_untilDry 66 = .ok (.goto 5, 3) := by decide +kernel
theorem dX4_untilDry_69 : decode cX4_untilDry 69 = .ok (.iload 4, 2) := by decide +kernel
theorem dX4_untilDry_71 : decode cX4_untilDry 71 = .ok (.ireturn, 1) := by decide +kernel
set_option maxRecDepth 20000 in
theorem ggX4_leastShoes_X4_isWalker : GoodIn wsX4_leastShoes wsX4_isWalker := goodIn_r _ [5] (by decide +kernel) (by decide +kernel)
set_option maxRecDepth 20000 in
theorem gX4_leastShoes_X4_isWalker : GoodIn wsX4_leastShoes (va_wsS RX4 72 yX4_isWalker wsX4_isWalker) := goodIn_app (goodIn_of _ (by decide +kernel)) ggX4_leastShoes_X4_isWalker
set_option maxRecDepth 20000 in
theorem ggX4_leastShoes_X3_allowsAllWith : GoodIn wsX4_leastShoes wsX3_allowsAllWith := goodIn_r _ [10, 11, 12, 13, 9, 14, 15, 16, 17, 18, 19, 20, 4, 21, 22, 23, 24, 25, 26, 27, 28, 29, 30, 31, 32, 33, 34, 35, 36, 37, 38, 39, 40, 41, 46, 47, 48, 49, 50, 51, 52, 53, 54, 55, 56, 57, 58, 59, 60] (by decide +kernel) (by decide +kernel)
set_option maxRecDepth 20000 in
theorem gX4_leastShoes_X3_allowsAllWith : GoodIn wsX4_leastShoes (wsV RX4 182 RX3 yX3_allowsAllWith wsX3_allowsAllWith) := goodIn_app (goodIn_of _ (by decide +kernel)) ggX4_leastShoes_X3_allowsAllWith
theorem dX4_leastShoes_0 : decode cX4_leastShoes 0 = .ok (.iload_n 1, 1) := by decide +kernel
theorem dX4_leastShoes_1 : decode cX4_leastShoes 1 = .ok (.invokestatic 72, 3) := by decide +kernel
theorem dX4_leastShoes_4 : decode cX4_leastShoes 4 = .ok (.ifCond .ne 5, 3) := by decide +kernel
theorem dX4_leastShoes_7 : decode cX4_leastShoes 7 = .ok (.iconst (-1), 1) := by decide +kernel
theorem dX4_leastShoes_8 : decode cX4_leastShoes 8 = .ok (.ireturn, 1) := by decide +kernel
theorem dX4_leastShoes_9 : decode cX4_leastShoes 9 = .ok (.iconst 0, 1) := by decide +kernel
theorem dX4_leastShoes_10 : decode cX4_leastShoes 10 = .ok (.istore_n 2, 1) := by decide +kernel
theorem dX4_leastShoes_11 : decode cX4_leastShoes 11 = .ok (.iload_n 2, 1) := by decide +kernel
theorem dX4_leastShoes_12 : decode cX4_leastShoes 12 = .ok (.iconst 3, 1) := by decide +kernel
theorem dX4_leastShoes_13 : decode cX4_leastShoes 13 = .ok (.if_icmp .gt 23, 3) := by decide +kernel
theorem dX4_leastShoes_16 : decode cX4_leastShoes 16 = .ok (.aload_n 0, 1) := by decide +kernel
theorem dX4_leastShoes_17 : decode cX4_leastShoes 17 = .ok (.getfield 10, 3) := by decide +kernel
theorem dX4_leastShoes_20 : decode cX4_leastShoes 20 = .ok (.iload_n 1, 1) := by decide +kernel
theorem dX4_leastShoes_21 : decode cX4_leastShoes 21 = .ok (.iload_n 2, 1) := by decide +kernel
theorem dX4_leastShoes_22 : decode cX4_leastShoes 22 = .ok (.invokevirtual 182, 3) := by decide +kernel
theorem dX4_leastShoes_25 : decode cX4_leastShoes 25 = .ok (.ifCond .eq 5, 3) := by decide +kernel
theorem dX4_leastShoes_28 : decode cX4_leastShoes 28 = .ok (.iload_n 2, 1) := by decide +kernel
theorem dX4_leastShoes_29 : decode cX4_leastShoes 29 = .ok (.ireturn, 1) := by decide +kernel
theorem dX4_leastShoes_30 : decode cX4_leastShoes 30 = .ok (.iinc 2 1, 3) := by decide +kernel
theorem dX4_leastShoes_33 : decode cX4_leastShoes 33 = .ok (.goto (-22), 3) := by decide +kernel
theorem dX4_leastShoes_36 : decode cX4_leastShoes 36 = .ok (.bipush (-6), 2) := by decide +kernel
theorem dX4_leastShoes_38 : decode cX4_leastShoes 38 = .ok (.ireturn, 1) := by decide +kernel
set_option maxRecDepth 20000 in
theorem ggX4_longestWalk_X4_isWalker : GoodIn wsX4_longestWalk wsX4_isWalker := goodIn_r _ [5] (by decide +kernel) (by decide +kernel)
set_option maxRecDepth 20000 in
theorem gX4_longestWalk_X4_isWalker : GoodIn wsX4_longestWalk (va_wsS RX4 72 yX4_isWalker wsX4_isWalker) := goodIn_app (goodIn_of _ (by decide +kernel)) ggX4_longestWalk_X4_isWalker
set_option maxRecDepth 20000 in
theorem ggX4_longestWalk_X3_allowedFor : GoodIn wsX4_longestWalk wsX3_allowedFor := goodIn_r _ [10, 11, 12, 13, 9, 14, 15, 16, 17, 18, 19, 20, 21, 22, 23, 24, 25, 4, 26, 27, 28, 29, 30, 31, 32, 33, 34, 35, 36, 37, 38, 39, 40, 41, 42, 43, 44, 45, 46, 52, 53, 54, 55, 56, 57, 58, 59, 60, 61, 62, 63, 64, 65, 66] (by decide +kernel) (by decide +kernel)
set_option maxRecDepth 20000 in
theorem gX4_longestWalk_X3_allowedFor : GoodIn wsX4_longestWalk (wsV RX4 149 RX3 yX3_allowedFor wsX3_allowedFor) := goodIn_app (goodIn_of _ (by decide +kernel)) ggX4_longestWalk_X3_allowedFor
set_option maxRecDepth 20000 in
theorem ggX4_longestWalk_X4_isIn : GoodIn wsX4_longestWalk wsX4_isIn := goodIn_r _ [26] (by decide +kernel) (by decide +kernel)
set_option maxRecDepth 20000 in
theorem gX4_longestWalk_X4_isIn : GoodIn wsX4_longestWalk (va_wsS RX4 186 yX4_isIn wsX4_isIn) := goodIn_app (goodIn_of _ (by decide +kernel)) ggX4_longestWalk_X4_isIn
theorem dX4_longestWalk_0 : decode cX4_longestWalk 0 = .ok (.iload_n 1, 1) := by decide +kernel
theorem dX4_longestWalk_1 : decode cX4_longestWalk 1 = .ok (.invokestatic 72, 3) := by decide +kernel
theorem dX4_longestWalk_4 : decode cX4_longestWalk 4 = .ok (.ifCond .ne 5, 3) := by decide +kernel
theorem dX4_longestWalk_7 : decode cX4_longestWalk 7 = .ok (.iconst (-1), 1) := by decide +kernel
theorem dX4_longestWalk_8 : decode cX4_longestWalk 8 = .ok (.ireturn, 1) := by decide +kernel
theorem dX4_longestWalk_9 : decode cX4_longestWalk 9 = .ok (.iload_n 2, 1) := by decide +kernel
theorem dX4_longestWalk_10 : decode cX4_longestWalk 10 = .ok (.ifCond .eq 11, 3) := by decide +kernel
theorem dX4_longestWalk_13 : decode cX4_longestWalk 13 = .ok (.iload_n 2, 1) := by decide +kernel
theorem dX4_longestWalk_14 : decode cX4_longestWalk 14 = .ok (.iconst 1, 1) := by decide +kernel
theorem dX4_longestWalk_15 : decode cX4_longestWalk 15 = .ok (.if_icmp .eq 6, 3) := by decide +kernel
theorem dX4_longestWalk_18 : decode cX4_longestWalk 18 = .ok (.bipush (-2), 2) := by decide +kernel
theorem dX4_longestWalk_20 : decode cX4_longestWalk 20 = .ok (.ireturn, 1) := by decide +kernel
theorem dX4_longestWalk_21 : decode cX4_longestWalk 21 = .ok (.aload_n 0, 1) := by decide +kernel
theorem dX4_longestWalk_22 : decode cX4_longestWalk 22 = .ok (.getfield 10, 3) := by decide +kernel
theorem dX4_longestWalk_25 : decode cX4_longestWalk 25 = .ok (.iload_n 1, 1) := by decide +kernel
theorem dX4_longestWalk_26 : decode cX4_longestWalk 26 = .ok (.invokevirtual 149, 3) := by decide +kernel
theorem dX4_longestWalk_29 : decode cX4_longestWalk 29 = .ok (.istore_n 3, 1) := by decide +kernel
theorem dX4_longestWalk_30 : decode cX4_longestWalk 30 = .ok (.iconst 0, 1) := by decide +kernel
theorem dX4_longestWalk_31 : decode cX4_longestWalk 31 = .ok (.istore 4, 2) := by decide +kernel
theorem dX4_longestWalk_33 : decode cX4_longestWalk 33 = .ok (.iconst 0, 1) := by decide +kernel
theorem dX4_longestWalk_34 : decode cX4_longestWalk 34 = .ok (.istore 5, 2) := by decide +kernel
theorem dX4_longestWalk_36 : decode cX4_longestWalk 36 = .ok (.bipush (-6), 2) := by decide +kernel
theorem dX4_longestWalk_38 : decode cX4_longestWalk 38 = .ok (.istore 6, 2) := by decide +kernel
theorem dX4_longestWalk_40 : decode cX4_longestWalk 40 = .ok (.iconst 0, 1) := by decide +kernel
theorem dX4_longestWalk_41 : decode cX4_longestWalk 41 = .ok (.istore 7, 2) := by decide +kernel
theorem dX4_longestWalk_43 : decode cX4_longestWalk 43 = .ok (.iload 7, 2) := by decide +kernel
theorem dX4_longestWalk_45 : decode cX4_longestWalk 45 = .ok (.bipush 12, 2) := by decide +kernel
theorem dX4_longestWalk_47 : decode cX4_longestWalk 47 = .ok (.if_icmp .ge 48, 3) := by decide +kernel
theorem dX4_longestWalk_50 : decode cX4_longestWalk 50 = .ok (.iload_n 3, 1) := by decide +kernel
theorem dX4_longestWalk_51 : decode cX4_longestWalk 51 = .ok (.iload 7, 2) := by decide +kernel
theorem dX4_longestWalk_53 : decode cX4_longestWalk 53 = .ok (.invokestatic 186, 3) := by decide +kernel
theorem dX4_longestWalk_56 : decode cX4_longestWalk 56 = .ok (.ifCond .eq 10, 3) := by decide +kernel
theorem dX4_longestWalk_59 : decode cX4_longestWalk 59 = .ok (.iload 4, 2) := by decide +kernel
theorem dX4_longestWalk_61 : decode cX4_longestWalk 61 = .ok (.iconst 1, 1) := by decide +kernel
theorem dX4_longestWalk_62 : decode cX4_longestWalk 62 = .ok (.iadd, 1) := by decide +kernel
theorem dX4_longestWalk_63 : decode cX4_longestWalk 63 = .ok (.goto 4, 3) := by decide +kernel
theorem dX4_longestWalk_66 : decode cX4_longestWalk 66 = .ok (.iconst 0, 1) := by decide +kernel
theorem dX4_longestWalk_67 : decode cX4_longestWalk 67 = .ok (.istore 4, 2) := by decide +kernel
theorem dX4_longestWalk_69 : decode cX4_longestWalk 69 = .ok (.iload 4, 2) := by decide +kernel
theorem dX4_longestWalk_71 : decode cX4_longestWalk 71 = .ok (.iload 5, 2) := by decide +kernel
theorem dX4_longestWalk_73 : decode cX4_longestWalk 73 = .ok (.if_icmp .le 16, 3) := by decide +kernel
theorem dX4_longestWalk_76 : decode cX4_longestWalk 76 = .ok (.iload 4, 2) := by decide +kernel
theorem dX4_longestWalk_78 : decode cX4_longestWalk 78 = .ok (.istore 5, 2) := by decide +kernel
theorem dX4_longestWalk_80 : decode cX4_longestWalk 80 = .ok (.iload 7, 2) := by decide +kernel
theorem dX4_longestWalk_82 : decode cX4_longestWalk 82 = .ok (.iload 4, 2) := by decide +kernel
theorem dX4_longestWalk_84 : decode cX4_longestWalk 84 = .ok (.isub, 1) := by decide +kernel
theorem dX4_longestWalk_85 : decode cX4_longestWalk 85 = .ok (.iconst 1, 1) := by decide +kernel
theorem dX4_longestWalk_86 : decode cX4_longestWalk 86 = .ok (.iadd, 1) := by decide +kernel
theorem dX4_longestWalk_87 : decode cX4_longestWalk 87 = .ok (.istore 6, 2) := by decide +kernel
theorem dX4_longestWalk_89 : decode cX4_longestWalk 89 = .ok (.iinc 7 1, 3) := by decide +kernel
theorem dX4_longestWalk_92 : decode cX4_longestWalk 92 = .ok (.goto (-49), 3) := by decide +kernel
theorem dX4_longestWalk_95 : decode cX4_longestWalk 95 = .ok (.iload_n 2, 1) := by decide +kernel
theorem dX4_longestWalk_96 : decode cX4_longestWalk 96 = .ok (.ifCond .ne 8, 3) := by decide +kernel
theorem dX4_longestWalk_99 : decode cX4_longestWalk 99 = .ok (.iload 5, 2) := by decide +kernel
theorem dX4_longestWalk_101 : decode cX4_longestWalk 101 = .ok (.goto 5, 3) := by decide +kernel
theorem dX4_longestWalk_104 : decode cX4_longestWalk 104 = .ok (.iload 6, 2) := by decide +kernel
theorem dX4_longestWalk_106 : decode cX4_longestWalk 106 = .ok (.ireturn, 1) := by decide +kernel
set_option maxRecDepth 20000 in
theorem ggX4_put_X1_charactersIn : GoodIn wsX4_put wsX1_charactersIn := goodIn_r _ [6, 7, 8, 9] (by decide +kernel) (by decide +kernel)
set_option maxRecDepth 20000 in
theorem gX4_put_X1_charactersIn : GoodIn wsX4_put (va_wsS RX4 189 yX1_charactersIn wsX1_charactersIn) := goodIn_app (goodIn_of _ (by decide +kernel)) ggX4_put_X1_charactersIn
set_option maxRecDepth 20000 in
theorem ggX4_put_X1_append : GoodIn wsX4_put wsX1_append := goodIn_r _ [13, 14, 15, 7, 20, 21] (by decide +kernel) (by decide +kernel)
set_option maxRecDepth 20000 in
theorem gX4_put_X1_append : GoodIn wsX4_put (wsV RX4 193 RX1 yX1_append wsX1_append) := goodIn_app (goodIn_of _ (by decide +kernel)) ggX4_put_X1_append
theorem dX4_put_0 : decode cX4_put 0 = .ok (.lload_n 1, 1) := by decide +kernel
theorem dX4_put_1 : decode cX4_put 1 = .ok (.invokestatic 189, 3) := by decide +kernel
theorem dX4_put_4 : decode cX4_put 4 = .ok (.istore_n 3, 1) := by decide +kernel
theorem dX4_put_5 : decode cX4_put 5 = .ok (.iload_n 3, 1) := by decide +kernel
theorem dX4_put_6 : decode cX4_put 6 = .ok (.ifCond .ne 6, 3) := by decide +kernel
theorem dX4_put_9 : decode cX4_put 9 = .ok (.bipush (-2), 2) := by decide +kernel
theorem dX4_put_11 : decode cX4_put 11 = .ok (.ireturn, 1) := by decide +kernel
theorem dX4_put_12 : decode cX4_put 12 = .ok (.aload_n 0, 1) := by decide +kernel
theorem dX4_put_13 : decode cX4_put 13 = .ok (.getfield 19, 3) := by decide +kernel
theorem dX4_put_16 : decode cX4_put 16 = .ok (.getfield 128, 3) := by decide +kernel
theorem dX4_put_19 : decode cX4_put 19 = .ok (.iload_n 3, 1) := by decide +kernel
theorem dX4_put_20 : decode cX4_put 20 = .ok (.iadd, 1) := by decide +kernel
theorem dX4_put_21 : decode cX4_put 21 = .ok (.bipush 60, 2) := by decide +kernel
theorem dX4_put_23 : decode cX4_put 23 = .ok (.if_icmp .le 6, 3) := by decide +kernel
theorem dX4_put_26 : decode cX4_put 26 = .ok (.bipush (-4), 2) := by decide +kernel
theorem dX4_put_28 : decode cX4_put 28 = .ok (.ireturn, 1) := by decide +kernel
theorem dX4_put_29 : decode cX4_put 29 = .ok (.aload_n 0, 1) := by decide +kernel
theorem dX4_put_30 : decode cX4_put 30 = .ok (.getfield 19, 3) := by decide +kernel
theorem dX4_put_33 : decode cX4_put 33 = .ok (.lload_n 1, 1) := by decide +kernel
theorem dX4_put_34 : decode cX4_put 34 = .ok (.iload_n 3, 1) := by decide +kernel
theorem dX4_put_35 : decode cX4_put 35 = .ok (.invokevirtual 193, 3) := by decide +kernel
theorem dX4_put_38 : decode cX4_put 38 = .ok (.aload_n 0, 1) := by decide +kernel
theorem dX4_put_39 : decode cX4_put 39 = .ok (.getfield 19, 3) := by decide +kernel
theorem dX4_put_42 : decode cX4_put 42 = .ok (.getfield 128, 3) := by decide +kernel
theorem dX4_put_45 : decode cX4_put 45 = .ok (.ireturn, 1) := by decide +kernel
theorem dX4_wipe_0 : decode cX4_wipe 0 = .ok (.aload_n 0, 1) := by decide +kernel
theorem dX4_wipe_1 : decode cX4_wipe 1 = .ok (.getfield 19, 3) := by decide +kernel
theorem dX4_wipe_4 : decode cX4_wipe 4 = .ok (.getfield 128, 3) := by decide +kernel
theorem dX4_wipe_7 : decode cX4_wipe 7 = .ok (.istore_n 1, 1) := by decide +kernel
theorem dX4_wipe_8 : decode cX4_wipe 8 = .ok (.aload_n 0, 1) := by decide +kernel
theorem dX4_wipe_9 : decode cX4_wipe 9 = .ok (.getfield 19, 3) := by decide +kernel
theorem dX4_wipe_12 : decode cX4_wipe 12 = .ok (.iconst 0, 1) := by decide +kernel
theorem dX4_wipe_13 : decode cX4_wipe 13 = .ok (.putfield 128, 3) := by decide +kernel
theorem dX4_wipe_16 : decode cX4_wipe 16 = .ok (.iload_n 1, 1) := by decide +kernel
theorem dX4_wipe_17 : decode cX4_wipe 17 = .ok (.ireturn, 1) := by decide +kernel
set_option maxRecDepth 20000 in
theorem ggX4_fault_X1_findFault : GoodIn wsX4_fault wsX1_findFault := goodIn_r _ [6, 7, 8, 9, 10, 5, 11, 12, 13, 14, 19, 20] (by decide +kernel) (by decide +kernel)
set_option maxRecDepth 20000 in
theorem gX4_fault_X1_findFault : GoodIn wsX4_fault (wsV RX4 121 RX1 yX1_findFault wsX1_findFault) := goodIn_app (goodIn_of _ (by decide +kernel)) ggX4_fault_X1_findFault
theorem dX4_fault_0 : decode cX4_fault 0 = .ok (.aload_n 0, 1) := by decide +kernel
theorem dX4_fault_1 : decode cX4_fault 1 = .ok (.getfield 19, 3) := by decide +kernel
theorem dX4_fault_4 : decode cX4_fault 4 = .ok (.invokevirtual 121, 3) := by decide +kernel
theorem dX4_fault_7 : decode cX4_fault 7 = .ok (.ireturn, 1) := by decide +kernel
set_option maxRecDepth 20000 in
theorem ggX4_undo_X0_takeBack : GoodIn wsX4_undo wsX0_takeBack := goodIn_r _ [8, 9, 10, 11, 12, 13, 14, 15, 16, 17, 18, 19, 20, 21, 22, 23, 24, 25, 26, 27, 28, 29, 30, 31, 32, 33, 38, 39, 40, 41, 42, 43, 44, 45, 46, 47, 48, 49, 50, 51, 52, 53, 54] (by decide +kernel) (by decide +kernel)
set_option maxRecDepth 20000 in
theorem gX4_undo_X0_takeBack : GoodIn wsX4_undo (wsV RX4 197 RX0 yX0_takeBack wsX0_takeBack) := goodIn_app (goodIn_of _ (by decide +kernel)) ggX4_undo_X0_takeBack
theorem dX4_undo_0 : decode cX4_undo 0 = .ok (.aload_n 0, 1) := by decide +kernel
theorem dX4_undo_1 : decode cX4_undo 1 = .ok (.getfield 26, 3) := by decide +kernel
theorem dX4_undo_4 : decode cX4_undo 4 = .ok (.getfield 173, 3) := by decide +kernel
theorem dX4_undo_7 : decode cX4_undo 7 = .ok (.ifCond .ne 6, 3) := by decide +kernel
theorem dX4_undo_10 : decode cX4_undo 10 = .ok (.bipush (-5), 2) := by decide +kernel
theorem dX4_undo_12 : decode cX4_undo 12 = .ok (.ireturn, 1) := by decide +kernel
theorem dX4_undo_13 : decode cX4_undo 13 = .ok (.aload_n 0, 1) := by decide +kernel
theorem dX4_undo_14 : decode cX4_undo 14 = .ok (.getfield 26, 3) := by decide +kernel
theorem dX4_undo_17 : decode cX4_undo 17 = .ok (.aload_n 0, 1) := by decide +kernel
theorem dX4_undo_18 : decode cX4_undo 18 = .ok (.getfield 10, 3) := by decide +kernel
theorem dX4_undo_21 : decode cX4_undo 21 = .ok (.invokevirtual 197, 3) := by decide +kernel
theorem dX4_undo_24 : decode cX4_undo 24 = .ok (.aload_n 0, 1) := by decide +kernel
theorem dX4_undo_25 : decode cX4_undo 25 = .ok (.getfield 26, 3) := by decide +kernel
theorem dX4_undo_28 : decode cX4_undo 28 = .ok (.getfield 173, 3) := by decide +kernel
theorem dX4_undo_31 : decode cX4_undo 31 = .ok (.ireturn, 1) := by decide +kernel
set_option maxRecDepth 20000 in
theorem ggX4_save_X3_copyFrom : GoodIn wsX4_save wsX3_copyFrom := goodIn_r _ [10, 11, 12, 13, 14, 15, 16, 17, 18, 19, 20, 21, 22, 23, 24, 25, 26, 27, 28, 35, 36, 37, 38, 39, 40, 41, 42, 43, 44, 45, 46, 47, 48, 49] (by decide +kernel) (by decide +kernel)
set_option maxRecDepth 20000 in
theorem gX4_save_X3_copyFrom : GoodIn wsX4_save (wsV RX4 204 RX3 yX3_copyFrom wsX3_copyFrom) := goodIn_app (goodIn_of _ (by decide +kernel)) ggX4_save_X3_copyFrom
theorem dX4_save_0 : decode cX4_save 0 = .ok (.iload_n 1, 1) := by decide +kernel
theorem dX4_save_1 : decode cX4_save 1 = .ok (.ifCond .lt 8, 3) := by decide +kernel
theorem dX4_save_4 : decode cX4_save 4 = .ok (.iload_n 1, 1) := by decide +kernel
theorem dX4_save_5 : decode cX4_save 5 = .ok (.iconst 2, 1) := by decide +kernel
theorem dX4_save_6 : decode cX4_save 6 = .ok (.if_icmp .lt 6, 3) := by decide +kernel
theorem dX4_save_9 : decode cX4_save 9 = .ok (.bipush (-2), 2) := by decide +kernel
theorem dX4_save_11 : decode cX4_save 11 = .ok (.ireturn, 1) := by decide +kernel
theorem dX4_save_12 : decode cX4_save 12 = .ok (.aload_n 0, 1) := by decide +kernel
theorem dX4_save_13 : decode cX4_save 13 = .ok (.getfield 33, 3) := by decide +kernel
theorem dX4_save_16 : decode cX4_save 16 = .ok (.getfield 200, 3) := by decide +kernel
theorem dX4_save_19 : decode cX4_save 19 = .ok (.iload_n 1, 1) := by decide +kernel
theorem dX4_save_20 : decode cX4_save 20 = .ok (.aaload, 1) := by decide +kernel
theorem dX4_save_21 : decode cX4_save 21 = .ok (.aload_n 0, 1) := by decide +kernel
theorem dX4_save_22 : decode cX4_save 22 = .ok (.getfield 10, 3) := by decide +kernel
theorem dX4_save_25 : decode cX4_save 25 = .ok (.invokevirtual 204, 3) := by decide +kernel
theorem dX4_save_28 : decode cX4_save 28 = .ok (.aload_n 0, 1) := by decide +kernel
theorem dX4_save_29 : decode cX4_save 29 = .ok (.getfield 33, 3) := by decide +kernel
theorem dX4_save_32 : decode cX4_save 32 = .ok (.getfield 207, 3) := by decide +kernel
theorem dX4_save_35 : decode cX4_save 35 = .ok (.iload_n 1, 1) := by decide +kernel
theorem dX4_save_36 : decode cX4_save 36 = .ok (.iconst 1, 1) := by decide +kernel
theorem dX4_save_37 : decode cX4_save 37 = .ok (.bastore, 1) := by decide +kernel
theorem dX4_save_38 : decode cX4_save 38 = .ok (.aload_n 0, 1) := by decide +kernel
theorem dX4_save_39 : decode cX4_save 39 = .ok (.getfield 10, 3) := by decide +kernel
theorem dX4_save_42 : decode cX4_save 42 = .ok (.getfield 110, 3) := by decide +kernel
theorem dX4_save_45 : decode cX4_save 45 = .ok (.ireturn, 1) := by decide +kernel
set_option maxRecDepth 20000 in
theorem ggX4_restore_X0_record : GoodIn wsX4_restore wsX0_record := goodIn_r _ [11, 12, 13, 14, 15, 16, 10, 17, 18, 19, 20, 21, 22, 23, 24, 25, 26, 27, 28, 29, 30, 31, 32, 33, 34, 35, 36, 37, 38, 39, 40, 63, 64, 48, 49, 50, 51, 52, 53, 54, 55, 56, 57, 58, 59, 60, 61, 62] (by decide +kernel) (by decide +kernel)
set_option maxRecDepth 20000 in
theorem gX4_restore_X0_record : GoodIn wsX4_restore (wsV RX4 44 RX0 yX0_record wsX0_record) := goodIn_app (goodIn_of _ (by decide +kernel)) ggX4_restore_X0_record
set_option maxRecDepth 20000 in
theorem ggX4_restore_X3_copyFrom : GoodIn wsX4_restore wsX3_copyFrom := goodIn_r _ [22, 23, 24, 25, 26, 27, 28, 29, 30, 31, 32, 33, 34, 35, 36, 37, 38, 39, 40, 48, 49, 50, 51, 52, 53, 54, 55, 56, 57, 58, 59, 60, 61, 62] (by decide +kernel) (by decide +kernel)
set_option maxRecDepth 20000 in
theorem gX4_restore_X3_copyFrom : GoodIn wsX4_restore (wsV RX4 204 RX3 yX3_copyFrom wsX3_copyFrom) := goodIn_app (goodIn_of _ (by decide +kernel)) ggX4_restore_X3_copyFrom
theorem dX4_restore_0 : decode cX4_restore 0 = .ok (.iload_n 1, 1) := by decide +kernel
theorem dX4_restore_1 : decode cX4_restore 1 = .ok (.ifCond .lt 8, 3) := by decide +kernel
theorem dX4_restore_4 : decode cX4_restore 4 = .ok (.iload_n 1, 1) := by decide +kernel
theorem dX4_restore_5 : decode cX4_restore 5 = .ok (.iconst 2, 1) := by decide +kernel
theorem dX4_restore_6 : decode cX4_restore 6 = .ok (.if_icmp .lt 6, 3) := by decide +kernel
theorem dX4_restore_9 : decode cX4_restore 9 = .ok (.bipush (-2), 2) := by decide +kernel
theorem dX4_restore_11 : decode cX4_restore 11 = .ok (.ireturn, 1) := by decide +kernel
theorem dX4_restore_12 : decode cX4_restore 12 = .ok (.aload_n 0, 1) := by decide +kernel
theorem dX4_restore_13 : decode cX4_restore 13 = .ok (.getfield 33, 3) := by decide +kernel
theorem dX4_restore_16 : decode cX4_restore 16 = .ok (.getfield 207, 3) := by decide +kernel
theorem dX4_restore_19 : decode cX4_restore 19 = .ok (.iload_n 1, 1) := by decide +kernel
theorem dX4_restore_20 : decode cX4_restore 20 = .ok (.baload, 1) := by decide +kernel
theorem dX4_restore_21 : decode cX4_restore 21 = .ok (.ifCond .ne 6, 3) := by decide +kernel
theorem dX4_restore_24 : decode cX4_restore 24 = .ok (.bipush (-5), 2) := by decide +kernel
theorem dX4_restore_26 : decode cX4_restore 26 = .ok (.ireturn, 1) := by decide +kernel
theorem dX4_restore_27 : decode cX4_restore 27 = .ok (.aload_n 0, 1) := by decide +kernel
theorem dX4_restore_28 : decode cX4_restore 28 = .ok (.getfield 26, 3) := by decide +kernel
theorem dX4_restore_31 : decode cX4_restore 31 = .ok (.aload_n 0, 1) := by decide +kernel
theorem dX4_restore_32 : decode cX4_restore 32 = .ok (.getfield 10, 3) := by decide +kernel
theorem dX4_restore_35 : decode cX4_restore 35 = .ok (.invokevirtual 44, 3) := by decide +kernel
theorem dX4_restore_38 : decode cX4_restore 38 = .ok (.aload_n 0, 1) := by decide +kernel
theorem dX4_restore_39 : decode cX4_restore 39 = .ok (.getfield 10, 3) := by decide +kernel
theorem dX4_restore_42 : decode cX4_restore 42 = .ok (.aload_n 0, 1) := by decide +kernel
theorem dX4_restore_43 : decode cX4_restore 43 = .ok (.getfield 33, 3) := by decide +kernel
theorem dX4_restore_46 : decode cX4_restore 46 = .ok (.getfield 200, 3) := by decide +kernel
theorem dX4_restore_49 : decode cX4_restore 49 = .ok (.iload_n 1, 1) := by decide +kernel
theorem dX4_restore_50 : decode cX4_restore 50 = .ok (.aaload, 1) := by decide +kernel
theorem dX4_restore_51 : decode cX4_restore 51 = .ok (.invokevirtual 204, 3) := by decide +kernel
theorem dX4_restore_54 : decode cX4_restore 54 = .ok (.aload_n 0, 1) := by decide +kernel
theorem dX4_restore_55 : decode cX4_restore 55 = .ok (.getfield 10, 3) := by decide +kernel
theorem dX4_restore_58 : decode cX4_restore 58 = .ok (.getfield 110, 3) := by decide +kernel
theorem dX4_restore_61 : decode cX4_restore 61 = .ok (.ireturn, 1) := by decide +kernel
theorem dX4_isPuddle_0 : decode cX4_isPuddle 0 = .ok (.iload_n 0, 1) := by decide +kernel
theorem dX4_isPuddle_1 : decode cX4_isPuddle 1 = .ok (.ifCond .lt 13, 3) := by decide +kernel
theorem dX4_isPuddle_4 : decode cX4_isPuddle 4 = .ok (.iload_n 0, 1) := by decide +kernel
theorem dX4_isPuddle_5 : decode cX4_isPuddle 5 = .ok (.bipush 12, 2) := by decide +kernel
theorem dX4_isPuddle_7 : decode cX4_isPuddle 7 = .ok (.if_icmp .ge 7, 3) := by decide +kernel
theorem dX4_isPuddle_10 : decode cX4_isPuddle 10 = .ok (.iconst 1, 1) := by decide +kernel
theorem dX4_isPuddle_11 : decode cX4_isPuddle 11 = .ok (.goto 4, 3) := by decide +kernel
theorem dX4_isPuddle_14 : decode cX4_isPuddle 14 = .ok (.iconst 0, 1) := by decide +kernel
theorem dX4_isPuddle_15 : decode cX4_isPuddle 15 = .ok (.ireturn, 1) := by decide +kernel
theorem dX4_isWalker_0 : decode cX4_isWalker 0 = .ok (.iload_n 0, 1) := by decide +kernel
theorem dX4_isWalker_1 : decode cX4_isWalker 1 = .ok (.ifCond .lt 13, 3) := by decide +kernel
theorem dX4_isWalker_4 : decode cX4_isWalker 4 = .ok (.iload_n 0, 1) := by decide +kernel
theorem dX4_isWalker_5 : decode cX4_isWalker 5 = .ok (.bipush 6, 2) := by decide +kernel
theorem dX4_isWalker_7 : decode cX4_isWalker 7 = .ok (.if_icmp .ge 7, 3) := by decide +kernel
theorem dX4_isWalker_10 : decode cX4_isWalker 10 = .ok (.iconst 1, 1) := by decide +kernel
theorem dX4_isWalker_11 : decode cX4_isWalker 11 = .ok (.goto 4, 3) := by decide +kernel
theorem dX4_isWalker_14 : decode cX4_isWalker 14 = .ok (.iconst 0, 1) := by decide +kernel
theorem dX4_isWalker_15 : decode cX4_isWalker 15 = .ok (.ireturn, 1) := by decide +kernel
theorem dX4_isIn_0 : decode cX4_isIn 0 = .ok (.iload_n 0, 1) := by decide +kernel
theorem dX4_isIn_1 : decode cX4_isIn 1 = .ok (.iload_n 1, 1) := by decide +kernel
theorem dX4_isIn_2 : decode cX4_isIn 2 = .ok (.ishr, 1) := by decide +kernel
theorem dX4_isIn_3 : decode cX4_isIn 3 = .ok (.iconst 1, 1) := by decide +kernel
theorem dX4_isIn_4 : decode cX4_isIn 4 = .ok (.iand, 1) := by decide +kernel
theorem dX4_isIn_5 : decode cX4_isIn 5 = .ok (.iconst 1, 1) := by decide +kernel
theorem dX4_isIn_6 : decode cX4_isIn 6 = .ok (.if_icmp .ne 7, 3) := by decide +kernel
theorem dX4_isIn_9 : decode cX4_isIn 9 = .ok (.iconst 1, 1) := by decide +kernel
theorem dX4_isIn_10 : decode cX4_isIn 10 = .ok (.goto 4, 3) := by decide +kernel
theorem dX4_isIn_13 : decode cX4_isIn 13 = .ok (.iconst 0, 1) := by decide +kernel
theorem dX4_isIn_14 : decode cX4_isIn 14 = .ok (.ireturn, 1) := by decide +kernel
theorem dX4_placeOf_0 : decode cX4_placeOf 0 = .ok (.iload_n 0, 1) := by decide +kernel
theorem dX4_placeOf_1 : decode cX4_placeOf 1 = .ok (.bipush 12, 2) := by decide +kernel
theorem dX4_placeOf_3 : decode cX4_placeOf 3 = .ok (.imul, 1) := by decide +kernel
theorem dX4_placeOf_4 : decode cX4_placeOf 4 = .ok (.iload_n 1, 1) := by decide +kernel
theorem dX4_placeOf_5 : decode cX4_placeOf 5 = .ok (.iadd, 1) := by decide +kernel
theorem dX4_placeOf_6 : decode cX4_placeOf 6 = .ok (.ireturn, 1) := by decide +kernel
theorem dX4_placeAfter_0 : decode cX4_placeAfter 0 = .ok (.iload_n 1, 1) := by decide +kernel
theorem dX4_placeAfter_1 : decode cX4_placeAfter 1 = .ok (.iload_n 2, 1) := by decide +kernel
theorem dX4_placeAfter_2 : decode cX4_placeAfter 2 = .ok (.if_icmp .gt 9, 3) := by decide +kernel
theorem dX4_placeAfter_5 : decode cX4_placeAfter 5 = .ok (.iload_n 1, 1) := by decide +kernel
theorem dX4_placeAfter_6 : decode cX4_placeAfter 6 = .ok (.iload_n 0, 1) := by decide +kernel
theorem dX4_placeAfter_7 : decode cX4_placeAfter 7 = .ok (.iadd, 1) := by decide +kernel
theorem dX4_placeAfter_8 : decode cX4_placeAfter 8 = .ok (.goto 6, 3) := by decide +kernel
theorem dX4_placeAfter_11 : decode cX4_placeAfter 11 = .ok (.iload_n 1, 1) := by decide +kernel
theorem dX4_placeAfter_12 : decode cX4_placeAfter 12 = .ok (.iload_n 0, 1) := by decide +kernel
theorem dX4_placeAfter_13 : decode cX4_placeAfter 13 = .ok (.isub, 1) := by decide +kernel
theorem dX4_placeAfter_14 : decode cX4_placeAfter 14 = .ok (.ireturn, 1) := by decide +kernel
theorem dX4_sum_0 : decode cX4_sum 0 = .ok (.iconst 0, 1) := by decide +kernel
theorem dX4_sum_1 : decode cX4_sum 1 = .ok (.istore_n 1, 1) := by decide +kernel
theorem dX4_sum_2 : decode cX4_sum 2 = .ok (.aload_n 0, 1) := by decide +kernel
theorem dX4_sum_3 : decode cX4_sum 3 = .ok (.astore_n 2, 1) := by decide +kernel
theorem dX4_sum_4 : decode cX4_sum 4 = .ok (.aload_n 2, 1) := by decide +kernel
theorem dX4_sum_5 : decode cX4_sum 5 = .ok (.arraylength, 1) := by decide +kernel
theorem dX4_sum_6 : decode cX4_sum 6 = .ok (.istore_n 3, 1) := by decide +kernel
theorem dX4_sum_7 : decode cX4_sum 7 = .ok (.iconst 0, 1) := by decide +kernel
theorem dX4_sum_8 : decode cX4_sum 8 = .ok (.istore 4, 2) := by decide +kernel
theorem dX4_sum_10 : decode cX4_sum 10 = .ok (.iload 4, 2) := by decide +kernel
theorem dX4_sum_12 : decode cX4_sum 12 = .ok (.iload_n 3, 1) := by decide +kernel
theorem dX4_sum_13 : decode cX4_sum 13 = .ok (.if_icmp .ge 20, 3) := by decide +kernel
theorem dX4_sum_16 : decode cX4_sum 16 = .ok (.aload_n 2, 1) := by decide +kernel
theorem dX4_sum_17 : decode cX4_sum 17 = .ok (.iload 4, 2) := by decide +kernel
theorem dX4_sum_19 : decode cX4_sum 19 = .ok (.iaload, 1) := by decide +kernel
theorem dX4_sum_20 : decode cX4_sum 20 = .ok (.istore 5, 2) := by decide +kernel
theorem dX4_sum_22 : decode cX4_sum 22 = .ok (.iload_n 1, 1) := by decide +kernel
theorem dX4_sum_23 : decode cX4_sum 23 = .ok (.iload 5, 2) := by decide +kernel
theorem dX4_sum_25 : decode cX4_sum 25 = .ok (.iadd, 1) := by decide +kernel
theorem dX4_sum_26 : decode cX4_sum 26 = .ok (.istore_n 1, 1) := by decide +kernel
theorem dX4_sum_27 : decode cX4_sum 27 = .ok (.iinc 4 1, 3) := by decide +kernel
theorem dX4_sum_30 : decode cX4_sum 30 = .ok (.goto (-20), 3) := by decide +kernel
theorem dX4_sum_33 : decode cX4_sum 33 = .ok (.iload_n 1, 1) := by decide +kernel
theorem dX4_sum_34 : decode cX4_sum 34 = .ok (.ireturn, 1) := by decide +kernel
theorem dX4_copy_0 : decode cX4_copy 0 = .ok (.iconst 0, 1) := by decide +kernel
theorem dX4_copy_1 : decode cX4_copy 1 = .ok (.istore_n 2, 1) := by decide +kernel
theorem dX4_copy_2 : decode cX4_copy 2 = .ok (.iload_n 2, 1) := by decide +kernel
theorem dX4_copy_3 : decode cX4_copy 3 = .ok (.aload_n 0, 1) := by decide +kernel
theorem dX4_copy_4 : decode cX4_copy 4 = .ok (.arraylength, 1) := by decide +kernel
theorem dX4_copy_5 : decode cX4_copy 5 = .ok (.if_icmp .ge 21, 3) := by decide +kernel
theorem dX4_copy_8 : decode cX4_copy 8 = .ok (.iload_n 2, 1) := by decide +kernel
theorem dX4_copy_9 : decode cX4_copy 9 = .ok (.aload_n 1, 1) := by decide +kernel
theorem dX4_copy_10 : decode cX4_copy 10 = .ok (.arraylength, 1) := by decide +kernel
theorem dX4_copy_11 : decode cX4_copy 11 = .ok (.if_icmp .ge 15, 3) := by decide +kernel
theorem dX4_copy_14 : decode cX4_copy 14 = .ok (.aload_n 1, 1) := by decide +kernel
theorem dX4_copy_15 : decode cX4_copy 15 = .ok (.iload_n 2, 1) := by decide +kernel
theorem dX4_copy_16 : decode cX4_copy 16 = .ok (.aload_n 0, 1) := by decide +kernel
theorem dX4_copy_17 : decode cX4_copy 17 = .ok (.iload_n 2, 1) := by decide +kernel
theorem dX4_copy_18 : decode cX4_copy 18 = .ok (.iaload, 1) := by decide +kernel
theorem dX4_copy_19 : decode cX4_copy 19 = .ok (.iastore, 1) := by decide +kernel
theorem dX4_copy_20 : decode cX4_copy 20 = .ok (.iinc 2 1, 3) := by decide +kernel
theorem dX4_copy_23 : decode cX4_copy 23 = .ok (.goto (-21), 3) := by decide +kernel
theorem dX4_copy_26 : decode cX4_copy 26 = .ok (.return_, 1) := by decide +kernel
end
section
set_option maxRecDepth 20000 in
theorem ggX5_init_X5_lay : GoodIn wsX5_init wsX5_lay := goodIn_r _ [16, 5, 17, 18, 19, 20, 21, 22, 23, 24, 25, 26] (by decide +kernel) (by decide +kernel)
set_option maxRecDepth 20000 in
theorem gX5_init_X5_lay : GoodIn wsX5_init (wsV RX5 29 RX5 yX5_lay wsX5_lay) := goodIn_app (goodIn_of _ (by decide +kernel)) ggX5_init_X5_lay
theorem dX5_init_0 : decode cX5_init 0 = .ok (.aload_n 0, 1) := by decide +kernel
theorem dX5_init_1 : decode cX5_init 1 = .ok (.invokespecial 1, 3) := by decide +kernel
theorem dX5_init_4 : decode cX5_init 4 = .ok (.aload_n 0, 1) := by decide +kernel
theorem dX5_init_5 : decode cX5_init 5 = .ok (.sipush 164, 3) := by decide +kernel
theorem dX5_init_8 : decode cX5_init 8 = .ok (.newarray .int, 2) := by decide +kernel
theorem dX5_init_10 : decode cX5_init 10 = .ok (.putfield 7, 3) := by decide +kernel
theorem dX5_init_13 : decode cX5_init 13 = .ok (.aload_n 0, 1) := by decide +kernel
theorem dX5_init_14 : decode cX5_init 14 = .ok (.sipush 984, 3) := by decide +kernel
theorem dX5_init_17 : decode cX5_init 17 = .ok (.newarray .int, 2) := by decide +kernel
theorem dX5_init_19 : decode cX5_init 19 = .ok (.putfield 13, 3) := by decide +kernel
theorem dX5_init_22 : decode cX5_init 22 = .ok (.aload_n 0, 1) := by decide +kernel
theorem dX5_init_23 : decode cX5_init 23 = .ok (.sipush 328, 3) := by decide +kernel
theorem dX5_init_26 : decode cX5_init 26 = .ok (.newarray .int, 2) := by decide +kernel
theorem dX5_init_28 : decode cX5_init 28 = .ok (.putfield 16, 3) := by decide +kernel
theorem dX5_init_31 : decode cX5_init 31 = .ok (.aload_n 0, 1) := by decide +kernel
theorem dX5_init_32 : decode cX5_init 32 = .ok (.iconst 2, 1) := by decide +kernel
theorem dX5_init_33 : decode cX5_init 33 = .ok (.newarray .boolean, 2) := by decide +kernel
theorem dX5_init_35 : decode cX5_init 35 = .ok (.putfield 19, 3) := by decide +kernel
theorem dX5_init_38 : decode cX5_init 38 = .ok (.aload_n 0, 1) := by decide +kernel
theorem dX5_init_39 : decode cX5_init 39 = .ok (.bipush 60, 2) := by decide +kernel
theorem dX5_init_41 : decode cX5_init 41 = .ok (.newarray .int, 2) := by decide +kernel
theorem dX5_init_43 : decode cX5_init 43 = .ok (.putfield 23, 3) := by decide +kernel
theorem dX5_init_46 : decode cX5_init 46 = .ok (.aload_n 0, 1) := by decide +kernel
theorem dX5_init_47 : decode cX5_init 47 = .ok (.bipush 60, 2) := by decide +kernel
theorem dX5_init_49 : decode cX5_init 49 = .ok (.newarray .int, 2) := by decide +kernel
theorem dX5_init_51 : decode cX5_init 51 = .ok (.putfield 26, 3) := by decide +kernel
theorem dX5_init_54 : decode cX5_init 54 = .ok (.aload_n 0, 1) := by decide +kernel
theorem dX5_init_55 : decode cX5_init 55 = .ok (.getfield 7, 3) := by decide +kernel
theorem dX5_init_58 : decode cX5_init 58 = .ok (.iconst 0, 1) := by decide +kernel
theorem dX5_init_59 : decode cX5_init 59 = .ok (.iconst 3, 1) := by decide +kernel
theorem dX5_init_60 : decode cX5_init 60 = .ok (.iastore, 1) := by decide +kernel
theorem dX5_init_61 : decode cX5_init 61 = .ok (.aload_n 0, 1) := by decide +kernel
theorem dX5_init_62 : decode cX5_init 62 = .ok (.getfield 7, 3) := by decide +kernel
theorem dX5_init_65 : decode cX5_init 65 = .ok (.iconst 1, 1) := by decide +kernel
theorem dX5_init_66 : decode cX5_init 66 = .ok (.iconst 2, 1) := by decide +kernel
theorem dX5_init_67 : decode cX5_init 67 = .ok (.iastore, 1) := by decide +kernel
theorem dX5_init_68 : decode cX5_init 68 = .ok (.aload_n 0, 1) := by decide +kernel
theorem dX5_init_69 : decode cX5_init 69 = .ok (.getfield 7, 3) := by decide +kernel
theorem dX5_init_72 : decode cX5_init 72 = .ok (.iconst 2, 1) := by decide +kernel
theorem dX5_init_73 : decode cX5_init 73 = .ok (.bipush 15, 2) := by decide +kernel
theorem dX5_init_75 : decode cX5_init 75 = .ok (.iastore, 1) := by decide +kernel
theorem dX5_init_76 : decode cX5_init 76 = .ok (.aload_n 0, 1) := by decide +kernel
theorem dX5_init_77 : decode cX5_init 77 = .ok (.getfield 7, 3) := by decide +kernel
theorem dX5_init_80 : decode cX5_init 80 = .ok (.iconst 3, 1) := by decide +kernel
theorem dX5_init_81 : decode cX5_init 81 = .ok (.iconst 5, 1) := by decide +kernel
theorem dX5_init_82 : decode cX5_init 82 = .ok (.iastore, 1) := by decide +kernel
theorem dX5_init_83 : decode cX5_init 83 = .ok (.iconst 0, 1) := by decide +kernel
theorem dX5_init_84 : decode cX5_init 84 = .ok (.istore_n 1, 1) := by decide +kernel
theorem dX5_init_85 : decode cX5_init 85 = .ok (.iload_n 1, 1) := by decide +kernel
theorem dX5_init_86 : decode cX5_init 86 = .ok (.bipush 12, 2) := by decide +kernel
theorem dX5_init_88 : decode cX5_init 88 = .ok (.if_icmp .ge 17, 3) := by decide +kernel
theorem dX5_init_91 : decode cX5_init 91 = .ok (.aload_n 0, 1) := by decide +kernel
theorem dX5_init_92 : decode cX5_init 92 = .ok (.iload_n 1, 1) := by decide +kernel
theorem dX5_init_93 : decode cX5_init 93 = .ok (.iconst 0, 1) := by decide +kernel
theorem dX5_init_94 : decode cX5_init 94 = .ok (.bipush 20, 2) := by decide +kernel
theorem dX5_init_96 : decode cX5_init 96 = .ok (.invokevirtual 29, 3) := by decide +kernel
theorem dX5_init_99 : decode cX5_init 99 = .ok (.iinc 1 1, 3) := by decide +kernel
theorem dX5_init_102 : decode cX5_init 102 = .ok (.goto (-17), 3) := by decide +kernel
theorem dX5_init_105 : decode cX5_init 105 = .ok (.return_, 1) := by decide +kernel
theorem dX5_in_0 : decode cX5_in 0 = .ok (.iload_n 0, 1) := by decide +kernel
theorem dX5_in_1 : decode cX5_in 1 = .ok (.iload_n 1, 1) := by decide +kernel
theorem dX5_in_2 : decode cX5_in 2 = .ok (.if_icmp .lt 12, 3) := by decide +kernel
theorem dX5_in_5 : decode cX5_in 5 = .ok (.iload_n 0, 1) := by decide +kernel
theorem dX5_in_6 : decode cX5_in 6 = .ok (.iload_n 2, 1) := by decide +kernel
theorem dX5_in_7 : decode cX5_in 7 = .ok (.if_icmp .gt 7, 3) := by decide +kernel
theorem dX5_in_10 : decode cX5_in 10 = .ok (.iconst 1, 1) := by decide +kernel
theorem dX5_in_11 : decode cX5_in 11 = .ok (.goto 4, 3) := by decide +kernel
theorem dX5_in_14 : decode cX5_in 14 = .ok (.iconst 0, 1) := by decide +kernel
theorem dX5_in_15 : decode cX5_in 15 = .ok (.ireturn, 1) := by decide +kernel
set_option maxRecDepth 20000 in
theorem ggX5_isPuddle_X5_in : GoodIn wsX5_isPuddle wsX5_in := goodIn_r _ [4] (by decide +kernel) (by decide +kernel)
set_option maxRecDepth 20000 in
theorem gX5_isPuddle_X5_in : GoodIn wsX5_isPuddle (va_wsS RX5 33 yX5_in wsX5_in) := goodIn_app (goodIn_of _ (by decide +kernel)) ggX5_isPuddle_X5_in
theorem dX5_isPuddle_0 : decode cX5_isPuddle 0 = .ok (.iload_n 0, 1) := by decide +kernel
theorem dX5_isPuddle_1 : decode cX5_isPuddle 1 = .ok (.iconst 0, 1) := by decide +kernel
theorem dX5_isPuddle_2 : decode cX5_isPuddle 2 = .ok (.bipush 11, 2) := by decide +kernel
theorem dX5_isPuddle_4 : decode cX5_isPuddle 4 = .ok (.invokestatic 33, 3) := by decide +kernel
theorem dX5_isPuddle_7 : decode cX5_isPuddle 7 = .ok (.ireturn, 1) := by decide +kernel
set_option maxRecDepth 20000 in
theorem ggX5_isWalker_X5_in : GoodIn wsX5_isWalker wsX5_in := goodIn_r _ [4] (by decide +kernel) (by decide +kernel)
set_option maxRecDepth 20000 in
theorem gX5_isWalker_X5_in : GoodIn wsX5_isWalker (va_wsS RX5 33 yX5_in wsX5_in) := goodIn_app (goodIn_of _ (by decide +kernel)) ggX5_isWalker_X5_in
theorem dX5_isWalker_0 : decode cX5_isWalker 0 = .ok (.iload_n 0, 1) := by decide +kernel
theorem dX5_isWalker_1 : decode cX5_isWalker 1 = .ok (.iconst 0, 1) := by decide +kernel
theorem dX5_isWalker_2 : decode cX5_isWalker 2 = .ok (.iconst 5, 1) := by decide +kernel
theorem dX5_isWalker_3 : decode cX5_isWalker 3 = .ok (.invokestatic 33, 3) := by decide +kernel
theorem dX5_isWalker_6 : decode cX5_isWalker 6 = .ok (.ireturn, 1) := by decide +kernel
theorem dX5_of_0 : decode cX5_of 0 = .ok (.aload_n 0, 1) := by decide +kernel
theorem dX5_of_1 : decode cX5_of 1 = .ok (.getfield 7, 3) := by decide +kernel
theorem dX5_of_4 : decode cX5_of 4 = .ok (.bipush 8, 2) := by decide +kernel
theorem dX5_of_6 : decode cX5_of 6 = .ok (.iconst 5, 1) := by decide +kernel
theorem dX5_of_7 : decode cX5_of 7 = .ok (.iload_n 1, 1) := by decide +kernel
theorem dX5_of_8 : decode cX5_of 8 = .ok (.imul, 1) := by decide +kernel
theorem dX5_of_9 : decode cX5_of 9 = .ok (.iadd, 1) := by decide +kernel
theorem dX5_of_10 : decode cX5_of 10 = .ok (.iload_n 2, 1) := by decide +kernel
theorem dX5_of_11 : decode cX5_of 11 = .ok (.iadd, 1) := by decide +kernel
theorem dX5_of_12 : decode cX5_of 12 = .ok (.iaload, 1) := by decide +kernel
theorem dX5_of_13 : decode cX5_of 13 = .ok (.ireturn, 1) := by decide +kernel
theorem dX5_lay_0 : decode cX5_lay 0 = .ok (.aload_n 0, 1) := by decide +kernel
theorem dX5_lay_1 : decode cX5_lay 1 = .ok (.getfield 7, 3) := by decide +kernel
theorem dX5_lay_4 : decode cX5_lay 4 = .ok (.bipush 8, 2) := by decide +kernel
theorem dX5_lay_6 : decode cX5_lay 6 = .ok (.iconst 5, 1) := by decide +kernel
theorem dX5_lay_7 : decode cX5_lay 7 = .ok (.iload_n 1, 1) := by decide +kernel
theorem dX5_lay_8 : decode cX5_lay 8 = .ok (.imul, 1) := by decide +kernel
theorem dX5_lay_9 : decode cX5_lay 9 = .ok (.iadd, 1) := by decide +kernel
theorem dX5_lay_10 : decode cX5_lay 10 = .ok (.iload_n 2, 1) := by decide +kernel
theorem dX5_lay_11 : decode cX5_lay 11 = .ok (.iadd, 1) := by decide +kernel
theorem dX5_lay_12 : decode cX5_lay 12 = .ok (.iload_n 3, 1) := by decide +kernel
theorem dX5_lay_13 : decode cX5_lay 13 = .ok (.iastore, 1) := by decide +kernel
theorem dX5_lay_14 : decode cX5_lay 14 = .ok (.return_, 1) := by decide +kernel
theorem dX5_ofWalker_0 : decode cX5_ofWalker 0 = .ok (.aload_n 0, 1) := by decide +kernel
theorem dX5_ofWalker_1 : decode cX5_ofWalker 1 = .ok (.getfield 7, 3) := by decide +kernel
theorem dX5_ofWalker_4 : decode cX5_ofWalker 4 = .ok (.bipush 68, 2) := by decide +kernel
theorem dX5_ofWalker_6 : decode cX5_ofWalker 6 = .ok (.iconst 4, 1) := by decide +kernel
theorem dX5_ofWalker_7 : decode cX5_ofWalker 7 = .ok (.iload_n 1, 1) := by decide +kernel
theorem dX5_ofWalker_8 : decode cX5_ofWalker 8 = .ok (.imul, 1) := by decide +kernel
theorem dX5_ofWalker_9 : decode cX5_ofWalker 9 = .ok (.iadd, 1) := by decide +kernel
theorem dX5_ofWalker_10 : decode cX5_ofWalker 10 = .ok (.iload_n 2, 1) := by decide +kernel
theorem dX5_ofWalker_11 : decode cX5_ofWalker 11 = .ok (.iadd, 1) := by decide +kernel
theorem dX5_ofWalker_12 : decode cX5_ofWalker 12 = .ok (.iaload, 1) := by decide +kernel
theorem dX5_ofWalker_13 : decode cX5_ofWalker 13 = .ok (.ireturn, 1) := by decide +kernel
theorem dX5_layWalker_0 : decode cX5_layWalker 0 = .ok (.aload_n 0, 1) := by decide +kernel
theorem dX5_layWalker_1 : decode cX5_layWalker 1 = .ok (.getfield 7, 3) := by decide +kernel
theorem dX5_layWalker_4 : decode cX5_layWalker 4 = .ok (.bipush 68, 2) := by decide +kernel
theorem dX5_layWalker_6 : decode cX5_layWalker 6 = .ok (.iconst 4, 1) := by decide +kernel
theorem dX5_layWalker_7 : decode cX5_layWalker 7 = .ok (.iload_n 1, 1) := by decide +kernel
theorem dX5_layWalker_8 : decode cX5_layWalker 8 = .ok (.imul, 1) := by decide +kernel
theorem dX5_layWalker_9 : decode cX5_layWalker 9 = .ok (.iadd, 1) := by decide +kernel
theorem dX5_layWalker_10 : decode cX5_layWalker 10 = .ok (.iload_n 2, 1) := by decide +kernel
theorem dX5_layWalker_11 : decode cX5_layWalker 11 = .ok (.iadd, 1) := by decide +kernel
theorem dX5_layWalker_12 : decode cX5_layWalker 12 = .ok (.iload_n 3, 1) := by decide +kernel
theorem dX5_layWalker_13 : decode cX5_layWalker 13 = .ok (.iastore, 1) := by decide +kernel
theorem dX5_layWalker_14 : decode cX5_layWalker 14 = .ok (.return_, 1) := by decide +kernel
theorem dX5_days_0 : decode cX5_days 0 = .ok (.aload_n 0, 1) := by decide +kernel
theorem dX5_days_1 : decode cX5_days 1 = .ok (.getfield 7, 3) := by decide +kernel
theorem dX5_days_4 : decode cX5_days 4 = .ok (.bipush 92, 2) := by decide +kernel
theorem dX5_days_6 : decode cX5_days 6 = .ok (.bipush 12, 2) := by decide +kernel
theorem dX5_days_8 : decode cX5_days 8 = .ok (.iload_n 1, 1) := by decide +kernel
theorem dX5_days_9 : decode cX5_days 9 = .ok (.imul, 1) := by decide +kernel
theorem dX5_days_10 : decode cX5_days 10 = .ok (.iadd, 1) := by decide +kernel
theorem dX5_days_11 : decode cX5_days 11 = .ok (.iload_n 2, 1) := by decide +kernel
theorem dX5_days_12 : decode cX5_days 12 = .ok (.iadd, 1) := by decide +kernel
theorem dX5_days_13 : decode cX5_days 13 = .ok (.iaload, 1) := by decide +kernel
theorem dX5_days_14 : decode cX5_days 14 = .ok (.ireturn, 1) := by decide +kernel
set_option maxRecDepth 20000 in
theorem ggX5_isFrozen_X5_of : GoodIn wsX5_isFrozen wsX5_of := goodIn_r _ [5, 6, 7, 8, 9, 10, 11, 12, 13, 14, 15, 16] (by decide +kernel) (by decide +kernel)
set_option maxRecDepth 20000 in
theorem gX5_isFrozen_X5_of : GoodIn wsX5_isFrozen (wsV RX5 37 RX5 yX5_of wsX5_of) := goodIn_app (goodIn_of _ (by decide +kernel)) ggX5_isFrozen_X5_of
theorem dX5_isFrozen_0 : decode cX5_isFrozen 0 = .ok (.aload_n 0, 1) := by decide +kernel
theorem dX5_isFrozen_1 : decode cX5_isFrozen 1 = .ok (.iload_n 1, 1) := by decide +kernel
theorem dX5_isFrozen_2 : decode cX5_isFrozen 2 = .ok (.iconst 2, 1) := by decide +kernel
theorem dX5_isFrozen_3 : decode cX5_isFrozen 3 = .ok (.invokevirtual 37, 3) := by decide +kernel
theorem dX5_isFrozen_6 : decode cX5_isFrozen 6 = .ok (.iconst 1, 1) := by decide +kernel
theorem dX5_isFrozen_7 : decode cX5_isFrozen 7 = .ok (.if_icmp .ne 7, 3) := by decide +kernel
theorem dX5_isFrozen_10 : decode cX5_isFrozen 10 = .ok (.iconst 1, 1) := by decide +kernel
theorem dX5_isFrozen_11 : decode cX5_isFrozen 11 = .ok (.goto 4, 3) := by decide +kernel
theorem dX5_isFrozen_14 : decode cX5_isFrozen 14 = .ok (.iconst 0, 1) := by decide +kernel
theorem dX5_isFrozen_15 : decode cX5_isFrozen 15 = .ok (.ireturn, 1) := by decide +kernel
set_option maxRecDepth 20000 in
theorem ggX5_depth_X5_of : GoodIn wsX5_depth wsX5_of := goodIn_r _ [5, 6, 7, 8, 9, 10, 11, 12, 13, 14, 15, 16] (by decide +kernel) (by decide +kernel)
set_option maxRecDepth 20000 in
theorem gX5_depth_X5_of : GoodIn wsX5_depth (wsV RX5 37 RX5 yX5_of wsX5_of) := goodIn_app (goodIn_of _ (by decide +kernel)) ggX5_depth_X5_of
theorem dX5_depth_0 : decode cX5_depth 0 = .ok (.aload_n 0, 1) := by decide +kernel
theorem dX5_depth_1 : decode cX5_depth 1 = .ok (.iload_n 1, 1) := by decide +kernel
theorem dX5_depth_2 : decode cX5_depth 2 = .ok (.iconst 1, 1) := by decide +kernel
theorem dX5_depth_3 : decode cX5_depth 3 = .ok (.invokevirtual 37, 3) := by decide +kernel
theorem dX5_depth_6 : decode cX5_depth 6 = .ok (.iconst 5, 1) := by decide +kernel
theorem dX5_depth_7 : decode cX5_depth 7 = .ok (.idiv, 1) := by decide +kernel
theorem dX5_depth_8 : decode cX5_depth 8 = .ok (.ireturn, 1) := by decide +kernel
theorem dX5_copyState_0 : decode cX5_copyState 0 = .ok (.iconst 0, 1) := by decide +kernel
theorem dX5_copyState_1 : decode cX5_copyState 1 = .ok (.istore 4, 2) := by decide +kernel
theorem dX5_copyState_3 : decode cX5_copyState 3 = .ok (.iload 4, 2) := by decide +kernel
theorem dX5_copyState_5 : decode cX5_copyState 5 = .ok (.sipush 164, 3) := by decide +kernel
theorem dX5_copyState_8 : decode cX5_copyState 8 = .ok (.if_icmp .ge 21, 3) := by decide +kernel
theorem dX5_copyState_11 : decode cX5_copyState 11 = .ok (.aload_n 2, 1) := by decide +kernel
theorem dX5_copyState_12 : decode cX5_copyState 12 = .ok (.iload_n 3, 1) := by decide +kernel
theorem dX5_copyState_13 : decode cX5_copyState 13 = .ok (.iload 4, 2) := by decide +kernel
theorem dX5_copyState_15 : decode cX5_copyState 15 = .ok (.iadd, 1) := by decide +kernel
theorem dX5_copyState_16 : decode cX5_copyState 16 = .ok (.aload_n 0, 1) := by decide +kernel
theorem dX5_copyState_17 : decode cX5_copyState 17 = .ok (.iload_n 1, 1) := by decide +kernel
theorem dX5_copyState_18 : decode cX5_copyState 18 = .ok (.iload 4, 2) := by decide +kernel
theorem dX5_copyState_20 : decode cX5_copyState 20 = .ok (.iadd, 1) := by decide +kernel
theorem dX5_copyState_21 : decode cX5_copyState 21 = .ok (.iaload, 1) := by decide +kernel
theorem dX5_copyState_22 : decode cX5_copyState 22 = .ok (.iastore, 1) := by decide +kernel
theorem dX5_copyState_23 : decode cX5_copyState 23 = .ok (.iinc 4 1, 3) := by decide +kernel
theorem dX5_copyState_26 : decode cX5_copyState 26 = .ok (.goto (-23), 3) := by decide +kernel
theorem dX5_copyState_29 : decode cX5_copyState 29 = .ok (.return_, 1) := by decide +kernel
set_option maxRecDepth 20000 in
theorem ggX5_record_X5_copyState : GoodIn wsX5_record wsX5_copyState := goodIn_r _ [7] (by decide +kernel) (by decide +kernel)
set_option maxRecDepth 20000 in
theorem gX5_record_X5_copyState : GoodIn wsX5_record (va_wsS RX5 45 yX5_copyState wsX5_copyState) := goodIn_app (goodIn_of _ (by decide +kernel)) ggX5_record_X5_copyState
theorem dX5_record_0 : decode cX5_record 0 = .ok (.aload_n 0, 1) := by decide +kernel
theorem dX5_record_1 : decode cX5_record 1 = .ok (.getfield 41, 3) := by decide +kernel
theorem dX5_record_4 : decode cX5_record 4 = .ok (.bipush 6, 2) := by decide +kernel
theorem dX5_record_6 : decode cX5_record 6 = .ok (.if_icmp .ne 44, 3) := by decide +kernel
theorem dX5_record_9 : decode cX5_record 9 = .ok (.iconst 0, 1) := by decide +kernel
theorem dX5_record_10 : decode cX5_record 10 = .ok (.istore_n 1, 1) := by decide +kernel
theorem dX5_record_11 : decode cX5_record 11 = .ok (.iload_n 1, 1) := by decide +kernel
theorem dX5_record_12 : decode cX5_record 12 = .ok (.sipush 820, 3) := by decide +kernel
theorem dX5_record_15 : decode cX5_record 15 = .ok (.if_icmp .ge 25, 3) := by decide +kernel
theorem dX5_record_18 : decode cX5_record 18 = .ok (.aload_n 0, 1) := by decide +kernel
theorem dX5_record_19 : decode cX5_record 19 = .ok (.getfield 13, 3) := by decide +kernel
theorem dX5_record_22 : decode cX5_record 22 = .ok (.iload_n 1, 1) := by decide +kernel
theorem dX5_record_23 : decode cX5_record 23 = .ok (.aload_n 0, 1) := by decide +kernel
theorem dX5_record_24 : decode cX5_record 24 = .ok (.getfield 13, 3) := by decide +kernel
theorem dX5_record_27 : decode cX5_record 27 = .ok (.iload_n 1, 1) := by decide +kernel
theorem dX5_record_28 : decode cX5_record 28 = .ok (.sipush 164, 3) := by decide +kernel
theorem dX5_record_31 : decode cX5_record 31 = .ok (.iadd, 1) := by decide +kernel
theorem dX5_record_32 : decode cX5_record 32 = .ok (.iaload, 1) := by decide +kernel
theorem dX5_record_33 : decode cX5_record 33 = .ok (.iastore, 1) := by decide +kernel
theorem dX5_record_34 : decode cX5_record 34 = .ok (.iinc 1 1, 3) := by decide +kernel
theorem dX5_record_37 : decode cX5_record 37 = .ok (.goto (-26), 3) := by decide +kernel
theorem dX5_record_40 : decode cX5_record 40 = .ok (.aload_n 0, 1) := by decide +kernel
theorem dX5_record_41 : decode cX5_record 41 = .ok (.dup, 1) := by decide +kernel
theorem dX5_record_42 : decode cX5_record 42 = .ok (.getfield 41, 3) := by decide +kernel
theorem dX5_record_45 : decode cX5_record 45 = .ok (.iconst 1, 1) := by decide +kernel
theorem dX5_record_46 : decode cX5_record 46 = .ok (.isub, 1) := by decide +kernel
theorem dX5_record_47 : decode cX5_record 47 = .ok (.putfield 41, 3) := by decide +kernel
theorem dX5_record_50 : decode cX5_record 50 = .ok (.aload_n 0, 1) := by decide +kernel
theorem dX5_record_51 : decode cX5_record 51 = .ok (.getfield 7, 3) := by decide +kernel
theorem dX5_record_54 : decode cX5_record 54 = .ok (.iconst 0, 1) := by decide +kernel
theorem dX5_record_55 : decode cX5_record 55 = .ok (.aload_n 0, 1) := by decide +kernel
theorem dX5_record_56 : decode cX5_record 56 = .ok (.getfield 13, 3) := by decide +kernel
theorem dX5_record_59 : decode cX5_record 59 = .ok (.sipush 164, 3) := by decide +kernel
theorem dX5_record_62 : decode cX5_record 62 = .ok (.aload_n 0, 1) := by decide +kernel
theorem dX5_record_63 : decode cX5_record 63 = .ok (.getfield 41, 3) := by decide +kernel
theorem dX5_record_66 : decode cX5_record 66 = .ok (.imul, 1) := by decide +kernel
theorem dX5_record_67 : decode cX5_record 67 = .ok (.invokestatic 45, 3) := by decide +kernel
theorem dX5_record_70 : decode cX5_record 70 = .ok (.aload_n 0, 1) := by decide +kernel
theorem dX5_record_71 : decode cX5_record 71 = .ok (.dup, 1) := by decide +kernel
theorem dX5_record_72 : decode cX5_record 72 = .ok (.getfield 41, 3) := by decide +kernel
theorem dX5_record_75 : decode cX5_record 75 = .ok (.iconst 1, 1) := by decide +kernel
theorem dX5_record_76 : decode cX5_record 76 = .ok (.iadd, 1) := by decide +kernel
theorem dX5_record_77 : decode cX5_record 77 = .ok (.putfield 41, 3) := by decide +kernel
theorem dX5_record_80 : decode cX5_record 80 = .ok (.return_, 1) := by decide +kernel
set_option maxRecDepth 20000 in
theorem ggX5_undo_X5_copyState : GoodIn wsX5_undo wsX5_copyState := goodIn_r _ [7] (by decide +kernel) (by decide +kernel)
set_option maxRecDepth 20000 in
theorem gX5_undo_X5_copyState : GoodIn wsX5_undo (va_wsS RX5 45 yX5_copyState wsX5_copyState) := goodIn_app (goodIn_of _ (by decide +kernel)) ggX5_undo_X5_copyState
theorem dX5_undo_0 : decode cX5_undo 0 = .ok (.aload_n 0, 1) := by decide +kernel
theorem dX5_undo_1 : decode cX5_undo 1 = .ok (.getfield 41, 3) := by decide +kernel
theorem dX5_undo_4 : decode cX5_undo 4 = .ok (.ifCond .ne 6, 3) := by decide +kernel
theorem dX5_undo_7 : decode cX5_undo 7 = .ok (.bipush (-5), 2) := by decide +kernel
theorem dX5_undo_9 : decode cX5_undo 9 = .ok (.ireturn, 1) := by decide +kernel
theorem dX5_undo_10 : decode cX5_undo 10 = .ok (.aload_n 0, 1) := by decide +kernel
theorem dX5_undo_11 : decode cX5_undo 11 = .ok (.dup, 1) := by decide +kernel
theorem dX5_undo_12 : decode cX5_undo 12 = .ok (.getfield 41, 3) := by decide +kernel
theorem dX5_undo_15 : decode cX5_undo 15 = .ok (.iconst 1, 1) := by decide +kernel
theorem dX5_undo_16 : decode cX5_undo 16 = .ok (.isub, 1) := by decide +kernel
theorem dX5_undo_17 : decode cX5_undo 17 = .ok (.putfield 41, 3) := by decide +kernel
theorem dX5_undo_20 : decode cX5_undo 20 = .ok (.aload_n 0, 1) := by decide +kernel
theorem dX5_undo_21 : decode cX5_undo 21 = .ok (.getfield 13, 3) := by decide +kernel
theorem dX5_undo_24 : decode cX5_undo 24 = .ok (.sipush 164, 3) := by decide +kernel
theorem dX5_undo_27 : decode cX5_undo 27 = .ok (.aload_n 0, 1) := by decide +kernel
theorem dX5_undo_28 : decode cX5_undo 28 = .ok (.getfield 41, 3) := by decide +kernel
theorem dX5_undo_31 : decode cX5_undo 31 = .ok (.imul, 1) := by decide +kernel
theorem dX5_undo_32 : decode cX5_undo 32 = .ok (.aload_n 0, 1) := by decide +kernel
theorem dX5_undo_33 : decode cX5_undo 33 = .ok (.getfield 7, 3) := by decide +kernel
theorem dX5_undo_36 : decode cX5_undo 36 = .ok (.iconst 0, 1) := by decide +kernel
theorem dX5_undo_37 : decode cX5_undo 37 = .ok (.invokestatic 45, 3) := by decide +kernel
theorem dX5_undo_40 : decode cX5_undo 40 = .ok (.aload_n 0, 1) := by decide +kernel
theorem dX5_undo_41 : decode cX5_undo 41 = .ok (.getfield 41, 3) := by decide +kernel
theorem dX5_undo_44 : decode cX5_undo 44 = .ok (.ireturn, 1) := by decide +kernel
set_option maxRecDepth 20000 in
theorem ggX5_save_X5_in : GoodIn wsX5_save wsX5_in := goodIn_r _ [7] (by decide +kernel) (by decide +kernel)
set_option maxRecDepth 20000 in
theorem gX5_save_X5_in : GoodIn wsX5_save (va_wsS RX5 33 yX5_in wsX5_in) := goodIn_app (goodIn_of _ (by decide +kernel)) ggX5_save_X5_in
set_option maxRecDepth 20000 in
theorem ggX5_save_X5_copyState : GoodIn wsX5_save wsX5_copyState := goodIn_r _ [10] (by decide +kernel) (by decide +kernel)
set_option maxRecDepth 20000 in
theorem gX5_save_X5_copyState : GoodIn wsX5_save (va_wsS RX5 45 yX5_copyState wsX5_copyState) := goodIn_app (goodIn_of _ (by decide +kernel)) ggX5_save_X5_copyState
theorem dX5_save_0 : decode cX5_save 0 = .ok (.iload_n 1, 1) := by decide +kernel
theorem dX5_save_1 : decode cX5_save 1 = .ok (.iconst 0, 1) := by decide +kernel
theorem dX5_save_2 : decode cX5_save 2 = .ok (.iconst 1, 1) := by decide +kernel
theorem dX5_save_3 : decode cX5_save 3 = .ok (.invokestatic 33, 3) := by decide +kernel
theorem dX5_save_6 : decode cX5_save 6 = .ok (.ifCond .ne 6, 3) := by decide +kernel
theorem dX5_save_9 : decode cX5_save 9 = .ok (.bipush (-2), 2) := by decide +kernel
theorem dX5_save_11 : decode cX5_save 11 = .ok (.ireturn, 1) := by decide +kernel
theorem dX5_save_12 : decode cX5_save 12 = .ok (.aload_n 0, 1) := by decide +kernel
theorem dX5_save_13 : decode cX5_save 13 = .ok (.getfield 7, 3) := by decide +kernel
theorem dX5_save_16 : decode cX5_save 16 = .ok (.iconst 0, 1) := by decide +kernel
theorem dX5_save_17 : decode cX5_save 17 = .ok (.aload_n 0, 1) := by decide +kernel
theorem dX5_save_18 : decode cX5_save 18 = .ok (.getfield 16, 3) := by decide +kernel
theorem dX5_save_21 : decode cX5_save 21 = .ok (.sipush 164, 3) := by decide +kernel
theorem dX5_save_24 : decode cX5_save 24 = .ok (.iload_n 1, 1) := by decide +kernel
theorem dX5_save_25 : decode cX5_save 25 = .ok (.imul, 1) := by decide +kernel
theorem dX5_save_26 : decode cX5_save 26 = .ok (.invokestatic 45, 3) := by decide +kernel
theorem dX5_save_29 : decode cX5_save 29 = .ok (.aload_n 0, 1) := by decide +kernel
theorem dX5_save_30 : decode cX5_save 30 = .ok (.getfield 19, 3) := by decide +kernel
theorem dX5_save_33 : decode cX5_save 33 = .ok (.iload_n 1, 1) := by decide +kernel
theorem dX5_save_34 : decode cX5_save 34 = .ok (.iconst 1, 1) := by decide +kernel
theorem dX5_save_35 : decode cX5_save 35 = .ok (.bastore, 1) := by decide +kernel
theorem dX5_save_36 : decode cX5_save 36 = .ok (.aload_n 0, 1) := by decide +kernel
theorem dX5_save_37 : decode cX5_save 37 = .ok (.getfield 7, 3) := by decide +kernel
theorem dX5_save_40 : decode cX5_save 40 = .ok (.iconst 4, 1) := by decide +kernel
theorem dX5_save_41 : decode cX5_save 41 = .ok (.iaload, 1) := by decide +kernel
theorem dX5_save_42 : decode cX5_save 42 = .ok (.ireturn, 1) := by decide +kernel
set_option maxRecDepth 20000 in
theorem ggX5_restore_X5_in : GoodIn wsX5_restore wsX5_in := goodIn_r _ [7] (by decide +kernel) (by decide +kernel)
set_option maxRecDepth 20000 in
theorem gX5_restore_X5_in : GoodIn wsX5_restore (va_wsS RX5 33 yX5_in wsX5_in) := goodIn_app (goodIn_of _ (by decide +kernel)) ggX5_restore_X5_in
set_option maxRecDepth 20000 in
theorem ggX5_restore_X5_record : GoodIn wsX5_restore wsX5_record := goodIn_r _ [11, 12, 13, 3, 14, 15, 6, 16, 17, 18, 19, 20, 21, 22, 23, 24, 25, 26] (by decide +kernel) (by decide +kernel)
set_option maxRecDepth 20000 in
theorem gX5_restore_X5_record : GoodIn wsX5_restore (wsV RX5 49 RX5 yX5_record wsX5_record) := goodIn_app (goodIn_of _ (by decide +kernel)) ggX5_restore_X5_record
set_option maxRecDepth 20000 in
theorem ggX5_restore_X5_copyState : GoodIn wsX5_restore wsX5_copyState := goodIn_r _ [16] (by decide +kernel) (by decide +kernel)
set_option maxRecDepth 20000 in
theorem gX5_restore_X5_copyState : GoodIn wsX5_restore (va_wsS RX5 45 yX5_copyState wsX5_copyState) := goodIn_app (goodIn_of _ (by decide +kernel)) ggX5_restore_X5_copyState
theorem dX5_restore_0 : decode cX5_restore 0 = .ok (.iload_n 1, 1) := by decide +kernel
theorem dX5_restore_1 : decode cX5_restore 1 = .ok (.iconst 0, 1) := by decide +kernel
theorem dX5_restore_2 : decode cX5_restore 2 = .ok (.iconst 1, 1) := by decide +kernel
theorem dX5_restore_3 : decode cX5_restore 3 = .ok (.invokestatic 33, 3) := by decide +kernel
theorem dX5_restore_6 : decode cX5_restore 6 = .ok (.ifCond .ne 6, 3) := by decide +kernel
theorem dX5_restore_9 : decode cX5_restore 9 = .ok (.bipush (-2), 2) := by decide +kernel
theorem dX5_restore_11 : decode cX5_restore 11 = .ok (.ireturn, 1) := by decide +kernel
theorem dX5_restore_12 : decode cX5_restore 12 = .ok (.aload_n 0, 1) := by decide +kernel
theorem dX5_restore_13 : decode cX5_restore 13 = .ok (.getfield 19, 3) := by decide +kernel
theorem dX5_restore_16 : decode cX5_restore 16 = .ok (.iload_n 1, 1) := by decide +kernel
theorem dX5_restore_17 : decode cX5_restore 17 = .ok (.baload, 1) := by decide +kernel
theorem dX5_restore_18 : decode cX5_restore 18 = .ok (.ifCond .ne 6, 3) := by decide +kernel
theorem dX5_restore_21 : decode cX5_restore 21 = .ok (.bipush (-5), 2) := by decide +kernel
theorem dX5_restore_23 : decode cX5_restore 23 = .ok (.ireturn, 1) := by decide +kernel
theorem dX5_restore_24 : decode cX5_restore 24 = .ok (.aload_n 0, 1) := by decide +kernel
theorem dX5_restore_25 : decode cX5_restore 25 = .ok (.invokevirtual 49, 3) := by decide +kernel
theorem dX5_restore_28 : decode cX5_restore 28 = .ok (.aload_n 0, 1) := by decide +kernel
theorem dX5_restore_29 : decode cX5_restore 29 = .ok (.getfield 16, 3) := by decide +kernel
theorem dX5_restore_32 : decode cX5_restore 32 = .ok (.sipush 164, 3) := by decide +kernel
theorem dX5_restore_35 : decode cX5_restore 35 = .ok (.iload_n 1, 1) := by decide +kernel
theorem dX5_restore_36 : decode cX5_restore 36 = .ok (.imul, 1) := by decide +kernel
theorem dX5_restore_37 : decode cX5_restore 37 = .ok (.aload_n 0, 1) := by decide +kernel
theorem dX5_restore_38 : decode cX5_restore 38 = .ok (.getfield 7, 3) := by decide +kernel
theorem dX5_restore_41 : decode cX5_restore 41 = .ok (.iconst 0, 1) := by decide +kernel
theorem dX5_restore_42 : decode cX5_restore 42 = .ok (.invokestatic 45, 3) := by decide +kernel
theorem dX5_restore_45 : decode cX5_restore 45 = .ok (.aload_n 0, 1) := by decide +kernel
theorem dX5_restore_46 : decode cX5_restore 46 = .ok (.getfield 7, 3) := by decide +kernel
theorem dX5_restore_49 : decode cX5_restore 49 = .ok (.iconst 4, 1) := by decide +kernel
theorem dX5_restore_50 : decode cX5_restore 50 = .ok (.iaload, 1) := by decide +kernel
theorem dX5_restore_51 : decode cX5_restore 51 = .ok (.ireturn, 1) := by decide +kernel
set_option maxRecDepth 20000 in
theorem ggX5_isValue_X5_in : GoodIn wsX5_isValue wsX5_in := goodIn_r _ [4] (by decide +kernel) (by decide +kernel)
set_option maxRecDepth 20000 in
theorem gX5_isValue_X5_in : GoodIn wsX5_isValue (va_wsS RX5 33 yX5_in wsX5_in) := goodIn_app (goodIn_of _ (by decide +kernel)) ggX5_isValue_X5_in
theorem dX5_isValue_0 : decode cX5_isValue 0 = .ok (.iload_n 0, 1) := by decide +kernel
theorem dX5_isValue_1 : decode cX5_isValue 1 = .ok (.tableswitch 55 0 3 #[31, 31, 39, 47], 31) := by decide +kernel
theorem dX5_isValue_32 : decode cX5_isValue 32 = .ok (.iload_n 1, 1) := by decide +kernel
theorem dX5_isValue_33 : decode cX5_isValue 33 = .ok (.iconst 0, 1) := by decide +kernel
theorem dX5_isValue_34 : decode cX5_isValue 34 = .ok (.bipush 20, 2) := by decide +kernel
theorem dX5_isValue_36 : decode cX5_isValue 36 = .ok (.invokestatic 33, 3) := by decide +kernel
theorem dX5_isValue_39 : decode cX5_isValue 39 = .ok (.ireturn, 1) := by decide +kernel
theorem dX5_isValue_40 : decode cX5_isValue 40 = .ok (.iload_n 1, 1) := by decide +kernel
theorem dX5_isValue_41 : decode cX5_isValue 41 = .ok (.iconst 1, 1) := by decide +kernel
theorem dX5_isValue_42 : decode cX5_isValue 42 = .ok (.bipush 99, 2) := by decide +kernel
theorem dX5_isValue_44 : decode cX5_isValue 44 = .ok (.invokestatic 33, 3) := by decide +kernel
theorem dX5_isValue_47 : decode cX5_isValue 47 = .ok (.ireturn, 1) := by decide +kernel
theorem dX5_isValue_48 : decode cX5_isValue 48 = .ok (.iload_n 1, 1) := by decide +kernel
theorem dX5_isValue_49 : decode cX5_isValue 49 = .ok (.iconst 1, 1) := by decide +kernel
theorem dX5_isValue_50 : decode cX5_isValue 50 = .ok (.bipush 30, 2) := by decide +kernel
theorem dX5_isValue_52 : decode cX5_isValue 52 = .ok (.invokestatic 33, 3) := by decide +kernel
theorem dX5_isValue_55 : decode cX5_isValue 55 = .ok (.ireturn, 1) := by decide +kernel
theorem dX5_isValue_56 : decode cX5_isValue 56 = .ok (.iconst 0, 1) := by decide +kernel
theorem dX5_isValue_57 : decode cX5_isValue 57 = .ok (.ireturn, 1) := by decide +kernel
set_option maxRecDepth 20000 in
theorem ggX5_set_X5_isValue : GoodIn wsX5_set wsX5_isValue := goodIn_r _ [5, 6, 7, 4, 8] (by decide +kernel) (by decide +kernel)
set_option maxRecDepth 20000 in
theorem gX5_set_X5_isValue : GoodIn wsX5_set (va_wsS RX5 52 yX5_isValue wsX5_isValue) := goodIn_app (goodIn_of _ (by decide +kernel)) ggX5_set_X5_isValue
set_option maxRecDepth 20000 in
theorem ggX5_set_X5_record : GoodIn wsX5_set wsX5_record := goodIn_r _ [12, 13, 14, 1, 15, 16, 4, 17, 18, 19, 20, 21, 22, 23, 24, 25, 26, 27] (by decide +kernel) (by decide +kernel)
set_option maxRecDepth 20000 in
theorem gX5_set_X5_record : GoodIn wsX5_set (wsV RX5 49 RX5 yX5_record wsX5_record) := goodIn_app (goodIn_of _ (by decide +kernel)) ggX5_set_X5_record
theorem dX5_set_0 : decode cX5_set 0 = .ok (.iload_n 1, 1) := by decide +kernel
theorem dX5_set_1 : decode cX5_set 1 = .ok (.iload_n 2, 1) := by decide +kernel
theorem dX5_set_2 : decode cX5_set 2 = .ok (.invokestatic 52, 3) := by decide +kernel
theorem dX5_set_5 : decode cX5_set 5 = .ok (.ifCond .ne 6, 3) := by decide +kernel
theorem dX5_set_8 : decode cX5_set 8 = .ok (.bipush (-2), 2) := by decide +kernel
theorem dX5_set_10 : decode cX5_set 10 = .ok (.ireturn, 1) := by decide +kernel
theorem dX5_set_11 : decode cX5_set 11 = .ok (.aload_n 0, 1) := by decide +kernel
theorem dX5_set_12 : decode cX5_set 12 = .ok (.invokevirtual 49, 3) := by decide +kernel
theorem dX5_set_15 : decode cX5_set 15 = .ok (.aload_n 0, 1) := by decide +kernel
theorem dX5_set_16 : decode cX5_set 16 = .ok (.getfield 7, 3) := by decide +kernel
theorem dX5_set_19 : decode cX5_set 19 = .ok (.iload_n 1, 1) := by decide +kernel
theorem dX5_set_20 : decode cX5_set 20 = .ok (.iaload, 1) := by decide +kernel
theorem dX5_set_21 : decode cX5_set 21 = .ok (.istore_n 3, 1) := by decide +kernel
theorem dX5_set_22 : decode cX5_set 22 = .ok (.aload_n 0, 1) := by decide +kernel
theorem dX5_set_23 : decode cX5_set 23 = .ok (.getfield 7, 3) := by decide +kernel
theorem dX5_set_26 : decode cX5_set 26 = .ok (.iload_n 1, 1) := by decide +kernel
theorem dX5_set_27 : decode cX5_set 27 = .ok (.iload_n 2, 1) := by decide +kernel
theorem dX5_set_28 : decode cX5_set 28 = .ok (.iastore, 1) := by decide +kernel
theorem dX5_set_29 : decode cX5_set 29 = .ok (.iload_n 3, 1) := by decide +kernel
theorem dX5_set_30 : decode cX5_set 30 = .ok (.ireturn, 1) := by decide +kernel
set_option maxRecDepth 20000 in
theorem ggX5_drainAbove_X5_of : GoodIn wsX5_drainAbove wsX5_of := goodIn_r _ [6, 1, 11, 12, 13, 14, 15, 16, 17, 18, 19, 20] (by decide +kernel) (by decide +kernel)
set_option maxRecDepth 20000 in
theorem gX5_drainAbove_X5_of : GoodIn wsX5_drainAbove (wsV RX5 37 RX5 yX5_of wsX5_of) := goodIn_app (goodIn_of _ (by decide +kernel)) ggX5_drainAbove_X5_of
set_option maxRecDepth 20000 in
theorem ggX5_drainAbove_X5_lay : GoodIn wsX5_drainAbove wsX5_lay := goodIn_r _ [10, 1, 11, 12, 13, 14, 15, 16, 17, 18, 19, 20] (by decide +kernel) (by decide +kernel)
set_option maxRecDepth 20000 in
theorem gX5_drainAbove_X5_lay : GoodIn wsX5_drainAbove (wsV RX5 29 RX5 yX5_lay wsX5_lay) := goodIn_app (goodIn_of _ (by decide +kernel)) ggX5_drainAbove_X5_lay
theorem dX5_drainAbove_0 : decode cX5_drainAbove 0 = .ok (.aload_n 0, 1) := by decide +kernel
theorem dX5_drainAbove_1 : decode cX5_drainAbove 1 = .ok (.iload_n 1, 1) := by decide +kernel
theorem dX5_drainAbove_2 : decode cX5_drainAbove 2 = .ok (.iconst 1, 1) := by decide +kernel
theorem dX5_drainAbove_3 : decode cX5_drainAbove 3 = .ok (.invokevirtual 37, 3) := by decide +kernel
theorem dX5_drainAbove_6 : decode cX5_drainAbove 6 = .ok (.iload_n 2, 1) := by decide +kernel
theorem dX5_drainAbove_7 : decode cX5_drainAbove 7 = .ok (.isub, 1) := by decide +kernel
theorem dX5_drainAbove_8 : decode cX5_drainAbove 8 = .ok (.istore_n 3, 1) := by decide +kernel
theorem dX5_drainAbove_9 : decode cX5_drainAbove 9 = .ok (.iload_n 3, 1) := by decide +kernel
theorem dX5_drainAbove_10 : decode cX5_drainAbove 10 = .ok (.ifCond .le 21, 3) := by decide +kernel
theorem dX5_drainAbove_13 : decode cX5_drainAbove 13 = .ok (.aload_n 0, 1) := by decide +kernel
theorem dX5_drainAbove_14 : decode cX5_drainAbove 14 = .ok (.iload_n 1, 1) := by decide +kernel
theorem dX5_drainAbove_15 : decode cX5_drainAbove 15 = .ok (.iconst 1, 1) := by decide +kernel
theorem dX5_drainAbove_16 : decode cX5_drainAbove 16 = .ok (.iload_n 2, 1) := by decide +kernel
theorem dX5_drainAbove_17 : decode cX5_drainAbove 17 = .ok (.invokevirtual 29, 3) := by decide +kernel
theorem dX5_drainAbove_20 : decode cX5_drainAbove 20 = .ok (.aload_n 0, 1) := by decide +kernel
theorem dX5_drainAbove_21 : decode cX5_drainAbove 21 = .ok (.getfield 7, 3) := by decide +kernel
theorem dX5_drainAbove_24 : decode cX5_drainAbove 24 = .ok (.bipush 7, 2) := by decide +kernel
theorem dX5_drainAbove_26 : decode cX5_drainAbove 26 = .ok (.dup2, 1) := by decide +kernel
theorem dX5_drainAbove_27 : decode cX5_drainAbove 27 = .ok (.iaload, 1) := by decide +kernel
theorem dX5_drainAbove_28 : decode cX5_drainAbove 28 = .ok (.iload_n 3, 1) := by decide +kernel
theorem dX5_drainAbove_29 : decode cX5_drainAbove 29 = .ok (.iadd, 1) := by decide +kernel
theorem dX5_drainAbove_30 : decode cX5_drainAbove 30 = .ok (.iastore, 1) := by decide +kernel
theorem dX5_drainAbove_31 : decode cX5_drainAbove 31 = .ok (.return_, 1) := by decide +kernel
set_option maxRecDepth 20000 in
theorem ggX5_brim_X5_isPuddle : GoodIn wsX5_brim wsX5_isPuddle := goodIn_r _ [4, 5, 6, 3, 7] (by decide +kernel) (by decide +kernel)
set_option maxRecDepth 20000 in
theorem gX5_brim_X5_isPuddle : GoodIn wsX5_brim (va_wsS RX5 56 yX5_isPuddle wsX5_isPuddle) := goodIn_app (goodIn_of _ (by decide +kernel)) ggX5_brim_X5_isPuddle
set_option maxRecDepth 20000 in
theorem ggX5_brim_X5_in : GoodIn wsX5_brim wsX5_in := goodIn_r _ [7] (by decide +kernel) (by decide +kernel)
set_option maxRecDepth 20000 in
theorem gX5_brim_X5_in : GoodIn wsX5_brim (va_wsS RX5 33 yX5_in wsX5_in) := goodIn_app (goodIn_of _ (by decide +kernel)) ggX5_brim_X5_in
set_option maxRecDepth 20000 in
theorem ggX5_brim_X5_record : GoodIn wsX5_brim wsX5_record := goodIn_r _ [11, 12, 13, 14, 15, 16, 3, 17, 30, 31, 32, 33, 34, 35, 36, 37, 38, 39] (by decide +kernel) (by decide +kernel)
set_option maxRecDepth 20000 in
theorem gX5_brim_X5_record : GoodIn wsX5_brim (wsV RX5 49 RX5 yX5_record wsX5_record) := goodIn_app (goodIn_of _ (by decide +kernel)) ggX5_brim_X5_record
set_option maxRecDepth 20000 in
theorem ggX5_brim_X5_of : GoodIn wsX5_brim wsX5_of := goodIn_r _ [21, 14, 30, 31, 32, 33, 34, 35, 36, 37, 38, 39] (by decide +kernel) (by decide +kernel)
set_option maxRecDepth 20000 in
theorem gX5_brim_X5_of : GoodIn wsX5_brim (wsV RX5 37 RX5 yX5_of wsX5_of) := goodIn_app (goodIn_of _ (by decide +kernel)) ggX5_brim_X5_of
set_option maxRecDepth 20000 in
theorem ggX5_brim_X5_lay : GoodIn wsX5_brim wsX5_lay := goodIn_r _ [25, 14, 30, 31, 32, 33, 34, 35, 36, 37, 38, 39] (by decide +kernel) (by decide +kernel)
set_option maxRecDepth 20000 in
theorem gX5_brim_X5_lay : GoodIn wsX5_brim (wsV RX5 29 RX5 yX5_lay wsX5_lay) := goodIn_app (goodIn_of _ (by decide +kernel)) ggX5_brim_X5_lay
set_option maxRecDepth 20000 in
theorem ggX5_brim_X5_drainAbove : GoodIn wsX5_brim wsX5_drainAbove := goodIn_r _ [29, 14, 18, 19, 20, 3, 21, 22, 23, 24, 25, 30, 31, 32, 33, 34, 35, 36, 37, 38, 39] (by decide +kernel) (by decide +kernel)
set_option maxRecDepth 20000 in
theorem gX5_brim_X5_drainAbove : GoodIn wsX5_brim (wsV RX5 60 RX5 yX5_drainAbove wsX5_drainAbove) := goodIn_app (goodIn_of _ (by decide +kernel)) ggX5_brim_X5_drainAbove
theorem dX5_brim_0 : decode cX5_brim 0 = .ok (.iload_n 1, 1) := by decide +kernel
theorem dX5_brim_1 : decode cX5_brim 1 = .ok (.invokestatic 56, 3) := by decide +kernel
theorem dX5_brim_4 : decode cX5_brim 4 = .ok (.ifCond .ne 5, 3) := by decide +kernel
theorem dX5_brim_7 : decode cX5_brim 7 = .ok (.iconst (-1), 1) := by decide +kernel
theorem dX5_brim_8 : decode cX5_brim 8 = .ok (.ireturn, 1) := by decide +kernel
theorem dX5_brim_9 : decode cX5_brim 9 = .ok (.iload_n 2, 1) := by decide +kernel
theorem dX5_brim_10 : decode cX5_brim 10 = .ok (.iconst 1, 1) := by decide +kernel
theorem dX5_brim_11 : decode cX5_brim 11 = .ok (.bipush 60, 2) := by decide +kernel
theorem dX5_brim_13 : decode cX5_brim 13 = .ok (.invokestatic 33, 3) := by decide +kernel
theorem dX5_brim_16 : decode cX5_brim 16 = .ok (.ifCond .ne 6, 3) := by decide +kernel
theorem dX5_brim_19 : decode cX5_brim 19 = .ok (.bipush (-2), 2) := by decide +kernel
theorem dX5_brim_21 : decode cX5_brim 21 = .ok (.ireturn, 1) := by decide +kernel
theorem dX5_brim_22 : decode cX5_brim 22 = .ok (.aload_n 0, 1) := by decide +kernel
theorem dX5_brim_23 : decode cX5_brim 23 = .ok (.invokevirtual 49, 3) := by decide +kernel
theorem dX5_brim_26 : decode cX5_brim 26 = .ok (.aload_n 0, 1) := by decide +kernel
theorem dX5_brim_27 : decode cX5_brim 27 = .ok (.iload_n 1, 1) := by decide +kernel
theorem dX5_brim_28 : decode cX5_brim 28 = .ok (.iconst 0, 1) := by decide +kernel
theorem dX5_brim_29 : decode cX5_brim 29 = .ok (.invokevirtual 37, 3) := by decide +kernel
theorem dX5_brim_32 : decode cX5_brim 32 = .ok (.istore_n 3, 1) := by decide +kernel
theorem dX5_brim_33 : decode cX5_brim 33 = .ok (.aload_n 0, 1) := by decide +kernel
theorem dX5_brim_34 : decode cX5_brim 34 = .ok (.iload_n 1, 1) := by decide +kernel
theorem dX5_brim_35 : decode cX5_brim 35 = .ok (.iconst 0, 1) := by decide +kernel
theorem dX5_brim_36 : decode cX5_brim 36 = .ok (.iload_n 2, 1) := by decide +kernel
theorem dX5_brim_37 : decode cX5_brim 37 = .ok (.invokevirtual 29, 3) := by decide +kernel
theorem dX5_brim_40 : decode cX5_brim 40 = .ok (.aload_n 0, 1) := by decide +kernel
theorem dX5_brim_41 : decode cX5_brim 41 = .ok (.iload_n 1, 1) := by decide +kernel
theorem dX5_brim_42 : decode cX5_brim 42 = .ok (.iload_n 2, 1) := by decide +kernel
theorem dX5_brim_43 : decode cX5_brim 43 = .ok (.invokevirtual 60, 3) := by decide +kernel
theorem dX5_brim_46 : decode cX5_brim 46 = .ok (.iload_n 3, 1) := by decide +kernel
theorem dX5_brim_47 : decode cX5_brim 47 = .ok (.ireturn, 1) := by decide +kernel
set_option maxRecDepth 20000 in
theorem ggX5_hasDucks_X5_of : GoodIn wsX5_hasDucks wsX5_of := goodIn_r _ [5, 6, 7, 8, 9, 10, 11, 12, 13, 14, 15, 16] (by decide +kernel) (by decide +kernel)
set_option maxRecDepth 20000 in
theorem gX5_hasDucks_X5_of : GoodIn wsX5_hasDucks (wsV RX5 37 RX5 yX5_of wsX5_of) := goodIn_app (goodIn_of _ (by decide +kernel)) ggX5_hasDucks_X5_of
theorem dX5_hasDucks_0 : decode cX5_hasDucks 0 = .ok (.aload_n 0, 1) := by decide +kernel
theorem dX5_hasDucks_1 : decode cX5_hasDucks 1 = .ok (.iload_n 1, 1) := by decide +kernel
theorem dX5_hasDucks_2 : decode cX5_hasDucks 2 = .ok (.iconst 3, 1) := by decide +kernel
theorem dX5_hasDucks_3 : decode cX5_hasDucks 3 = .ok (.invokevirtual 37, 3) := by decide +kernel
theorem dX5_hasDucks_6 : decode cX5_hasDucks 6 = .ok (.iconst 1, 1) := by decide +kernel
theorem dX5_hasDucks_7 : decode cX5_hasDucks 7 = .ok (.if_icmp .ne 7, 3) := by decide +kernel
theorem dX5_hasDucks_10 : decode cX5_hasDucks 10 = .ok (.iconst 1, 1) := by decide +kernel
theorem dX5_hasDucks_11 : decode cX5_hasDucks 11 = .ok (.goto 4, 3) := by decide +kernel
theorem dX5_hasDucks_14 : decode cX5_hasDucks 14 = .ok (.iconst 0, 1) := by decide +kernel
theorem dX5_hasDucks_15 : decode cX5_hasDucks 15 = .ok (.ireturn, 1) := by decide +kernel
set_option maxRecDepth 20000 in
theorem ggX5_drain_X5_isPuddle : GoodIn wsX5_drain wsX5_isPuddle := goodIn_r _ [4, 5, 6, 3, 7] (by decide +kernel) (by decide +kernel)
set_option maxRecDepth 20000 in
theorem gX5_drain_X5_isPuddle : GoodIn wsX5_drain (va_wsS RX5 56 yX5_isPuddle wsX5_isPuddle) := goodIn_app (goodIn_of _ (by decide +kernel)) ggX5_drain_X5_isPuddle
set_option maxRecDepth 20000 in
theorem ggX5_drain_X5_hasDucks : GoodIn wsX5_drain wsX5_hasDucks := goodIn_r _ [11, 12, 13, 14, 3, 15, 16, 34, 35, 36, 37, 38, 39, 40, 41, 42, 43] (by decide +kernel) (by decide +kernel)
set_option maxRecDepth 20000 in
theorem gX5_drain_X5_hasDucks : GoodIn wsX5_drain (wsV RX5 64 RX5 yX5_hasDucks wsX5_hasDucks) := goodIn_app (goodIn_of _ (by decide +kernel)) ggX5_drain_X5_hasDucks
set_option maxRecDepth 20000 in
theorem ggX5_drain_X5_record : GoodIn wsX5_drain wsX5_record := goodIn_r _ [20, 21, 22, 16, 23, 24, 3, 25, 34, 35, 36, 37, 38, 39, 40, 41, 42, 43] (by decide +kernel) (by decide +kernel)
set_option maxRecDepth 20000 in
theorem gX5_drain_X5_record : GoodIn wsX5_drain (wsV RX5 49 RX5 yX5_record wsX5_record) := goodIn_app (goodIn_of _ (by decide +kernel)) ggX5_drain_X5_record
set_option maxRecDepth 20000 in
theorem ggX5_drain_X5_of : GoodIn wsX5_drain wsX5_of := goodIn_r _ [15, 16, 34, 35, 36, 37, 38, 39, 40, 41, 42, 43] (by decide +kernel) (by decide +kernel)
set_option maxRecDepth 20000 in
theorem gX5_drain_X5_of : GoodIn wsX5_drain (wsV RX5 37 RX5 yX5_of wsX5_of) := goodIn_app (goodIn_of _ (by decide +kernel)) ggX5_drain_X5_of
set_option maxRecDepth 20000 in
theorem ggX5_drain_X5_drainAbove : GoodIn wsX5_drain wsX5_drainAbove := goodIn_r _ [29, 16, 12, 13, 14, 3, 15, 30, 31, 32, 33, 34, 35, 36, 37, 38, 39, 40, 41, 42, 43] (by decide +kernel) (by decide +kernel)
set_option maxRecDepth 20000 in
theorem gX5_drain_X5_drainAbove : GoodIn wsX5_drain (wsV RX5 60 RX5 yX5_drainAbove wsX5_drainAbove) := goodIn_app (goodIn_of _ (by decide +kernel)) ggX5_drain_X5_drainAbove
set_option maxRecDepth 20000 in
theorem ggX5_drain_X5_lay : GoodIn wsX5_drain wsX5_lay := goodIn_r _ [33, 16, 34, 35, 36, 37, 38, 39, 40, 41, 42, 43] (by decide +kernel) (by decide +kernel)
set_option maxRecDepth 20000 in
theorem gX5_drain_X5_lay : GoodIn wsX5_drain (wsV RX5 29 RX5 yX5_lay wsX5_lay) := goodIn_app (goodIn_of _ (by decide +kernel)) ggX5_drain_X5_lay
theorem dX5_drain_0 : decode cX5_drain 0 = .ok (.iload_n 1, 1) := by decide +kernel
theorem dX5_drain_1 : decode cX5_drain 1 = .ok (.invokestatic 56, 3) := by decide +kernel
theorem dX5_drain_4 : decode cX5_drain 4 = .ok (.ifCond .ne 5, 3) := by decide +kernel
theorem dX5_drain_7 : decode cX5_drain 7 = .ok (.iconst (-1), 1) := by decide +kernel
theorem dX5_drain_8 : decode cX5_drain 8 = .ok (.ireturn, 1) := by decide +kernel
theorem dX5_drain_9 : decode cX5_drain 9 = .ok (.aload_n 0, 1) := by decide +kernel
theorem dX5_drain_10 : decode cX5_drain 10 = .ok (.iload_n 1, 1) := by decide +kernel
theorem dX5_drain_11 : decode cX5_drain 11 = .ok (.invokevirtual 64, 3) := by decide +kernel
theorem dX5_drain_14 : decode cX5_drain 14 = .ok (.ifCond .eq 6, 3) := by decide +kernel
theorem dX5_drain_17 : decode cX5_drain 17 = .ok (.bipush (-5), 2) := by decide +kernel
theorem dX5_drain_19 : decode cX5_drain 19 = .ok (.ireturn, 1) := by decide +kernel
theorem dX5_drain_20 : decode cX5_drain 20 = .ok (.aload_n 0, 1) := by decide +kernel
theorem dX5_drain_21 : decode cX5_drain 21 = .ok (.invokevirtual 49, 3) := by decide +kernel
theorem dX5_drain_24 : decode cX5_drain 24 = .ok (.aload_n 0, 1) := by decide +kernel
theorem dX5_drain_25 : decode cX5_drain 25 = .ok (.iload_n 1, 1) := by decide +kernel
theorem dX5_drain_26 : decode cX5_drain 26 = .ok (.iconst 1, 1) := by decide +kernel
theorem dX5_drain_27 : decode cX5_drain 27 = .ok (.invokevirtual 37, 3) := by decide +kernel
theorem dX5_drain_30 : decode cX5_drain 30 = .ok (.istore_n 2, 1) := by decide +kernel
theorem dX5_drain_31 : decode cX5_drain 31 = .ok (.aload_n 0, 1) := by decide +kernel
theorem dX5_drain_32 : decode cX5_drain 32 = .ok (.iload_n 1, 1) := by decide +kernel
theorem dX5_drain_33 : decode cX5_drain 33 = .ok (.iconst 0, 1) := by decide +kernel
theorem dX5_drain_34 : decode cX5_drain 34 = .ok (.invokevirtual 60, 3) := by decide +kernel
theorem dX5_drain_37 : decode cX5_drain 37 = .ok (.aload_n 0, 1) := by decide +kernel
theorem dX5_drain_38 : decode cX5_drain 38 = .ok (.iload_n 1, 1) := by decide +kernel
theorem dX5_drain_39 : decode cX5_drain 39 = .ok (.iconst 2, 1) := by decide +kernel
theorem dX5_drain_40 : decode cX5_drain 40 = .ok (.iconst 0, 1) := by decide +kernel
theorem dX5_drain_41 : decode cX5_drain 41 = .ok (.invokevirtual 29, 3) := by decide +kernel
theorem dX5_drain_44 : decode cX5_drain 44 = .ok (.iload_n 2, 1) := by decide +kernel
theorem dX5_drain_45 : decode cX5_drain 45 = .ok (.ireturn, 1) := by decide +kernel
set_option maxRecDepth 20000 in
theorem ggX5_shoes_X5_isWalker : GoodIn wsX5_shoes wsX5_isWalker := goodIn_r _ [4, 5, 6, 3, 7] (by decide +kernel) (by decide +kernel)
set_option maxRecDepth 20000 in
theorem gX5_shoes_X5_isWalker : GoodIn wsX5_shoes (va_wsS RX5 67 yX5_isWalker wsX5_isWalker) := goodIn_app (goodIn_of _ (by decide +kernel)) ggX5_shoes_X5_isWalker
set_option maxRecDepth 20000 in
theorem ggX5_shoes_X5_in : GoodIn wsX5_shoes wsX5_in := goodIn_r _ [7] (by decide +kernel) (by decide +kernel)
set_option maxRecDepth 20000 in
theorem gX5_shoes_X5_in : GoodIn wsX5_shoes (va_wsS RX5 33 yX5_in wsX5_in) := goodIn_app (goodIn_of _ (by decide +kernel)) ggX5_shoes_X5_in
set_option maxRecDepth 20000 in
theorem ggX5_shoes_X5_record : GoodIn wsX5_shoes wsX5_record := goodIn_r _ [11, 12, 13, 14, 15, 16, 3, 17, 26, 27, 28, 29, 30, 31, 32, 33, 34, 35] (by decide +kernel) (by decide +kernel)
set_option maxRecDepth 20000 in
theorem gX5_shoes_X5_record : GoodIn wsX5_shoes (wsV RX5 49 RX5 yX5_record wsX5_record) := goodIn_app (goodIn_of _ (by decide +kernel)) ggX5_shoes_X5_record
set_option maxRecDepth 20000 in
theorem ggX5_shoes_X5_ofWalker : GoodIn wsX5_shoes wsX5_ofWalker := goodIn_r _ [21, 14, 26, 27, 28, 29, 30, 31, 32, 33, 34, 35] (by decide +kernel) (by decide +kernel)
set_option maxRecDepth 20000 in
theorem gX5_shoes_X5_ofWalker : GoodIn wsX5_shoes (wsV RX5 70 RX5 yX5_ofWalker wsX5_ofWalker) := goodIn_app (goodIn_of _ (by decide +kernel)) ggX5_shoes_X5_ofWalker
set_option maxRecDepth 20000 in
theorem ggX5_shoes_X5_layWalker : GoodIn wsX5_shoes wsX5_layWalker := goodIn_r _ [25, 14, 26, 27, 28, 29, 30, 31, 32, 33, 34, 35] (by decide +kernel) (by decide +kernel)
set_option maxRecDepth 20000 in
theorem gX5_shoes_X5_layWalker : GoodIn wsX5_shoes (wsV RX5 73 RX5 yX5_layWalker wsX5_layWalker) := goodIn_app (goodIn_of _ (by decide +kernel)) ggX5_shoes_X5_layWalker
theorem dX5_shoes_0 : decode cX5_shoes 0 = .ok (.iload_n 1, 1) := by decide +kernel
theorem dX5_shoes_1 : decode cX5_shoes 1 = .ok (.invokestatic 67, 3) := by decide +kernel
theorem dX5_shoes_4 : decode cX5_shoes 4 = .ok (.ifCond .ne 5, 3) := by decide +kernel
theorem dX5_shoes_7 : decode cX5_shoes 7 = .ok (.iconst (-1), 1) := by decide +kernel
theorem dX5_shoes_8 : decode cX5_shoes 8 = .ok (.ireturn, 1) := by decide +kernel
theorem dX5_shoes_9 : decode cX5_shoes 9 = .ok (.iload_n 2, 1) := by decide +kernel
theorem dX5_shoes_10 : decode cX5_shoes 10 = .ok (.iconst 0, 1) := by decide +kernel
theorem dX5_shoes_11 : decode cX5_shoes 11 = .ok (.iconst 3, 1) := by decide +kernel
theorem dX5_shoes_12 : decode cX5_shoes 12 = .ok (.invokestatic 33, 3) := by decide +kernel
theorem dX5_shoes_15 : decode cX5_shoes 15 = .ok (.ifCond .ne 6, 3) := by decide +kernel
theorem dX5_shoes_18 : decode cX5_shoes 18 = .ok (.bipush (-2), 2) := by decide +kernel
theorem dX5_shoes_20 : decode cX5_shoes 20 = .ok (.ireturn, 1) := by decide +kernel
theorem dX5_shoes_21 : decode cX5_shoes 21 = .ok (.aload_n 0, 1) := by decide +kernel
theorem dX5_shoes_22 : decode cX5_shoes 22 = .ok (.invokevirtual 49, 3) := by decide +kernel
theorem dX5_shoes_25 : decode cX5_shoes 25 = .ok (.aload_n 0, 1) := by decide +kernel
theorem dX5_shoes_26 : decode cX5_shoes 26 = .ok (.iload_n 1, 1) := by decide +kernel
theorem dX5_shoes_27 : decode cX5_shoes 27 = .ok (.iconst 0, 1) := by decide +kernel
theorem dX5_shoes_28 : decode cX5_shoes 28 = .ok (.invokevirtual 70, 3) := by decide +kernel
theorem dX5_shoes_31 : decode cX5_shoes 31 = .ok (.istore_n 3, 1) := by decide +kernel
theorem dX5_shoes_32 : decode cX5_shoes 32 = .ok (.aload_n 0, 1) := by decide +kernel
theorem dX5_shoes_33 : decode cX5_shoes 33 = .ok (.iload_n 1, 1) := by decide +kernel
theorem dX5_shoes_34 : decode cX5_shoes 34 = .ok (.iconst 0, 1) := by decide +kernel
theorem dX5_shoes_35 : decode cX5_shoes 35 = .ok (.iload_n 2, 1) := by decide +kernel
theorem dX5_shoes_36 : decode cX5_shoes 36 = .ok (.invokevirtual 73, 3) := by decide +kernel
theorem dX5_shoes_39 : decode cX5_shoes 39 = .ok (.iload_n 3, 1) := by decide +kernel
theorem dX5_shoes_40 : decode cX5_shoes 40 = .ok (.ireturn, 1) := by decide +kernel
theorem dX5_size_0 : decode cX5_size 0 = .ok (.iconst 0, 1) := by decide +kernel
theorem dX5_size_1 : decode cX5_size 1 = .ok (.istore_n 1, 1) := by decide +kernel
theorem dX5_size_2 : decode cX5_size 2 = .ok (.iconst 0, 1) := by decide +kernel
theorem dX5_size_3 : decode cX5_size 3 = .ok (.istore_n 2, 1) := by decide +kernel
theorem dX5_size_4 : decode cX5_size 4 = .ok (.iload_n 2, 1) := by decide +kernel
theorem dX5_size_5 : decode cX5_size 5 = .ok (.bipush 12, 2) := by decide +kernel
theorem dX5_size_7 : decode cX5_size 7 = .ok (.if_icmp .ge 17, 3) := by decide +kernel
theorem dX5_size_10 : decode cX5_size 10 = .ok (.iload_n 1, 1) := by decide +kernel
theorem dX5_size_11 : decode cX5_size 11 = .ok (.iload_n 0, 1) := by decide +kernel
theorem dX5_size_12 : decode cX5_size 12 = .ok (.iload_n 2, 1) := by decide +kernel
theorem dX5_size_13 : decode cX5_size 13 = .ok (.ishr, 1) := by decide +kernel
theorem dX5_size_14 : decode cX5_size 14 = .ok (.iconst 1, 1) := by decide +kernel
theorem dX5_size_15 : decode cX5_size 15 = .ok (.iand, 1) := by decide +kernel
theorem dX5_size_16 : decode cX5_size 16 = .ok (.iadd, 1) := by decide +kernel
theorem dX5_size_17 : decode cX5_size 17 = .ok (.istore_n 1, 1) := by decide +kernel
theorem dX5_size_18 : decode cX5_size 18 = .ok (.iinc 2 1, 3) := by decide +kernel
theorem dX5_size_21 : decode cX5_size 21 = .ok (.goto (-17), 3) := by decide +kernel
theorem dX5_size_24 : decode cX5_size 24 = .ok (.iload_n 1, 1) := by decide +kernel
theorem dX5_size_25 : decode cX5_size 25 = .ok (.ireturn, 1) := by decide +kernel
set_option maxRecDepth 20000 in
theorem ggX5_permits_X5_days : GoodIn wsX5_permits wsX5_days := goodIn_r _ [5, 6, 7, 8, 9, 10, 11, 12, 13, 14, 15, 16] (by decide +kernel) (by decide +kernel)
set_option maxRecDepth 20000 in
theorem gX5_permits_X5_days : GoodIn wsX5_permits (wsV RX5 76 RX5 yX5_days wsX5_days) := goodIn_app (goodIn_of _ (by decide +kernel)) ggX5_permits_X5_days
theorem dX5_permits_0 : decode cX5_permits 0 = .ok (.iconst 0, 1) := by decide +kernel
theorem dX5_permits_1 : decode cX5_permits 1 = .ok (.istore_n 2, 1) := by decide +kernel
theorem dX5_permits_2 : decode cX5_permits 2 = .ok (.iconst 0, 1) := by decide +kernel
theorem dX5_permits_3 : decode cX5_permits 3 = .ok (.istore_n 3, 1) := by decide +kernel
theorem dX5_permits_4 : decode cX5_permits 4 = .ok (.iload_n 3, 1) := by decide +kernel
theorem dX5_permits_5 : decode cX5_permits 5 = .ok (.bipush 12, 2) := by decide +kernel
theorem dX5_permits_7 : decode cX5_permits 7 = .ok (.if_icmp .ge 28, 3) := by decide +kernel
theorem dX5_permits_10 : decode cX5_permits 10 = .ok (.iload_n 2, 1) := by decide +kernel
theorem dX5_permits_11 : decode cX5_permits 11 = .ok (.aload_n 0, 1) := by decide +kernel
theorem dX5_permits_12 : decode cX5_permits 12 = .ok (.iload_n 1, 1) := by decide +kernel
theorem dX5_permits_13 : decode cX5_permits 13 = .ok (.iload_n 3, 1) := by decide +kernel
theorem dX5_permits_14 : decode cX5_permits 14 = .ok (.invokevirtual 76, 3) := by decide +kernel
theorem dX5_permits_17 : decode cX5_permits 17 = .ok (.ifCond .le 9, 3) := by decide +kernel
theorem dX5_permits_20 : decode cX5_permits 20 = .ok (.iconst 1, 1) := by decide +kernel
theorem dX5_permits_21 : decode cX5_permits 21 = .ok (.iload_n 3, 1) := by decide +kernel
theorem dX5_permits_22 : decode cX5_permits 22 = .ok (.ishl, 1) := by decide +kernel
theorem dX5_permits_23 : decode cX5_permits 23 = .ok (.goto 4, 3) := by decide +kernel
theorem dX5_permits_26 : decode cX5_permits 26 = .ok (.iconst 0, 1) := by decide +kernel
theorem dX5_permits_27 : decode cX5_permits 27 = .ok (.ior, 1) := by decide +kernel
theorem dX5_permits_28 : decode cX5_permits 28 = .ok (.istore_n 2, 1) := by decide +kernel
theorem dX5_permits_29 : decode cX5_permits 29 = .ok (.iinc 3 1, 3) := by decide +kernel
theorem dX5_permits_32 : decode cX5_permits 32 = .ok (.goto (-28), 3) := by decide +kernel
theorem dX5_permits_35 : decode cX5_permits 35 = .ok (.iload_n 2, 1) := by decide +kernel
theorem dX5_permits_36 : decode cX5_permits 36 = .ok (.ireturn, 1) := by decide +kernel
set_option maxRecDepth 20000 in
theorem ggX5_permit_X5_isWalker : GoodIn wsX5_permit wsX5_isWalker := goodIn_r _ [5, 6, 7, 4, 8] (by decide +kernel) (by decide +kernel)
set_option maxRecDepth 20000 in
theorem gX5_permit_X5_isWalker : GoodIn wsX5_permit (va_wsS RX5 67 yX5_isWalker wsX5_isWalker) := goodIn_app (goodIn_of _ (by decide +kernel)) ggX5_permit_X5_isWalker
set_option maxRecDepth 20000 in
theorem ggX5_permit_X5_isPuddle : GoodIn wsX5_permit wsX5_isPuddle := goodIn_r _ [11, 6, 7, 4, 8] (by decide +kernel) (by decide +kernel)
set_option maxRecDepth 20000 in
theorem gX5_permit_X5_isPuddle : GoodIn wsX5_permit (va_wsS RX5 56 yX5_isPuddle wsX5_isPuddle) := goodIn_app (goodIn_of _ (by decide +kernel)) ggX5_permit_X5_isPuddle
set_option maxRecDepth 20000 in
theorem ggX5_permit_X5_hasDucks : GoodIn wsX5_permit wsX5_hasDucks := goodIn_r _ [15, 16, 17, 18, 4, 19, 1, 40, 41, 42, 43, 44, 45, 46, 47, 48, 49] (by decide +kernel) (by decide +kernel)
set_option maxRecDepth 20000 in
theorem gX5_permit_X5_hasDucks : GoodIn wsX5_permit (wsV RX5 64 RX5 yX5_hasDucks wsX5_hasDucks) := goodIn_app (goodIn_of _ (by decide +kernel)) ggX5_permit_X5_hasDucks
set_option maxRecDepth 20000 in
theorem ggX5_permit_X5_record : GoodIn wsX5_permit wsX5_record := goodIn_r _ [23, 24, 25, 1, 26, 27, 4, 28, 40, 41, 42, 43, 44, 45, 46, 47, 48, 49] (by decide +kernel) (by decide +kernel)
set_option maxRecDepth 20000 in
theorem gX5_permit_X5_record : GoodIn wsX5_permit (wsV RX5 49 RX5 yX5_record wsX5_record) := goodIn_app (goodIn_of _ (by decide +kernel)) ggX5_permit_X5_record
set_option maxRecDepth 20000 in
theorem ggX5_permit_X5_permits : GoodIn wsX5_permit wsX5_permits := goodIn_r _ [32, 33, 34, 35, 4, 36, 1, 40, 41, 42, 43, 44, 45, 46, 47, 48, 49] (by decide +kernel) (by decide +kernel)
set_option maxRecDepth 20000 in
theorem gX5_permit_X5_permits : GoodIn wsX5_permit (wsV RX5 79 RX5 yX5_permits wsX5_permits) := goodIn_app (goodIn_of _ (by decide +kernel)) ggX5_permit_X5_permits
set_option maxRecDepth 20000 in
theorem ggX5_permit_X5_size : GoodIn wsX5_permit wsX5_size := goodIn_r _ [39] (by decide +kernel) (by decide +kernel)
set_option maxRecDepth 20000 in
theorem gX5_permit_X5_size : GoodIn wsX5_permit (va_wsS RX5 83 yX5_size wsX5_size) := goodIn_app (goodIn_of _ (by decide +kernel)) ggX5_permit_X5_size
theorem dX5_permit_0 : decode cX5_permit 0 = .ok (.iload_n 1, 1) := by decide +kernel
theorem dX5_permit_1 : decode cX5_permit 1 = .ok (.invokestatic 67, 3) := by decide +kernel
theorem dX5_permit_4 : decode cX5_permit 4 = .ok (.ifCond .eq 10, 3) := by decide +kernel
theorem dX5_permit_7 : decode cX5_permit 7 = .ok (.iload_n 2, 1) := by decide +kernel
theorem dX5_permit_8 : decode cX5_permit 8 = .ok (.invokestatic 56, 3) := by decide +kernel
theorem dX5_permit_11 : decode cX5_permit 11 = .ok (.ifCond .ne 5, 3) := by decide +kernel
theorem dX5_permit_14 : decode cX5_permit 14 = .ok (.iconst (-1), 1) := by decide +kernel
theorem dX5_permit_15 : decode cX5_permit 15 = .ok (.ireturn, 1) := by decide +kernel
theorem dX5_permit_16 : decode cX5_permit 16 = .ok (.aload_n 0, 1) := by decide +kernel
theorem dX5_permit_17 : decode cX5_permit 17 = .ok (.iload_n 2, 1) := by decide +kernel
theorem dX5_permit_18 : decode cX5_permit 18 = .ok (.invokevirtual 64, 3) := by decide +kernel
theorem dX5_permit_21 : decode cX5_permit 21 = .ok (.ifCond .eq 6, 3) := by decide +kernel
theorem dX5_permit_24 : decode cX5_permit 24 = .ok (.bipush (-5), 2) := by decide +kernel
theorem dX5_permit_26 : decode cX5_permit 26 = .ok (.ireturn, 1) := by decide +kernel
theorem dX5_permit_27 : decode cX5_permit 27 = .ok (.aload_n 0, 1) := by decide +kernel
theorem dX5_permit_28 : decode cX5_permit 28 = .ok (.invokevirtual 49, 3) := by decide +kernel
theorem dX5_permit_31 : decode cX5_permit 31 = .ok (.aload_n 0, 1) := by decide +kernel
theorem dX5_permit_32 : decode cX5_permit 32 = .ok (.getfield 7, 3) := by decide +kernel
theorem dX5_permit_35 : decode cX5_permit 35 = .ok (.bipush 92, 2) := by decide +kernel
theorem dX5_permit_37 : decode cX5_permit 37 = .ok (.bipush 12, 2) := by decide +kernel
theorem dX5_permit_39 : decode cX5_permit 39 = .ok (.iload_n 1, 1) := by decide +kernel
theorem dX5_permit_40 : decode cX5_permit 40 = .ok (.imul, 1) := by decide +kernel
theorem dX5_permit_41 : decode cX5_permit 41 = .ok (.iadd, 1) := by decide +kernel
theorem dX5_permit_42 : decode cX5_permit 42 = .ok (.iload_n 2, 1) := by decide +kernel
theorem dX5_permit_43 : decode cX5_permit 43 = .ok (.iadd, 1) := by decide +kernel
theorem dX5_permit_44 : decode cX5_permit 44 = .ok (.aload_n 0, 1) := by decide +kernel
theorem dX5_permit_45 : decode cX5_permit 45 = .ok (.getfield 7, 3) := by decide +kernel
theorem dX5_permit_48 : decode cX5_permit 48 = .ok (.iconst 3, 1) := by decide +kernel
theorem dX5_permit_49 : decode cX5_permit 49 = .ok (.iaload, 1) := by decide +kernel
theorem dX5_permit_50 : decode cX5_permit 50 = .ok (.iastore, 1) := by decide +kernel
theorem dX5_permit_51 : decode cX5_permit 51 = .ok (.aload_n 0, 1) := by decide +kernel
theorem dX5_permit_52 : decode cX5_permit 52 = .ok (.iload_n 1, 1) := by decide +kernel
theorem dX5_permit_53 : decode cX5_permit 53 = .ok (.invokevirtual 79, 3) := by decide +kernel
theorem dX5_permit_56 : decode cX5_permit 56 = .ok (.invokestatic 83, 3) := by decide +kernel
theorem dX5_permit_59 : decode cX5_permit 59 = .ok (.ireturn, 1) := by decide +kernel
set_option maxRecDepth 20000 in
theorem ggX5_reason_X5_hasDucks : GoodIn wsX5_reason wsX5_hasDucks := goodIn_r _ [5, 6, 7, 8, 4, 9, 10, 23, 24, 25, 26, 27, 28, 29, 30, 31, 32] (by decide +kernel) (by decide +kernel)
set_option maxRecDepth 20000 in
theorem gX5_reason_X5_hasDucks : GoodIn wsX5_reason (wsV RX5 64 RX5 yX5_hasDucks wsX5_hasDucks) := goodIn_app (goodIn_of _ (by decide +kernel)) ggX5_reason_X5_hasDucks
set_option maxRecDepth 20000 in
theorem ggX5_reason_X5_days : GoodIn wsX5_reason wsX5_days := goodIn_r _ [14, 10, 23, 24, 25, 26, 27, 28, 29, 30, 31, 32] (by decide +kernel) (by decide +kernel)
set_option maxRecDepth 20000 in
theorem gX5_reason_X5_days : GoodIn wsX5_reason (wsV RX5 76 RX5 yX5_days wsX5_days) := goodIn_app (goodIn_of _ (by decide +kernel)) ggX5_reason_X5_days
set_option maxRecDepth 20000 in
theorem ggX5_reason_X5_isFrozen : GoodIn wsX5_reason wsX5_isFrozen := goodIn_r _ [18, 6, 7, 8, 4, 9, 10, 23, 24, 25, 26, 27, 28, 29, 30, 31, 32] (by decide +kernel) (by decide +kernel)
set_option maxRecDepth 20000 in
theorem gX5_reason_X5_isFrozen : GoodIn wsX5_reason (wsV RX5 86 RX5 yX5_isFrozen wsX5_isFrozen) := goodIn_app (goodIn_of _ (by decide +kernel)) ggX5_reason_X5_isFrozen
set_option maxRecDepth 20000 in
theorem ggX5_reason_X5_depth : GoodIn wsX5_reason wsX5_depth := goodIn_r _ [22, 6, 7, 8, 4, 9, 10, 23, 24, 25, 26, 27, 28, 29, 30, 31, 32] (by decide +kernel) (by decide +kernel)
set_option maxRecDepth 20000 in
theorem gX5_reason_X5_depth : GoodIn wsX5_reason (wsV RX5 89 RX5 yX5_depth wsX5_depth) := goodIn_app (goodIn_of _ (by decide +kernel)) ggX5_reason_X5_depth
theorem dX5_reason_0 : decode cX5_reason 0 = .ok (.aload_n 0, 1) := by decide +kernel
theorem dX5_reason_1 : decode cX5_reason 1 = .ok (.iload_n 2, 1) := by decide +kernel
theorem dX5_reason_2 : decode cX5_reason 2 = .ok (.invokevirtual 64, 3) := by decide +kernel
theorem dX5_reason_5 : decode cX5_reason 5 = .ok (.ifCond .eq 5, 3) := by decide +kernel
theorem dX5_reason_8 : decode cX5_reason 8 = .ok (.iconst 1, 1) := by decide +kernel
theorem dX5_reason_9 : decode cX5_reason 9 = .ok (.ireturn, 1) := by decide +kernel
theorem dX5_reason_10 : decode cX5_reason 10 = .ok (.aload_n 0, 1) := by decide +kernel
theorem dX5_reason_11 : decode cX5_reason 11 = .ok (.iload_n 1, 1) := by decide +kernel
theorem dX5_reason_12 : decode cX5_reason 12 = .ok (.iload_n 2, 1) := by decide +kernel
theorem dX5_reason_13 : decode cX5_reason 13 = .ok (.invokevirtual 76, 3) := by decide +kernel
theorem dX5_reason_16 : decode cX5_reason 16 = .ok (.ifCond .le 5, 3) := by decide +kernel
theorem dX5_reason_19 : decode cX5_reason 19 = .ok (.iconst 0, 1) := by decide +kernel
theorem dX5_reason_20 : decode cX5_reason 20 = .ok (.ireturn, 1) := by decide +kernel
theorem dX5_reason_21 : decode cX5_reason 21 = .ok (.iconst 2, 1) := by decide +kernel
theorem dX5_reason_22 : decode cX5_reason 22 = .ok (.iload_n 3, 1) := by decide +kernel
theorem dX5_reason_23 : decode cX5_reason 23 = .ok (.imul, 1) := by decide +kernel
theorem dX5_reason_24 : decode cX5_reason 24 = .ok (.iconst 1, 1) := by decide +kernel
theorem dX5_reason_25 : decode cX5_reason 25 = .ok (.iadd, 1) := by decide +kernel
theorem dX5_reason_26 : decode cX5_reason 26 = .ok (.istore 4, 2) := by decide +kernel
theorem dX5_reason_28 : decode cX5_reason 28 = .ok (.aload_n 0, 1) := by decide +kernel
theorem dX5_reason_29 : decode cX5_reason 29 = .ok (.iload_n 2, 1) := by decide +kernel
theorem dX5_reason_30 : decode cX5_reason 30 = .ok (.invokevirtual 86, 3) := by decide +kernel
theorem dX5_reason_33 : decode cX5_reason 33 = .ok (.ifCond .eq 19, 3) := by decide +kernel
theorem dX5_reason_36 : decode cX5_reason 36 = .ok (.aload_n 0, 1) := by decide +kernel
theorem dX5_reason_37 : decode cX5_reason 37 = .ok (.iload_n 2, 1) := by decide +kernel
theorem dX5_reason_38 : decode cX5_reason 38 = .ok (.invokevirtual 89, 3) := by decide +kernel
theorem dX5_reason_41 : decode cX5_reason 41 = .ok (.ifCond .le 7, 3) := by decide +kernel
theorem dX5_reason_44 : decode cX5_reason 44 = .ok (.iconst 3, 1) := by decide +kernel
theorem dX5_reason_45 : decode cX5_reason 45 = .ok (.goto 22, 3) := by decide +kernel
theorem dX5_reason_48 : decode cX5_reason 48 = .ok (.iconst 0, 1) := by decide +kernel
theorem dX5_reason_49 : decode cX5_reason 49 = .ok (.goto 18, 3) := by decide +kernel
theorem dX5_reason_52 : decode cX5_reason 52 = .ok (.aload_n 0, 1) := by decide +kernel
theorem dX5_reason_53 : decode cX5_reason 53 = .ok (.iload_n 2, 1) := by decide +kernel
theorem dX5_reason_54 : decode cX5_reason 54 = .ok (.invokevirtual 89, 3) := by decide +kernel
theorem dX5_reason_57 : decode cX5_reason 57 = .ok (.iload 4, 2) := by decide +kernel
theorem dX5_reason_59 : decode cX5_reason 59 = .ok (.if_icmp .le 7, 3) := by decide +kernel
theorem dX5_reason_62 : decode cX5_reason 62 = .ok (.iconst 2, 1) := by decide +kernel
theorem dX5_reason_63 : decode cX5_reason 63 = .ok (.goto 4, 3) := by decide +kernel
theorem dX5_reason_66 : decode cX5_reason 66 = .ok (.iconst 0, 1) := by decide +kernel
theorem dX5_reason_67 : decode cX5_reason 67 = .ok (.ireturn, 1) := by decide +kernel
set_option maxRecDepth 20000 in
theorem ggX5_reasonNow_X5_ofWalker : GoodIn wsX5_reasonNow wsX5_ofWalker := goodIn_r _ [5, 6, 31, 32, 33, 34, 35, 36, 37, 38, 39, 40] (by decide +kernel) (by decide +kernel)
set_option maxRecDepth 20000 in
theorem gX5_reasonNow_X5_ofWalker : GoodIn wsX5_reasonNow (wsV RX5 70 RX5 yX5_ofWalker wsX5_ofWalker) := goodIn_app (goodIn_of _ (by decide +kernel)) ggX5_reasonNow_X5_ofWalker
set_option maxRecDepth 20000 in
theorem ggX5_reasonNow_X5_reason : GoodIn wsX5_reasonNow wsX5_reason := goodIn_r _ [10, 11, 12, 13, 4, 14, 15, 16, 17, 18, 6, 19, 20, 21, 22, 23, 24, 25, 26, 27, 28, 29, 30, 31, 32, 33, 34, 35, 36, 37, 38, 39, 40] (by decide +kernel) (by decide +kernel)
set_option maxRecDepth 20000 in
theorem gX5_reasonNow_X5_reason : GoodIn wsX5_reasonNow (wsV RX5 92 RX5 yX5_reason wsX5_reason) := goodIn_app (goodIn_of _ (by decide +kernel)) ggX5_reasonNow_X5_reason
theorem dX5_reasonNow_0 : decode cX5_reasonNow 0 = .ok (.aload_n 0, 1) := by decide +kernel
theorem dX5_reasonNow_1 : decode cX5_reasonNow 1 = .ok (.iload_n 1, 1) := by decide +kernel
theorem dX5_reasonNow_2 : decode cX5_reasonNow 2 = .ok (.iload_n 2, 1) := by decide +kernel
theorem dX5_reasonNow_3 : decode cX5_reasonNow 3 = .ok (.aload_n 0, 1) := by decide +kernel
theorem dX5_reasonNow_4 : decode cX5_reasonNow 4 = .ok (.iload_n 1, 1) := by decide +kernel
theorem dX5_reasonNow_5 : decode cX5_reasonNow 5 = .ok (.iconst 0, 1) := by decide +kernel
theorem dX5_reasonNow_6 : decode cX5_reasonNow 6 = .ok (.invokevirtual 70, 3) := by decide +kernel
theorem dX5_reasonNow_9 : decode cX5_reasonNow 9 = .ok (.invokevirtual 92, 3) := by decide +kernel
theorem dX5_reasonNow_12 : decode cX5_reasonNow 12 = .ok (.ireturn, 1) := by decide +kernel
set_option maxRecDepth 20000 in
theorem ggX5_duty_X5_isFrozen : GoodIn wsX5_duty wsX5_isFrozen := goodIn_r _ [6, 7, 8, 9, 5, 10, 1, 15, 16, 17, 18, 19, 20, 21, 22, 23, 24] (by decide +kernel) (by decide +kernel)
set_option maxRecDepth 20000 in
theorem gX5_duty_X5_isFrozen : GoodIn wsX5_duty (wsV RX5 86 RX5 yX5_isFrozen wsX5_isFrozen) := goodIn_app (goodIn_of _ (by decide +kernel)) ggX5_duty_X5_isFrozen
set_option maxRecDepth 20000 in
theorem ggX5_duty_X5_depth : GoodIn wsX5_duty wsX5_depth := goodIn_r _ [14, 7, 8, 9, 5, 10, 1, 15, 16, 17, 18, 19, 20, 21, 22, 23, 24] (by decide +kernel) (by decide +kernel)
set_option maxRecDepth 20000 in
theorem gX5_duty_X5_depth : GoodIn wsX5_duty (wsV RX5 89 RX5 yX5_depth wsX5_depth) := goodIn_app (goodIn_of _ (by decide +kernel)) ggX5_duty_X5_depth
theorem dX5_duty_0 : decode cX5_duty 0 = .ok (.aload_n 0, 1) := by decide +kernel
theorem dX5_duty_1 : decode cX5_duty 1 = .ok (.iload_n 1, 1) := by decide +kernel
theorem dX5_duty_2 : decode cX5_duty 2 = .ok (.invokevirtual 86, 3) := by decide +kernel
theorem dX5_duty_5 : decode cX5_duty 5 = .ok (.ifCond .eq 7, 3) := by decide +kernel
theorem dX5_duty_8 : decode cX5_duty 8 = .ok (.iconst 0, 1) := by decide +kernel
theorem dX5_duty_9 : decode cX5_duty 9 = .ok (.goto 15, 3) := by decide +kernel
theorem dX5_duty_12 : decode cX5_duty 12 = .ok (.aload_n 0, 1) := by decide +kernel
theorem dX5_duty_13 : decode cX5_duty 13 = .ok (.getfield 7, 3) := by decide +kernel
theorem dX5_duty_16 : decode cX5_duty 16 = .ok (.iconst 0, 1) := by decide +kernel
theorem dX5_duty_17 : decode cX5_duty 17 = .ok (.iaload, 1) := by decide +kernel
theorem dX5_duty_18 : decode cX5_duty 18 = .ok (.aload_n 0, 1) := by decide +kernel
theorem dX5_duty_19 : decode cX5_duty 19 = .ok (.iload_n 1, 1) := by decide +kernel
theorem dX5_duty_20 : decode cX5_duty 20 = .ok (.invokevirtual 89, 3) := by decide +kernel
theorem dX5_duty_23 : decode cX5_duty 23 = .ok (.imul, 1) := by decide +kernel
theorem dX5_duty_24 : decode cX5_duty 24 = .ok (.ireturn, 1) := by decide +kernel
set_option maxRecDepth 20000 in
theorem ggX5_allowed_X5_reasonNow : GoodIn wsX5_allowed wsX5_reasonNow := goodIn_r _ [5, 6, 7, 8, 4, 9, 10, 11, 12, 13, 14, 15, 16, 17, 18, 19, 20, 21, 22, 23, 24, 25, 26, 27, 28, 29, 30, 31, 32, 33, 34, 35, 36, 37, 38, 39, 40, 41, 42, 43, 44] (by decide +kernel) (by decide +kernel)
set_option maxRecDepth 20000 in
theorem gX5_allowed_X5_reasonNow : GoodIn wsX5_allowed (wsV RX5 96 RX5 yX5_reasonNow wsX5_reasonNow) := goodIn_app (goodIn_of _ (by decide +kernel)) ggX5_allowed_X5_reasonNow
theorem dX5_allowed_0 : decode cX5_allowed 0 = .ok (.iload_n 2, 1) := by decide +kernel
theorem dX5_allowed_1 : decode cX5_allowed 1 = .ok (.iload_n 3, 1) := by decide +kernel
theorem dX5_allowed_2 : decode cX5_allowed 2 = .ok (.if_icmp .gt 7, 3) := by decide +kernel
theorem dX5_allowed_5 : decode cX5_allowed 5 = .ok (.iconst 1, 1) := by decide +kernel
theorem dX5_allowed_6 : decode cX5_allowed 6 = .ok (.goto 4, 3) := by decide +kernel
theorem dX5_allowed_9 : decode cX5_allowed 9 = .ok (.iconst (-1), 1) := by decide +kernel
theorem dX5_allowed_10 : decode cX5_allowed 10 = .ok (.istore 4, 2) := by decide +kernel
theorem dX5_allowed_12 : decode cX5_allowed 12 = .ok (.iload_n 3, 1) := by decide +kernel
theorem dX5_allowed_13 : decode cX5_allowed 13 = .ok (.iload_n 2, 1) := by decide +kernel
theorem dX5_allowed_14 : decode cX5_allowed 14 = .ok (.isub, 1) := by decide +kernel
theorem dX5_allowed_15 : decode cX5_allowed 15 = .ok (.iload 4, 2) := by decide +kernel
theorem dX5_allowed_17 : decode cX5_allowed 17 = .ok (.imul, 1) := by decide +kernel
theorem dX5_allowed_18 : decode cX5_allowed 18 = .ok (.iconst 1, 1) := by decide +kernel
theorem dX5_allowed_19 : decode cX5_allowed 19 = .ok (.iadd, 1) := by decide +kernel
theorem dX5_allowed_20 : decode cX5_allowed 20 = .ok (.istore 5, 2) := by decide +kernel
theorem dX5_allowed_22 : decode cX5_allowed 22 = .ok (.iconst 0, 1) := by decide +kernel
theorem dX5_allowed_23 : decode cX5_allowed 23 = .ok (.istore 6, 2) := by decide +kernel
theorem dX5_allowed_25 : decode cX5_allowed 25 = .ok (.iload 6, 2) := by decide +kernel
theorem dX5_allowed_27 : decode cX5_allowed 27 = .ok (.iload 5, 2) := by decide +kernel
theorem dX5_allowed_29 : decode cX5_allowed 29 = .ok (.if_icmp .ge 24, 3) := by decide +kernel
theorem dX5_allowed_32 : decode cX5_allowed 32 = .ok (.aload_n 0, 1) := by decide +kernel
theorem dX5_allowed_33 : decode cX5_allowed 33 = .ok (.iload_n 1, 1) := by decide +kernel
theorem dX5_allowed_34 : decode cX5_allowed 34 = .ok (.iload_n 2, 1) := by decide +kernel
theorem dX5_allowed_35 : decode cX5_allowed 35 = .ok (.iload 6, 2) := by decide +kernel
theorem dX5_allowed_37 : decode cX5_allowed 37 = .ok (.iload 4, 2) := by decide +kernel
theorem dX5_allowed_39 : decode cX5_allowed 39 = .ok (.imul, 1) := by decide +kernel
theorem dX5_allowed_40 : decode cX5_allowed 40 = .ok (.iadd, 1) := by decide +kernel
theorem dX5_allowed_41 : decode cX5_allowed 41 = .ok (.invokevirtual 96, 3) := by decide +kernel
theorem dX5_allowed_44 : decode cX5_allowed 44 = .ok (.ifCond .ne 9, 3) := by decide +kernel
theorem dX5_allowed_47 : decode cX5_allowed 47 = .ok (.iinc 6 1, 3) := by decide +kernel
theorem dX5_allowed_50 : decode cX5_allowed 50 = .ok (.goto (-25), 3) := by decide +kernel
theorem dX5_allowed_53 : decode cX5_allowed 53 = .ok (.iload 6, 2) := by decide +kernel
theorem dX5_allowed_55 : decode cX5_allowed 55 = .ok (.ireturn, 1) := by decide +kernel
set_option maxRecDepth 20000 in
theorem ggX5_duties_X5_duty : GoodIn wsX5_duties wsX5_duty := goodIn_r _ [5, 6, 7, 8, 9, 4, 10, 11, 12, 13, 14, 15, 16, 17, 18, 19, 20, 21, 22, 23, 24, 25, 26, 27, 28] (by decide +kernel) (by decide +kernel)
set_option maxRecDepth 20000 in
theorem gX5_duties_X5_duty : GoodIn wsX5_duties (wsV RX5 99 RX5 yX5_duty wsX5_duty) := goodIn_app (goodIn_of _ (by decide +kernel)) ggX5_duties_X5_duty
theorem dX5_duties_0 : decode cX5_duties 0 = .ok (.iload_n 1, 1) := by decide +kernel
theorem dX5_duties_1 : decode cX5_duties 1 = .ok (.iload_n 2, 1) := by decide +kernel
theorem dX5_duties_2 : decode cX5_duties 2 = .ok (.if_icmp .gt 7, 3) := by decide +kernel
theorem dX5_duties_5 : decode cX5_duties 5 = .ok (.iconst 1, 1) := by decide +kernel
theorem dX5_duties_6 : decode cX5_duties 6 = .ok (.goto 4, 3) := by decide +kernel
theorem dX5_duties_9 : decode cX5_duties 9 = .ok (.iconst (-1), 1) := by decide +kernel
theorem dX5_duties_10 : decode cX5_duties 10 = .ok (.istore 4, 2) := by decide +kernel
theorem dX5_duties_12 : decode cX5_duties 12 = .ok (.iconst 0, 1) := by decide +kernel
theorem dX5_duties_13 : decode cX5_duties 13 = .ok (.istore 5, 2) := by decide +kernel
theorem dX5_duties_15 : decode cX5_duties 15 = .ok (.iconst 0, 1) := by decide +kernel
theorem dX5_duties_16 : decode cX5_duties 16 = .ok (.istore 6, 2) := by decide +kernel
theorem dX5_duties_18 : decode cX5_duties 18 = .ok (.iload 6, 2) := by decide +kernel
theorem dX5_duties_20 : decode cX5_duties 20 = .ok (.iload_n 3, 1) := by decide +kernel
theorem dX5_duties_21 : decode cX5_duties 21 = .ok (.if_icmp .ge 25, 3) := by decide +kernel
theorem dX5_duties_24 : decode cX5_duties 24 = .ok (.iload 5, 2) := by decide +kernel
theorem dX5_duties_26 : decode cX5_duties 26 = .ok (.aload_n 0, 1) := by decide +kernel
theorem dX5_duties_27 : decode cX5_duties 27 = .ok (.iload_n 1, 1) := by decide +kernel
theorem dX5_duties_28 : decode cX5_duties 28 = .ok (.iload 6, 2) := by decide +kernel
theorem dX5_duties_30 : decode cX5_duties 30 = .ok (.iload 4, 2) := by decide +kernel
theorem dX5_duties_32 : decode cX5_duties 32 = .ok (.imul, 1) := by decide +kernel
theorem dX5_duties_33 : decode cX5_duties 33 = .ok (.iadd, 1) := by decide +kernel
theorem dX5_duties_34 : decode cX5_duties 34 = .ok (.invokevirtual 99, 3) := by decide +kernel
theorem dX5_duties_37 : decode cX5_duties 37 = .ok (.iadd, 1) := by decide +kernel
theorem dX5_duties_38 : decode cX5_duties 38 = .ok (.istore 5, 2) := by decide +kernel
theorem dX5_duties_40 : decode cX5_duties 40 = .ok (.iinc 6 1, 3) := by decide +kernel
theorem dX5_duties_43 : decode cX5_duties 43 = .ok (.goto (-25), 3) := by decide +kernel
theorem dX5_duties_46 : decode cX5_duties 46 = .ok (.iload 5, 2) := by decide +kernel
theorem dX5_duties_48 : decode cX5_duties 48 = .ok (.ireturn, 1) := by decide +kernel
set_option maxRecDepth 20000 in
theorem ggX5_walk_X5_isWalker : GoodIn wsX5_walk wsX5_isWalker := goodIn_r _ [4, 5, 6, 3, 7] (by decide +kernel) (by decide +kernel)
set_option maxRecDepth 20000 in
theorem gX5_walk_X5_isWalker : GoodIn wsX5_walk (va_wsS RX5 67 yX5_isWalker wsX5_isWalker) := goodIn_app (goodIn_of _ (by decide +kernel)) ggX5_walk_X5_isWalker
set_option maxRecDepth 20000 in
theorem ggX5_walk_X5_isPuddle : GoodIn wsX5_walk wsX5_isPuddle := goodIn_r _ [10, 5, 6, 3, 7] (by decide +kernel) (by decide +kernel)
set_option maxRecDepth 20000 in
theorem gX5_walk_X5_isPuddle : GoodIn wsX5_walk (va_wsS RX5 56 yX5_isPuddle wsX5_isPuddle) := goodIn_app (goodIn_of _ (by decide +kernel)) ggX5_walk_X5_isPuddle
set_option maxRecDepth 20000 in
theorem ggX5_walk_X5_record : GoodIn wsX5_walk wsX5_record := goodIn_r _ [14, 15, 16, 17, 18, 19, 3, 20, 73, 74, 75, 76, 77, 78, 79, 80, 81, 82] (by decide +kernel) (by decide +kernel)
set_option maxRecDepth 20000 in
theorem gX5_walk_X5_record : GoodIn wsX5_walk (wsV RX5 49 RX5 yX5_record wsX5_record) := goodIn_app (goodIn_of _ (by decide +kernel)) ggX5_walk_X5_record
set_option maxRecDepth 20000 in
theorem ggX5_walk_X5_allowed : GoodIn wsX5_walk wsX5_allowed := goodIn_r _ [24, 25, 26, 27, 3, 28, 29, 30, 31, 32, 17, 33, 34, 35, 36, 37, 38, 39, 40, 41, 42, 43, 44, 45, 46, 47, 48, 49, 50, 51, 52, 53, 54, 55, 56, 73, 74, 75, 76, 77, 78, 79, 80, 81, 82] (by decide +kernel) (by decide +kernel)
set_option maxRecDepth 20000 in
theorem gX5_walk_X5_allowed : GoodIn wsX5_walk (wsV RX5 102 RX5 yX5_allowed wsX5_allowed) := goodIn_app (goodIn_of _ (by decide +kernel)) ggX5_walk_X5_allowed
set_option maxRecDepth 20000 in
theorem ggX5_walk_X5_ofWalker : GoodIn wsX5_walk wsX5_ofWalker := goodIn_r _ [32, 17, 73, 74, 75, 76, 77, 78, 79, 80, 81, 82] (by decide +kernel) (by decide +kernel)
set_option maxRecDepth 20000 in
theorem gX5_walk_X5_ofWalker : GoodIn wsX5_walk (wsV RX5 70 RX5 yX5_ofWalker wsX5_ofWalker) := goodIn_app (goodIn_of _ (by decide +kernel)) ggX5_walk_X5_ofWalker
set_option maxRecDepth 20000 in
theorem ggX5_walk_X5_duties : GoodIn wsX5_walk wsX5_duties := goodIn_r _ [60, 61, 62, 63, 3, 64, 17, 49, 50, 51, 52, 41, 42, 43, 44, 53, 54, 55, 56, 73, 74, 75, 76, 77, 78, 79, 80, 81, 82] (by decide +kernel) (by decide +kernel)
set_option maxRecDepth 20000 in
theorem gX5_walk_X5_duties : GoodIn wsX5_walk (wsV RX5 105 RX5 yX5_duties wsX5_duties) := goodIn_app (goodIn_of _ (by decide +kernel)) ggX5_walk_X5_duties
set_option maxRecDepth 20000 in
theorem ggX5_walk_X5_layWalker : GoodIn wsX5_walk wsX5_layWalker := goodIn_r _ [68, 17, 73, 74, 75, 76, 77, 78, 79, 80, 81, 82] (by decide +kernel) (by decide +kernel)
set_option maxRecDepth 20000 in
theorem gX5_walk_X5_layWalker : GoodIn wsX5_walk (wsV RX5 73 RX5 yX5_layWalker wsX5_layWalker) := goodIn_app (goodIn_of _ (by decide +kernel)) ggX5_walk_X5_layWalker
set_option maxRecDepth 20000 in
theorem ggX5_walk_X5_of : GoodIn wsX5_walk wsX5_of := goodIn_r _ [44, 17, 73, 74, 75, 76, 77, 78, 79, 80, 81, 82] (by decide +kernel) (by decide +kernel)
set_option maxRecDepth 20000 in
theorem gX5_walk_X5_of : GoodIn wsX5_walk (wsV RX5 37 RX5 yX5_of wsX5_of) := goodIn_app (goodIn_of _ (by decide +kernel)) ggX5_walk_X5_of
set_option maxRecDepth 20000 in
theorem ggX5_walk_X5_lay : GoodIn wsX5_walk wsX5_lay := goodIn_r _ [72, 17, 73, 74, 75, 76, 77, 78, 79, 80, 81, 82] (by decide +kernel) (by decide +kernel)
set_option maxRecDepth 20000 in
theorem gX5_walk_X5_lay : GoodIn wsX5_walk (wsV RX5 29 RX5 yX5_lay wsX5_lay) := goodIn_app (goodIn_of _ (by decide +kernel)) ggX5_walk_X5_lay
theorem dX5_walk_0 : decode cX5_walk 0 = .ok (.iload_n 1, 1) := by decide +kernel
theorem dX5_walk_1 : decode cX5_walk 1 = .ok (.invokestatic 67, 3) := by decide +kernel
theorem dX5_walk_4 : decode cX5_walk 4 = .ok (.ifCond .eq 17, 3) := by decide +kernel
theorem dX5_walk_7 : decode cX5_walk 7 = .ok (.iload_n 2, 1) := by decide +kernel
theorem dX5_walk_8 : decode cX5_walk 8 = .ok (.invokestatic 56, 3) := by decide +kernel
theorem dX5_walk_11 : decode cX5_walk 11 = .ok (.ifCond .eq 10, 3) := by decide +kernel
theorem dX5_walk_14 : decode cX5_walk 14 = .ok (.iload_n 3, 1) := by decide +kernel
theorem dX5_walk_15 : decode cX5_walk 15 = .ok (.invokestatic 56, 3) := by decide +kernel
theorem dX5_walk_18 : decode cX5_walk 18 = .ok (.ifCond .ne 5, 3) := by decide +kernel
theorem dX5_walk_21 : decode cX5_walk 21 = .ok (.iconst (-1), 1) := by decide +kernel
theorem dX5_walk_22 : decode cX5_walk 22 = .ok (.ireturn, 1) := by decide +kernel
theorem dX5_walk_23 : decode cX5_walk 23 = .ok (.aload_n 0, 1) := by decide +kernel
theorem dX5_walk_24 : decode cX5_walk 24 = .ok (.invokevirtual 49, 3) := by decide +kernel
theorem dX5_walk_27 : decode cX5_walk 27 = .ok (.aload_n 0, 1) := by decide +kernel
theorem dX5_walk_28 : decode cX5_walk 28 = .ok (.iload_n 1, 1) := by decide +kernel
theorem dX5_walk_29 : decode cX5_walk 29 = .ok (.iload_n 2, 1) := by decide +kernel
theorem dX5_walk_30 : decode cX5_walk 30 = .ok (.iload_n 3, 1) := by decide +kernel
theorem dX5_walk_31 : decode cX5_walk 31 = .ok (.invokevirtual 102, 3) := by decide +kernel
theorem dX5_walk_34 : decode cX5_walk 34 = .ok (.istore 4, 2) := by decide +kernel
theorem dX5_walk_36 : decode cX5_walk 36 = .ok (.aload_n 0, 1) := by decide +kernel
theorem dX5_walk_37 : decode cX5_walk 37 = .ok (.iload_n 1, 1) := by decide +kernel
theorem dX5_walk_38 : decode cX5_walk 38 = .ok (.iconst 1, 1) := by decide +kernel
theorem dX5_walk_39 : decode cX5_walk 39 = .ok (.aload_n 0, 1) := by decide +kernel
theorem dX5_walk_40 : decode cX5_walk 40 = .ok (.iload_n 1, 1) := by decide +kernel
theorem dX5_walk_41 : decode cX5_walk 41 = .ok (.iconst 1, 1) := by decide +kernel
theorem dX5_walk_42 : decode cX5_walk 42 = .ok (.invokevirtual 70, 3) := by decide +kernel
theorem dX5_walk_45 : decode cX5_walk 45 = .ok (.aload_n 0, 1) := by decide +kernel
theorem dX5_walk_46 : decode cX5_walk 46 = .ok (.iload_n 2, 1) := by decide +kernel
theorem dX5_walk_47 : decode cX5_walk 47 = .ok (.iload_n 3, 1) := by decide +kernel
theorem dX5_walk_48 : decode cX5_walk 48 = .ok (.iload 4, 2) := by decide +kernel
theorem dX5_walk_50 : decode cX5_walk 50 = .ok (.invokevirtual 105, 3) := by decide +kernel
theorem dX5_walk_53 : decode cX5_walk 53 = .ok (.iadd, 1) := by decide +kernel
theorem dX5_walk_54 : decode cX5_walk 54 = .ok (.invokevirtual 73, 3) := by decide +kernel
theorem dX5_walk_57 : decode cX5_walk 57 = .ok (.aload_n 0, 1) := by decide +kernel
theorem dX5_walk_58 : decode cX5_walk 58 = .ok (.iload_n 1, 1) := by decide +kernel
theorem dX5_walk_59 : decode cX5_walk 59 = .ok (.iconst 3, 1) := by decide +kernel
theorem dX5_walk_60 : decode cX5_walk 60 = .ok (.aload_n 0, 1) := by decide +kernel
theorem dX5_walk_61 : decode cX5_walk 61 = .ok (.iload_n 1, 1) := by decide +kernel
theorem dX5_walk_62 : decode cX5_walk 62 = .ok (.iconst 3, 1) := by decide +kernel
theorem dX5_walk_63 : decode cX5_walk 63 = .ok (.invokevirtual 70, 3) := by decide +kernel
theorem dX5_walk_66 : decode cX5_walk 66 = .ok (.iload 4, 2) := by decide +kernel
theorem dX5_walk_68 : decode cX5_walk 68 = .ok (.iadd, 1) := by decide +kernel
theorem dX5_walk_69 : decode cX5_walk 69 = .ok (.invokevirtual 73, 3) := by decide +kernel
theorem dX5_walk_72 : decode cX5_walk 72 = .ok (.iconst 0, 1) := by decide +kernel
theorem dX5_walk_73 : decode cX5_walk 73 = .ok (.istore 5, 2) := by decide +kernel
theorem dX5_walk_75 : decode cX5_walk 75 = .ok (.iload 5, 2) := by decide +kernel
theorem dX5_walk_77 : decode cX5_walk 77 = .ok (.iload 4, 2) := by decide +kernel
theorem dX5_walk_79 : decode cX5_walk 79 = .ok (.if_icmp .ge 43, 3) := by decide +kernel
theorem dX5_walk_82 : decode cX5_walk 82 = .ok (.iload_n 2, 1) := by decide +kernel
theorem dX5_walk_83 : decode cX5_walk 83 = .ok (.iload_n 3, 1) := by decide +kernel
theorem dX5_walk_84 : decode cX5_walk 84 = .ok (.if_icmp .gt 10, 3) := by decide +kernel
theorem dX5_walk_87 : decode cX5_walk 87 = .ok (.iload_n 2, 1) := by decide +kernel
theorem dX5_walk_88 : decode cX5_walk 88 = .ok (.iload 5, 2) := by decide +kernel
theorem dX5_walk_90 : decode cX5_walk 90 = .ok (.iadd, 1) := by decide +kernel
theorem dX5_walk_91 : decode cX5_walk 91 = .ok (.goto 7, 3) := by decide +kernel
theorem dX5_walk_94 : decode cX5_walk 94 = .ok (.iload_n 2, 1) := by decide +kernel
theorem dX5_walk_95 : decode cX5_walk 95 = .ok (.iload 5, 2) := by decide +kernel
theorem dX5_walk_97 : decode cX5_walk 97 = .ok (.isub, 1) := by decide +kernel
theorem dX5_walk_98 : decode cX5_walk 98 = .ok (.istore 6, 2) := by decide +kernel
theorem dX5_walk_100 : decode cX5_walk 100 = .ok (.aload_n 0, 1) := by decide +kernel
theorem dX5_walk_101 : decode cX5_walk 101 = .ok (.iload 6, 2) := by decide +kernel
theorem dX5_walk_103 : decode cX5_walk 103 = .ok (.iconst 4, 1) := by decide +kernel
theorem dX5_walk_104 : decode cX5_walk 104 = .ok (.aload_n 0, 1) := by decide +kernel
theorem dX5_walk_105 : decode cX5_walk 105 = .ok (.iload 6, 2) := by decide +kernel
theorem dX5_walk_107 : decode cX5_walk 107 = .ok (.iconst 4, 1) := by decide +kernel
theorem dX5_walk_108 : decode cX5_walk 108 = .ok (.invokevirtual 37, 3) := by decide +kernel
theorem dX5_walk_111 : decode cX5_walk 111 = .ok (.iconst 1, 1) := by decide +kernel
theorem dX5_walk_112 : decode cX5_walk 112 = .ok (.iadd, 1) := by decide +kernel
theorem dX5_walk_113 : decode cX5_walk 113 = .ok (.invokevirtual 29, 3) := by decide +kernel
theorem dX5_walk_116 : decode cX5_walk 116 = .ok (.iinc 5 1, 3) := by decide +kernel
theorem dX5_walk_119 : decode cX5_walk 119 = .ok (.goto (-44), 3) := by decide +kernel
theorem dX5_walk_122 : decode cX5_walk 122 = .ok (.iload 4, 2) := by decide +kernel
theorem dX5_walk_124 : decode cX5_walk 124 = .ok (.ireturn, 1) := by decide +kernel
set_option maxRecDepth 20000 in
theorem ggX5_pay_X5_isWalker : GoodIn wsX5_pay wsX5_isWalker := goodIn_r _ [4, 5, 6, 3, 7] (by decide +kernel) (by decide +kernel)
set_option maxRecDepth 20000 in
theorem gX5_pay_X5_isWalker : GoodIn wsX5_pay (va_wsS RX5 67 yX5_isWalker wsX5_isWalker) := goodIn_app (goodIn_of _ (by decide +kernel)) ggX5_pay_X5_isWalker
set_option maxRecDepth 20000 in
theorem ggX5_pay_X5_record : GoodIn wsX5_pay wsX5_record := goodIn_r _ [11, 12, 13, 14, 15, 16, 3, 17, 26, 27, 28, 29, 30, 31, 32, 33, 34, 35] (by decide +kernel) (by decide +kernel)
set_option maxRecDepth 20000 in
theorem gX5_pay_X5_record : GoodIn wsX5_pay (wsV RX5 49 RX5 yX5_record wsX5_record) := goodIn_app (goodIn_of _ (by decide +kernel)) ggX5_pay_X5_record
set_option maxRecDepth 20000 in
theorem ggX5_pay_X5_ofWalker : GoodIn wsX5_pay wsX5_ofWalker := goodIn_r _ [21, 14, 26, 27, 28, 29, 30, 31, 32, 33, 34, 35] (by decide +kernel) (by decide +kernel)
set_option maxRecDepth 20000 in
theorem gX5_pay_X5_ofWalker : GoodIn wsX5_pay (wsV RX5 70 RX5 yX5_ofWalker wsX5_ofWalker) := goodIn_app (goodIn_of _ (by decide +kernel)) ggX5_pay_X5_ofWalker
set_option maxRecDepth 20000 in
theorem ggX5_pay_X5_layWalker : GoodIn wsX5_pay wsX5_layWalker := goodIn_r _ [25, 14, 26, 27, 28, 29, 30, 31, 32, 33, 34, 35] (by decide +kernel) (by decide +kernel)
set_option maxRecDepth 20000 in
theorem gX5_pay_X5_layWalker : GoodIn wsX5_pay (wsV RX5 73 RX5 yX5_layWalker wsX5_layWalker) := goodIn_app (goodIn_of _ (by decide +kernel)) ggX5_pay_X5_layWalker
theorem dX5_pay_0 : decode cX5_pay 0 = .ok (.iload_n 1, 1) := by decide +kernel
theorem dX5_pay_1 : decode cX5_pay 1 = .ok (.invokestatic 67, 3) := by decide +kernel
theorem dX5_pay_4 : decode cX5_pay 4 = .ok (.ifCond .ne 5, 3) := by decide +kernel
theorem dX5_pay_7 : decode cX5_pay 7 = .ok (.iconst (-1), 1) := by decide +kernel
theorem dX5_pay_8 : decode cX5_pay 8 = .ok (.ireturn, 1) := by decide +kernel
theorem dX5_pay_9 : decode cX5_pay 9 = .ok (.aload_n 0, 1) := by decide +kernel
theorem dX5_pay_10 : decode cX5_pay 10 = .ok (.invokevirtual 49, 3) := by decide +kernel
theorem dX5_pay_13 : decode cX5_pay 13 = .ok (.aload_n 0, 1) := by decide +kernel
theorem dX5_pay_14 : decode cX5_pay 14 = .ok (.iload_n 1, 1) := by decide +kernel
theorem dX5_pay_15 : decode cX5_pay 15 = .ok (.iconst 1, 1) := by decide +kernel
theorem dX5_pay_16 : decode cX5_pay 16 = .ok (.invokevirtual 70, 3) := by decide +kernel
theorem dX5_pay_19 : decode cX5_pay 19 = .ok (.istore_n 2, 1) := by decide +kernel
theorem dX5_pay_20 : decode cX5_pay 20 = .ok (.aload_n 0, 1) := by decide +kernel
theorem dX5_pay_21 : decode cX5_pay 21 = .ok (.iload_n 1, 1) := by decide +kernel
theorem dX5_pay_22 : decode cX5_pay 22 = .ok (.iconst 1, 1) := by decide +kernel
theorem dX5_pay_23 : decode cX5_pay 23 = .ok (.iconst 0, 1) := by decide +kernel
theorem dX5_pay_24 : decode cX5_pay 24 = .ok (.invokevirtual 73, 3) := by decide +kernel
theorem dX5_pay_27 : decode cX5_pay 27 = .ok (.aload_n 0, 1) := by decide +kernel
theorem dX5_pay_28 : decode cX5_pay 28 = .ok (.iload_n 1, 1) := by decide +kernel
theorem dX5_pay_29 : decode cX5_pay 29 = .ok (.iconst 2, 1) := by decide +kernel
theorem dX5_pay_30 : decode cX5_pay 30 = .ok (.aload_n 0, 1) := by decide +kernel
theorem dX5_pay_31 : decode cX5_pay 31 = .ok (.iload_n 1, 1) := by decide +kernel
theorem dX5_pay_32 : decode cX5_pay 32 = .ok (.iconst 2, 1) := by decide +kernel
theorem dX5_pay_33 : decode cX5_pay 33 = .ok (.invokevirtual 70, 3) := by decide +kernel
theorem dX5_pay_36 : decode cX5_pay 36 = .ok (.iload_n 2, 1) := by decide +kernel
theorem dX5_pay_37 : decode cX5_pay 37 = .ok (.iadd, 1) := by decide +kernel
theorem dX5_pay_38 : decode cX5_pay 38 = .ok (.invokevirtual 73, 3) := by decide +kernel
theorem dX5_pay_41 : decode cX5_pay 41 = .ok (.iload_n 2, 1) := by decide +kernel
theorem dX5_pay_42 : decode cX5_pay 42 = .ok (.ireturn, 1) := by decide +kernel
set_option maxRecDepth 20000 in
theorem ggX5_sun_X5_isFrozen : GoodIn wsX5_sun wsX5_isFrozen := goodIn_r _ [6, 7, 8, 9, 5, 10, 1, 15, 16, 17, 18, 19, 20, 21, 22, 23, 24] (by decide +kernel) (by decide +kernel)
set_option maxRecDepth 20000 in
theorem gX5_sun_X5_isFrozen : GoodIn wsX5_sun (wsV RX5 86 RX5 yX5_isFrozen wsX5_isFrozen) := goodIn_app (goodIn_of _ (by decide +kernel)) ggX5_sun_X5_isFrozen
set_option maxRecDepth 20000 in
theorem ggX5_sun_X5_lay : GoodIn wsX5_sun wsX5_lay := goodIn_r _ [14, 1, 15, 16, 17, 18, 19, 20, 21, 22, 23, 24] (by decide +kernel) (by decide +kernel)
set_option maxRecDepth 20000 in
theorem gX5_sun_X5_lay : GoodIn wsX5_sun (wsV RX5 29 RX5 yX5_lay wsX5_lay) := goodIn_app (goodIn_of _ (by decide +kernel)) ggX5_sun_X5_lay
set_option maxRecDepth 20000 in
theorem ggX5_sun_X5_of : GoodIn wsX5_sun wsX5_of := goodIn_r _ [10, 1, 15, 16, 17, 18, 19, 20, 21, 22, 23, 24] (by decide +kernel) (by decide +kernel)
set_option maxRecDepth 20000 in
theorem gX5_sun_X5_of : GoodIn wsX5_sun (wsV RX5 37 RX5 yX5_of wsX5_of) := goodIn_app (goodIn_of _ (by decide +kernel)) ggX5_sun_X5_of
theorem dX5_sun_0 : decode cX5_sun 0 = .ok (.iconst 0, 1) := by decide +kernel
theorem dX5_sun_1 : decode cX5_sun 1 = .ok (.istore_n 1, 1) := by decide +kernel
theorem dX5_sun_2 : decode cX5_sun 2 = .ok (.iload_n 1, 1) := by decide +kernel
theorem dX5_sun_3 : decode cX5_sun 3 = .ok (.bipush 12, 2) := by decide +kernel
theorem dX5_sun_5 : decode cX5_sun 5 = .ok (.if_icmp .ge 83, 3) := by decide +kernel
theorem dX5_sun_8 : decode cX5_sun 8 = .ok (.aload_n 0, 1) := by decide +kernel
theorem dX5_sun_9 : decode cX5_sun 9 = .ok (.iload_n 1, 1) := by decide +kernel
theorem dX5_sun_10 : decode cX5_sun 10 = .ok (.invokevirtual 86, 3) := by decide +kernel
theorem dX5_sun_13 : decode cX5_sun 13 = .ok (.ifCond .eq 13, 3) := by decide +kernel
theorem dX5_sun_16 : decode cX5_sun 16 = .ok (.aload_n 0, 1) := by decide +kernel
theorem dX5_sun_17 : decode cX5_sun 17 = .ok (.iload_n 1, 1) := by decide +kernel
theorem dX5_sun_18 : decode cX5_sun 18 = .ok (.iconst 2, 1) := by decide +kernel
theorem dX5_sun_19 : decode cX5_sun 19 = .ok (.iconst 0, 1) := by decide +kernel
theorem dX5_sun_20 : decode cX5_sun 20 = .ok (.invokevirtual 29, 3) := by decide +kernel
theorem dX5_sun_23 : decode cX5_sun 23 = .ok (.goto 59, 3) := by decide +kernel
theorem dX5_sun_26 : decode cX5_sun 26 = .ok (.aload_n 0, 1) := by decide +kernel
theorem dX5_sun_27 : decode cX5_sun 27 = .ok (.iload_n 1, 1) := by decide +kernel
theorem dX5_sun_28 : decode cX5_sun 28 = .ok (.iconst 1, 1) := by decide +kernel
theorem dX5_sun_29 : decode cX5_sun 29 = .ok (.invokevirtual 37, 3) := by decide +kernel
theorem dX5_sun_32 : decode cX5_sun 32 = .ok (.aload_n 0, 1) := by decide +kernel
theorem dX5_sun_33 : decode cX5_sun 33 = .ok (.getfield 7, 3) := by decide +kernel
theorem dX5_sun_36 : decode cX5_sun 36 = .ok (.iconst 1, 1) := by decide +kernel
theorem dX5_sun_37 : decode cX5_sun 37 = .ok (.iaload, 1) := by decide +kernel
theorem dX5_sun_38 : decode cX5_sun 38 = .ok (.if_icmp .ge 12, 3) := by decide +kernel
theorem dX5_sun_41 : decode cX5_sun 41 = .ok (.aload_n 0, 1) := by decide +kernel
theorem dX5_sun_42 : decode cX5_sun 42 = .ok (.iload_n 1, 1) := by decide +kernel
theorem dX5_sun_43 : decode cX5_sun 43 = .ok (.iconst 1, 1) := by decide +kernel
theorem dX5_sun_44 : decode cX5_sun 44 = .ok (.invokevirtual 37, 3) := by decide +kernel
theorem dX5_sun_47 : decode cX5_sun 47 = .ok (.goto 9, 3) := by decide +kernel
theorem dX5_sun_50 : decode cX5_sun 50 = .ok (.aload_n 0, 1) := by decide +kernel
theorem dX5_sun_51 : decode cX5_sun 51 = .ok (.getfield 7, 3) := by decide +kernel
theorem dX5_sun_54 : decode cX5_sun 54 = .ok (.iconst 1, 1) := by decide +kernel
theorem dX5_sun_55 : decode cX5_sun 55 = .ok (.iaload, 1) := by decide +kernel
theorem dX5_sun_56 : decode cX5_sun 56 = .ok (.istore_n 2, 1) := by decide +kernel
theorem dX5_sun_57 : decode cX5_sun 57 = .ok (.aload_n 0, 1) := by decide +kernel
theorem dX5_sun_58 : decode cX5_sun 58 = .ok (.iload_n 1, 1) := by decide +kernel
theorem dX5_sun_59 : decode cX5_sun 59 = .ok (.iconst 1, 1) := by decide +kernel
theorem dX5_sun_60 : decode cX5_sun 60 = .ok (.aload_n 0, 1) := by decide +kernel
theorem dX5_sun_61 : decode cX5_sun 61 = .ok (.iload_n 1, 1) := by decide +kernel
theorem dX5_sun_62 : decode cX5_sun 62 = .ok (.iconst 1, 1) := by decide +kernel
theorem dX5_sun_63 : decode cX5_sun 63 = .ok (.invokevirtual 37, 3) := by decide +kernel
theorem dX5_sun_66 : decode cX5_sun 66 = .ok (.iload_n 2, 1) := by decide +kernel
theorem dX5_sun_67 : decode cX5_sun 67 = .ok (.isub, 1) := by decide +kernel
theorem dX5_sun_68 : decode cX5_sun 68 = .ok (.invokevirtual 29, 3) := by decide +kernel
theorem dX5_sun_71 : decode cX5_sun 71 = .ok (.aload_n 0, 1) := by decide +kernel
theorem dX5_sun_72 : decode cX5_sun 72 = .ok (.getfield 7, 3) := by decide +kernel
theorem dX5_sun_75 : decode cX5_sun 75 = .ok (.bipush 6, 2) := by decide +kernel
theorem dX5_sun_77 : decode cX5_sun 77 = .ok (.dup2, 1) := by decide +kernel
theorem dX5_sun_78 : decode cX5_sun 78 = .ok (.iaload, 1) := by decide +kernel
theorem dX5_sun_79 : decode cX5_sun 79 = .ok (.iload_n 2, 1) := by decide +kernel
theorem dX5_sun_80 : decode cX5_sun 80 = .ok (.iadd, 1) := by decide +kernel
theorem dX5_sun_81 : decode cX5_sun 81 = .ok (.iastore, 1) := by decide +kernel
theorem dX5_sun_82 : decode cX5_sun 82 = .ok (.iinc 1 1, 3) := by decide +kernel
theorem dX5_sun_85 : decode cX5_sun 85 = .ok (.goto (-83), 3) := by decide +kernel
theorem dX5_sun_88 : decode cX5_sun 88 = .ok (.return_, 1) := by decide +kernel
set_option maxRecDepth 20000 in
theorem ggX5_rain_X5_isFrozen : GoodIn wsX5_rain wsX5_isFrozen := goodIn_r _ [6, 7, 8, 9, 5, 10, 1, 15, 16, 17, 18, 19, 20, 21, 22, 23, 24] (by decide +kernel) (by decide +kernel)
set_option maxRecDepth 20000 in
theorem gX5_rain_X5_isFrozen : GoodIn wsX5_rain (wsV RX5 86 RX5 yX5_isFrozen wsX5_isFrozen) := goodIn_app (goodIn_of _ (by decide +kernel)) ggX5_rain_X5_isFrozen
set_option maxRecDepth 20000 in
theorem ggX5_rain_X5_of : GoodIn wsX5_rain wsX5_of := goodIn_r _ [10, 1, 15, 16, 17, 18, 19, 20, 21, 22, 23, 24] (by decide +kernel) (by decide +kernel)
set_option maxRecDepth 20000 in
theorem gX5_rain_X5_of : GoodIn wsX5_rain (wsV RX5 37 RX5 yX5_of wsX5_of) := goodIn_app (goodIn_of _ (by decide +kernel)) ggX5_rain_X5_of
set_option maxRecDepth 20000 in
theorem ggX5_rain_X5_lay : GoodIn wsX5_rain wsX5_lay := goodIn_r _ [14, 1, 15, 16, 17, 18, 19, 20, 21, 22, 23, 24] (by decide +kernel) (by decide +kernel)
set_option maxRecDepth 20000 in
theorem gX5_rain_X5_lay : GoodIn wsX5_rain (wsV RX5 29 RX5 yX5_lay wsX5_lay) := goodIn_app (goodIn_of _ (by decide +kernel)) ggX5_rain_X5_lay
theorem dX5_rain_0 : decode cX5_rain 0 = .ok (.iconst 0, 1) := by decide +kernel
theorem dX5_rain_1 : decode cX5_rain 1 = .ok (.istore_n 2, 1) := by decide +kernel
theorem dX5_rain_2 : decode cX5_rain 2 = .ok (.iconst 0, 1) := by decide +kernel
theorem dX5_rain_3 : decode cX5_rain 3 = .ok (.istore_n 3, 1) := by decide +kernel
theorem dX5_rain_4 : decode cX5_rain 4 = .ok (.iload_n 3, 1) := by decide +kernel
theorem dX5_rain_5 : decode cX5_rain 5 = .ok (.bipush 12, 2) := by decide +kernel
theorem dX5_rain_7 : decode cX5_rain 7 = .ok (.if_icmp .ge 90, 3) := by decide +kernel
theorem dX5_rain_10 : decode cX5_rain 10 = .ok (.aload_n 0, 1) := by decide +kernel
theorem dX5_rain_11 : decode cX5_rain 11 = .ok (.iload_n 3, 1) := by decide +kernel
theorem dX5_rain_12 : decode cX5_rain 12 = .ok (.invokevirtual 86, 3) := by decide +kernel
theorem dX5_rain_15 : decode cX5_rain 15 = .ok (.ifCond .eq 19, 3) := by decide +kernel
theorem dX5_rain_18 : decode cX5_rain 18 = .ok (.aload_n 0, 1) := by decide +kernel
theorem dX5_rain_19 : decode cX5_rain 19 = .ok (.getfield 7, 3) := by decide +kernel
theorem dX5_rain_22 : decode cX5_rain 22 = .ok (.bipush 7, 2) := by decide +kernel
theorem dX5_rain_24 : decode cX5_rain 24 = .ok (.dup2, 1) := by decide +kernel
theorem dX5_rain_25 : decode cX5_rain 25 = .ok (.iaload, 1) := by decide +kernel
theorem dX5_rain_26 : decode cX5_rain 26 = .ok (.iload_n 2, 1) := by decide +kernel
theorem dX5_rain_27 : decode cX5_rain 27 = .ok (.iadd, 1) := by decide +kernel
theorem dX5_rain_28 : decode cX5_rain 28 = .ok (.iastore, 1) := by decide +kernel
theorem dX5_rain_29 : decode cX5_rain 29 = .ok (.iconst 0, 1) := by decide +kernel
theorem dX5_rain_30 : decode cX5_rain 30 = .ok (.istore_n 2, 1) := by decide +kernel
theorem dX5_rain_31 : decode cX5_rain 31 = .ok (.goto 60, 3) := by decide +kernel
theorem dX5_rain_34 : decode cX5_rain 34 = .ok (.aload_n 0, 1) := by decide +kernel
theorem dX5_rain_35 : decode cX5_rain 35 = .ok (.iload_n 3, 1) := by decide +kernel
theorem dX5_rain_36 : decode cX5_rain 36 = .ok (.iconst 1, 1) := by decide +kernel
theorem dX5_rain_37 : decode cX5_rain 37 = .ok (.invokevirtual 37, 3) := by decide +kernel
theorem dX5_rain_40 : decode cX5_rain 40 = .ok (.iload_n 1, 1) := by decide +kernel
theorem dX5_rain_41 : decode cX5_rain 41 = .ok (.iadd, 1) := by decide +kernel
theorem dX5_rain_42 : decode cX5_rain 42 = .ok (.iload_n 2, 1) := by decide +kernel
theorem dX5_rain_43 : decode cX5_rain 43 = .ok (.iadd, 1) := by decide +kernel
theorem dX5_rain_44 : decode cX5_rain 44 = .ok (.istore 4, 2) := by decide +kernel
theorem dX5_rain_46 : decode cX5_rain 46 = .ok (.aload_n 0, 1) := by decide +kernel
theorem dX5_rain_47 : decode cX5_rain 47 = .ok (.iload_n 3, 1) := by decide +kernel
theorem dX5_rain_48 : decode cX5_rain 48 = .ok (.iconst 0, 1) := by decide +kernel
theorem dX5_rain_49 : decode cX5_rain 49 = .ok (.invokevirtual 37, 3) := by decide +kernel
theorem dX5_rain_52 : decode cX5_rain 52 = .ok (.istore 5, 2) := by decide +kernel
theorem dX5_rain_54 : decode cX5_rain 54 = .ok (.aload_n 0, 1) := by decide +kernel
theorem dX5_rain_55 : decode cX5_rain 55 = .ok (.getfield 7, 3) := by decide +kernel
theorem dX5_rain_58 : decode cX5_rain 58 = .ok (.iconst 5, 1) := by decide +kernel
theorem dX5_rain_59 : decode cX5_rain 59 = .ok (.dup2, 1) := by decide +kernel
theorem dX5_rain_60 : decode cX5_rain 60 = .ok (.iaload, 1) := by decide +kernel
theorem dX5_rain_61 : decode cX5_rain 61 = .ok (.iload_n 1, 1) := by decide +kernel
theorem dX5_rain_62 : decode cX5_rain 62 = .ok (.iadd, 1) := by decide +kernel
theorem dX5_rain_63 : decode cX5_rain 63 = .ok (.iastore, 1) := by decide +kernel
theorem dX5_rain_64 : decode cX5_rain 64 = .ok (.iload 4, 2) := by decide +kernel
theorem dX5_rain_66 : decode cX5_rain 66 = .ok (.iload 5, 2) := by decide +kernel
theorem dX5_rain_68 : decode cX5_rain 68 = .ok (.if_icmp .le 11, 3) := by decide +kernel
theorem dX5_rain_71 : decode cX5_rain 71 = .ok (.iload 4, 2) := by decide +kernel
theorem dX5_rain_73 : decode cX5_rain 73 = .ok (.iload 5, 2) := by decide +kernel
theorem dX5_rain_75 : decode cX5_rain 75 = .ok (.isub, 1) := by decide +kernel
theorem dX5_rain_76 : decode cX5_rain 76 = .ok (.goto 4, 3) := by decide +kernel
theorem dX5_rain_79 : decode cX5_rain 79 = .ok (.iconst 0, 1) := by decide +kernel
theorem dX5_rain_80 : decode cX5_rain 80 = .ok (.istore_n 2, 1) := by decide +kernel
theorem dX5_rain_81 : decode cX5_rain 81 = .ok (.aload_n 0, 1) := by decide +kernel
theorem dX5_rain_82 : decode cX5_rain 82 = .ok (.iload_n 3, 1) := by decide +kernel
theorem dX5_rain_83 : decode cX5_rain 83 = .ok (.iconst 1, 1) := by decide +kernel
theorem dX5_rain_84 : decode cX5_rain 84 = .ok (.iload 4, 2) := by decide +kernel
theorem dX5_rain_86 : decode cX5_rain 86 = .ok (.iload_n 2, 1) := by decide +kernel
theorem dX5_rain_87 : decode cX5_rain 87 = .ok (.isub, 1) := by decide +kernel
theorem dX5_rain_88 : decode cX5_rain 88 = .ok (.invokevirtual 29, 3) := by decide +kernel
theorem dX5_rain_91 : decode cX5_rain 91 = .ok (.iinc 3 1, 3) := by decide +kernel
theorem dX5_rain_94 : decode cX5_rain 94 = .ok (.goto (-90), 3) := by decide +kernel
theorem dX5_rain_97 : decode cX5_rain 97 = .ok (.aload_n 0, 1) := by decide +kernel
theorem dX5_rain_98 : decode cX5_rain 98 = .ok (.getfield 7, 3) := by decide +kernel
theorem dX5_rain_101 : decode cX5_rain 101 = .ok (.bipush 7, 2) := by decide +kernel
theorem dX5_rain_103 : decode cX5_rain 103 = .ok (.dup2, 1) := by decide +kernel
theorem dX5_rain_104 : decode cX5_rain 104 = .ok (.iaload, 1) := by decide +kernel
theorem dX5_rain_105 : decode cX5_rain 105 = .ok (.iload_n 2, 1) := by decide +kernel
theorem dX5_rain_106 : decode cX5_rain 106 = .ok (.iadd, 1) := by decide +kernel
theorem dX5_rain_107 : decode cX5_rain 107 = .ok (.iastore, 1) := by decide +kernel
theorem dX5_rain_108 : decode cX5_rain 108 = .ok (.return_, 1) := by decide +kernel
end
section
set_option maxRecDepth 20000 in
theorem ggX5_frost_X5_depth : GoodIn wsX5_frost wsX5_depth := goodIn_r _ [5, 6, 7, 8, 4, 9, 10, 15, 16, 17, 18, 19, 20, 21, 22, 23, 24] (by decide +kernel) (by decide +kernel)
set_option maxRecDepth 20000 in
theorem gX5_frost_X5_depth : GoodIn wsX5_frost (wsV RX5 89 RX5 yX5_depth wsX5_depth) := goodIn_app (goodIn_of _ (by decide +kernel)) ggX5_frost_X5_depth
set_option maxRecDepth 20000 in
theorem ggX5_frost_X5_of : GoodIn wsX5_frost wsX5_of := goodIn_r _ [9, 10, 15, 16, 17, 18, 19, 20, 21, 22, 23, 24] (by decide +kernel) (by decide +kernel)
set_option maxRecDepth 20000 in
theorem gX5_frost_X5_of : GoodIn wsX5_frost (wsV RX5 37 RX5 yX5_of wsX5_of) := goodIn_app (goodIn_of _ (by decide +kernel)) ggX5_frost_X5_of
set_option maxRecDepth 20000 in
theorem ggX5_frost_X5_lay : GoodIn wsX5_frost wsX5_lay := goodIn_r _ [14, 10, 15, 16, 17, 18, 19, 20, 21, 22, 23, 24] (by decide +kernel) (by decide +kernel)
set_option maxRecDepth 20000 in
theorem gX5_frost_X5_lay : GoodIn wsX5_frost (wsV RX5 29 RX5 yX5_lay wsX5_lay) := goodIn_app (goodIn_of _ (by decide +kernel)) ggX5_frost_X5_lay
theorem dX5_frost_0 : decode cX5_frost 0 = .ok (.iconst 0, 1) := by decide +kernel
theorem dX5_frost_1 : decode cX5_frost 1 = .ok (.istore_n 1, 1) := by decide +kernel
theorem dX5_frost_2 : decode cX5_frost 2 = .ok (.iload_n 1, 1) := by decide +kernel
theorem dX5_frost_3 : decode cX5_frost 3 = .ok (.bipush 12, 2) := by decide +kernel
theorem dX5_frost_5 : decode cX5_frost 5 = .ok (.if_icmp .ge 34, 3) := by decide +kernel
theorem dX5_frost_8 : decode cX5_frost 8 = .ok (.aload_n 0, 1) := by decide +kernel
theorem dX5_frost_9 : decode cX5_frost 9 = .ok (.iload_n 1, 1) := by decide +kernel
theorem dX5_frost_10 : decode cX5_frost 10 = .ok (.iconst 2, 1) := by decide +kernel
theorem dX5_frost_11 : decode cX5_frost 11 = .ok (.aload_n 0, 1) := by decide +kernel
theorem dX5_frost_12 : decode cX5_frost 12 = .ok (.iload_n 1, 1) := by decide +kernel
theorem dX5_frost_13 : decode cX5_frost 13 = .ok (.invokevirtual 89, 3) := by decide +kernel
theorem dX5_frost_16 : decode cX5_frost 16 = .ok (.iconst 4, 1) := by decide +kernel
theorem dX5_frost_17 : decode cX5_frost 17 = .ok (.if_icmp .ge 7, 3) := by decide +kernel
theorem dX5_frost_20 : decode cX5_frost 20 = .ok (.iconst 1, 1) := by decide +kernel
theorem dX5_frost_21 : decode cX5_frost 21 = .ok (.goto 9, 3) := by decide +kernel
theorem dX5_frost_24 : decode cX5_frost 24 = .ok (.aload_n 0, 1) := by decide +kernel
theorem dX5_frost_25 : decode cX5_frost 25 = .ok (.iload_n 1, 1) := by decide +kernel
theorem dX5_frost_26 : decode cX5_frost 26 = .ok (.iconst 2, 1) := by decide +kernel
theorem dX5_frost_27 : decode cX5_frost 27 = .ok (.invokevirtual 37, 3) := by decide +kernel
theorem dX5_frost_30 : decode cX5_frost 30 = .ok (.invokevirtual 29, 3) := by decide +kernel
theorem dX5_frost_33 : decode cX5_frost 33 = .ok (.iinc 1 1, 3) := by decide +kernel
theorem dX5_frost_36 : decode cX5_frost 36 = .ok (.goto (-34), 3) := by decide +kernel
theorem dX5_frost_39 : decode cX5_frost 39 = .ok (.return_, 1) := by decide +kernel
set_option maxRecDepth 20000 in
theorem ggX5_endDay_X5_of : GoodIn wsX5_endDay wsX5_of := goodIn_r _ [6, 1, 15, 16, 17, 18, 19, 20, 21, 22, 23, 24] (by decide +kernel) (by decide +kernel)
set_option maxRecDepth 20000 in
theorem gX5_endDay_X5_of : GoodIn wsX5_endDay (wsV RX5 37 RX5 yX5_of wsX5_of) := goodIn_app (goodIn_of _ (by decide +kernel)) ggX5_endDay_X5_of
set_option maxRecDepth 20000 in
theorem ggX5_endDay_X5_isFrozen : GoodIn wsX5_endDay wsX5_isFrozen := goodIn_r _ [10, 2, 3, 4, 5, 6, 1, 15, 16, 17, 18, 19, 20, 21, 22, 23, 24] (by decide +kernel) (by decide +kernel)
set_option maxRecDepth 20000 in
theorem gX5_endDay_X5_isFrozen : GoodIn wsX5_endDay (wsV RX5 86 RX5 yX5_isFrozen wsX5_isFrozen) := goodIn_app (goodIn_of _ (by decide +kernel)) ggX5_endDay_X5_isFrozen
set_option maxRecDepth 20000 in
theorem ggX5_endDay_X5_lay : GoodIn wsX5_endDay wsX5_lay := goodIn_r _ [14, 1, 15, 16, 17, 18, 19, 20, 21, 22, 23, 24] (by decide +kernel) (by decide +kernel)
set_option maxRecDepth 20000 in
theorem gX5_endDay_X5_lay : GoodIn wsX5_endDay (wsV RX5 29 RX5 yX5_lay wsX5_lay) := goodIn_app (goodIn_of _ (by decide +kernel)) ggX5_endDay_X5_lay
theorem dX5_endDay_0 : decode cX5_endDay 0 = .ok (.iconst 0, 1) := by decide +kernel
theorem dX5_endDay_1 : decode cX5_endDay 1 = .ok (.istore_n 1, 1) := by decide +kernel
theorem dX5_endDay_2 : decode cX5_endDay 2 = .ok (.iload_n 1, 1) := by decide +kernel
theorem dX5_endDay_3 : decode cX5_endDay 3 = .ok (.bipush 12, 2) := by decide +kernel
theorem dX5_endDay_5 : decode cX5_endDay 5 = .ok (.if_icmp .ge 53, 3) := by decide +kernel
theorem dX5_endDay_8 : decode cX5_endDay 8 = .ok (.aload_n 0, 1) := by decide +kernel
theorem dX5_endDay_9 : decode cX5_endDay 9 = .ok (.iload_n 1, 1) := by decide +kernel
theorem dX5_endDay_10 : decode cX5_endDay 10 = .ok (.iconst 1, 1) := by decide +kernel
theorem dX5_endDay_11 : decode cX5_endDay 11 = .ok (.invokevirtual 37, 3) := by decide +kernel
theorem dX5_endDay_14 : decode cX5_endDay 14 = .ok (.aload_n 0, 1) := by decide +kernel
theorem dX5_endDay_15 : decode cX5_endDay 15 = .ok (.getfield 7, 3) := by decide +kernel
theorem dX5_endDay_18 : decode cX5_endDay 18 = .ok (.iconst 2, 1) := by decide +kernel
theorem dX5_endDay_19 : decode cX5_endDay 19 = .ok (.iaload, 1) := by decide +kernel
theorem dX5_endDay_20 : decode cX5_endDay 20 = .ok (.if_icmp .lt 15, 3) := by decide +kernel
theorem dX5_endDay_23 : decode cX5_endDay 23 = .ok (.aload_n 0, 1) := by decide +kernel
theorem dX5_endDay_24 : decode cX5_endDay 24 = .ok (.iload_n 1, 1) := by decide +kernel
theorem dX5_endDay_25 : decode cX5_endDay 25 = .ok (.invokevirtual 86, 3) := by decide +kernel
theorem dX5_endDay_28 : decode cX5_endDay 28 = .ok (.ifCond .ne 7, 3) := by decide +kernel
theorem dX5_endDay_31 : decode cX5_endDay 31 = .ok (.iconst 1, 1) := by decide +kernel
theorem dX5_endDay_32 : decode cX5_endDay 32 = .ok (.goto 4, 3) := by decide +kernel
theorem dX5_endDay_35 : decode cX5_endDay 35 = .ok (.iconst 0, 1) := by decide +kernel
theorem dX5_endDay_36 : decode cX5_endDay 36 = .ok (.istore_n 2, 1) := by decide +kernel
theorem dX5_endDay_37 : decode cX5_endDay 37 = .ok (.aload_n 0, 1) := by decide +kernel
theorem dX5_endDay_38 : decode cX5_endDay 38 = .ok (.iload_n 1, 1) := by decide +kernel
theorem dX5_endDay_39 : decode cX5_endDay 39 = .ok (.iconst 3, 1) := by decide +kernel
theorem dX5_endDay_40 : decode cX5_endDay 40 = .ok (.iload_n 2, 1) := by decide +kernel
theorem dX5_endDay_41 : decode cX5_endDay 41 = .ok (.ifCond .eq 7, 3) := by decide +kernel
theorem dX5_endDay_44 : decode cX5_endDay 44 = .ok (.iconst 1, 1) := by decide +kernel
theorem dX5_endDay_45 : decode cX5_endDay 45 = .ok (.goto 4, 3) := by decide +kernel
theorem dX5_endDay_48 : decode cX5_endDay 48 = .ok (.iconst 0, 1) := by decide +kernel
theorem dX5_endDay_49 : decode cX5_endDay 49 = .ok (.invokevirtual 29, 3) := by decide +kernel
theorem dX5_endDay_52 : decode cX5_endDay 52 = .ok (.iinc 1 1, 3) := by decide +kernel
theorem dX5_endDay_55 : decode cX5_endDay 55 = .ok (.goto (-53), 3) := by decide +kernel
theorem dX5_endDay_58 : decode cX5_endDay 58 = .ok (.aload_n 0, 1) := by decide +kernel
theorem dX5_endDay_59 : decode cX5_endDay 59 = .ok (.getfield 7, 3) := by decide +kernel
theorem dX5_endDay_62 : decode cX5_endDay 62 = .ok (.iconst 4, 1) := by decide +kernel
theorem dX5_endDay_63 : decode cX5_endDay 63 = .ok (.dup2, 1) := by decide +kernel
theorem dX5_endDay_64 : decode cX5_endDay 64 = .ok (.iaload, 1) := by decide +kernel
theorem dX5_endDay_65 : decode cX5_endDay 65 = .ok (.iconst 1, 1) := by decide +kernel
theorem dX5_endDay_66 : decode cX5_endDay 66 = .ok (.iadd, 1) := by decide +kernel
theorem dX5_endDay_67 : decode cX5_endDay 67 = .ok (.iastore, 1) := by decide +kernel
theorem dX5_endDay_68 : decode cX5_endDay 68 = .ok (.iconst 0, 1) := by decide +kernel
theorem dX5_endDay_69 : decode cX5_endDay 69 = .ok (.istore_n 1, 1) := by decide +kernel
theorem dX5_endDay_70 : decode cX5_endDay 70 = .ok (.iload_n 1, 1) := by decide +kernel
theorem dX5_endDay_71 : decode cX5_endDay 71 = .ok (.bipush 72, 2) := by decide +kernel
theorem dX5_endDay_73 : decode cX5_endDay 73 = .ok (.if_icmp .ge 49, 3) := by decide +kernel
theorem dX5_endDay_76 : decode cX5_endDay 76 = .ok (.aload_n 0, 1) := by decide +kernel
theorem dX5_endDay_77 : decode cX5_endDay 77 = .ok (.getfield 7, 3) := by decide +kernel
theorem dX5_endDay_80 : decode cX5_endDay 80 = .ok (.bipush 92, 2) := by decide +kernel
theorem dX5_endDay_82 : decode cX5_endDay 82 = .ok (.iload_n 1, 1) := by decide +kernel
theorem dX5_endDay_83 : decode cX5_endDay 83 = .ok (.iadd, 1) := by decide +kernel
theorem dX5_endDay_84 : decode cX5_endDay 84 = .ok (.dup2, 1) := by decide +kernel
theorem dX5_endDay_85 : decode cX5_endDay 85 = .ok (.iaload, 1) := by decide +kernel
theorem dX5_endDay_86 : decode cX5_endDay 86 = .ok (.aload_n 0, 1) := by decide +kernel
theorem dX5_endDay_87 : decode cX5_endDay 87 = .ok (.getfield 7, 3) := by decide +kernel
theorem dX5_endDay_90 : decode cX5_endDay 90 = .ok (.bipush 92, 2) := by decide +kernel
theorem dX5_endDay_92 : decode cX5_endDay 92 = .ok (.iload_n 1, 1) := by decide +kernel
theorem dX5_endDay_93 : decode cX5_endDay 93 = .ok (.iadd, 1) := by decide +kernel
theorem dX5_endDay_94 : decode cX5_endDay 94 = .ok (.iaload, 1) := by decide +kernel
theorem dX5_endDay_95 : decode cX5_endDay 95 = .ok (.ifCond .le 18, 3) := by decide +kernel
theorem dX5_endDay_98 : decode cX5_endDay 98 = .ok (.aload_n 0, 1) := by decide +kernel
theorem dX5_endDay_99 : decode cX5_endDay 99 = .ok (.iload_n 1, 1) := by decide +kernel
theorem dX5_endDay_100 : decode cX5_endDay 100 = .ok (.bipush 12, 2) := by decide +kernel
theorem dX5_endDay_102 : decode cX5_endDay 102 = .ok (.irem, 1) := by decide +kernel
theorem dX5_endDay_103 : decode cX5_endDay 103 = .ok (.invokevirtual 86, 3) := by decide +kernel
theorem dX5_endDay_106 : decode cX5_endDay 106 = .ok (.ifCond .ne 7, 3) := by decide +kernel
theorem dX5_endDay_109 : decode cX5_endDay 109 = .ok (.iconst 1, 1) := by decide +kernel
theorem dX5_endDay_110 : decode cX5_endDay 110 = .ok (.goto 4, 3) := by decide +kernel
theorem dX5_endDay_113 : decode cX5_endDay 113 = .ok (.iconst 0, 1) := by decide +kernel
theorem dX5_endDay_114 : decode cX5_endDay 114 = .ok (.isub, 1) := by decide +kernel
theorem dX5_endDay_115 : decode cX5_endDay 115 = .ok (.iastore, 1) := by decide +kernel
theorem dX5_endDay_116 : decode cX5_endDay 116 = .ok (.iinc 1 1, 3) := by decide +kernel
theorem dX5_endDay_119 : decode cX5_endDay 119 = .ok (.goto (-49), 3) := by decide +kernel
theorem dX5_endDay_122 : decode cX5_endDay 122 = .ok (.return_, 1) := by decide +kernel
set_option maxRecDepth 20000 in
theorem ggX5_passNow_X5_sun : GoodIn wsX5_passNow wsX5_sun := goodIn_r _ [5, 6, 7, 8, 9, 4, 10, 11, 12, 13, 14, 15, 16, 17, 18, 35, 36, 37, 38, 39, 40, 41, 42, 43, 44] (by decide +kernel) (by decide +kernel)
set_option maxRecDepth 20000 in
theorem gX5_passNow_X5_sun : GoodIn wsX5_passNow (wsV RX5 108 RX5 yX5_sun wsX5_sun) := goodIn_app (goodIn_of _ (by decide +kernel)) ggX5_passNow_X5_sun
set_option maxRecDepth 20000 in
theorem ggX5_passNow_X5_rain : GoodIn wsX5_passNow wsX5_rain := goodIn_r _ [22, 6, 7, 8, 9, 4, 10, 11, 12, 13, 14, 15, 16, 17, 18, 35, 36, 37, 38, 39, 40, 41, 42, 43, 44] (by decide +kernel) (by decide +kernel)
set_option maxRecDepth 20000 in
theorem gX5_passNow_X5_rain : GoodIn wsX5_passNow (wsV RX5 111 RX5 yX5_rain wsX5_rain) := goodIn_app (goodIn_of _ (by decide +kernel)) ggX5_passNow_X5_rain
set_option maxRecDepth 20000 in
theorem ggX5_passNow_X5_frost : GoodIn wsX5_passNow wsX5_frost := goodIn_r _ [26, 27, 28, 29, 4, 30, 11, 12, 13, 14, 6, 15, 16, 17, 18, 35, 36, 37, 38, 39, 40, 41, 42, 43, 44] (by decide +kernel) (by decide +kernel)
set_option maxRecDepth 20000 in
theorem gX5_passNow_X5_frost : GoodIn wsX5_passNow (wsV RX5 115 RX5 yX5_frost wsX5_frost) := goodIn_app (goodIn_of _ (by decide +kernel)) ggX5_passNow_X5_frost
set_option maxRecDepth 20000 in
theorem ggX5_passNow_X5_endDay : GoodIn wsX5_passNow wsX5_endDay := goodIn_r _ [34, 6, 11, 12, 13, 4, 14, 7, 8, 9, 10, 15, 16, 17, 18, 35, 36, 37, 38, 39, 40, 41, 42, 43, 44] (by decide +kernel) (by decide +kernel)
set_option maxRecDepth 20000 in
theorem gX5_passNow_X5_endDay : GoodIn wsX5_passNow (wsV RX5 118 RX5 yX5_endDay wsX5_endDay) := goodIn_app (goodIn_of _ (by decide +kernel)) ggX5_passNow_X5_endDay
theorem dX5_passNow_0 : decode cX5_passNow 0 = .ok (.iload_n 1, 1) := by decide +kernel
theorem dX5_passNow_1 : decode cX5_passNow 1 = .ok (.ifCond .ne 10, 3) := by decide +kernel
theorem dX5_passNow_4 : decode cX5_passNow 4 = .ok (.aload_n 0, 1) := by decide +kernel
theorem dX5_passNow_5 : decode cX5_passNow 5 = .ok (.invokevirtual 108, 3) := by decide +kernel
theorem dX5_passNow_8 : decode cX5_passNow 8 = .ok (.goto 34, 3) := by decide +kernel
theorem dX5_passNow_11 : decode cX5_passNow 11 = .ok (.iload_n 1, 1) := by decide +kernel
theorem dX5_passNow_12 : decode cX5_passNow 12 = .ok (.bipush 10, 2) := by decide +kernel
theorem dX5_passNow_14 : decode cX5_passNow 14 = .ok (.if_icmp .ge 11, 3) := by decide +kernel
theorem dX5_passNow_17 : decode cX5_passNow 17 = .ok (.aload_n 0, 1) := by decide +kernel
theorem dX5_passNow_18 : decode cX5_passNow 18 = .ok (.iload_n 1, 1) := by decide +kernel
theorem dX5_passNow_19 : decode cX5_passNow 19 = .ok (.invokevirtual 111, 3) := by decide +kernel
theorem dX5_passNow_22 : decode cX5_passNow 22 = .ok (.goto 20, 3) := by decide +kernel
theorem dX5_passNow_25 : decode cX5_passNow 25 = .ok (.iload_n 1, 1) := by decide +kernel
theorem dX5_passNow_26 : decode cX5_passNow 26 = .ok (.bipush 10, 2) := by decide +kernel
theorem dX5_passNow_28 : decode cX5_passNow 28 = .ok (.if_icmp .ne 10, 3) := by decide +kernel
theorem dX5_passNow_31 : decode cX5_passNow 31 = .ok (.aload_n 0, 1) := by decide +kernel
theorem dX5_passNow_32 : decode cX5_passNow 32 = .ok (.invokevirtual 115, 3) := by decide +kernel
theorem dX5_passNow_35 : decode cX5_passNow 35 = .ok (.goto 7, 3) := by decide +kernel
theorem dX5_passNow_38 : decode cX5_passNow 38 = .ok (.aload_n 0, 1) := by decide +kernel
theorem dX5_passNow_39 : decode cX5_passNow 39 = .ok (.invokevirtual 118, 3) := by decide +kernel
theorem dX5_passNow_42 : decode cX5_passNow 42 = .ok (.return_, 1) := by decide +kernel
set_option maxRecDepth 20000 in
theorem ggX5_water_X5_of : GoodIn wsX5_water wsX5_of := goodIn_r _ [5, 6, 7, 8, 9, 10, 11, 12, 13, 14, 15, 16] (by decide +kernel) (by decide +kernel)
set_option maxRecDepth 20000 in
theorem gX5_water_X5_of : GoodIn wsX5_water (wsV RX5 37 RX5 yX5_of wsX5_of) := goodIn_app (goodIn_of _ (by decide +kernel)) ggX5_water_X5_of
theorem dX5_water_0 : decode cX5_water 0 = .ok (.iconst 0, 1) := by decide +kernel
theorem dX5_water_1 : decode cX5_water 1 = .ok (.istore_n 1, 1) := by decide +kernel
theorem dX5_water_2 : decode cX5_water 2 = .ok (.iconst 0, 1) := by decide +kernel
theorem dX5_water_3 : decode cX5_water 3 = .ok (.istore_n 2, 1) := by decide +kernel
theorem dX5_water_4 : decode cX5_water 4 = .ok (.iload_n 2, 1) := by decide +kernel
theorem dX5_water_5 : decode cX5_water 5 = .ok (.bipush 12, 2) := by decide +kernel
theorem dX5_water_7 : decode cX5_water 7 = .ok (.if_icmp .ge 18, 3) := by decide +kernel
theorem dX5_water_10 : decode cX5_water 10 = .ok (.iload_n 1, 1) := by decide +kernel
theorem dX5_water_11 : decode cX5_water 11 = .ok (.aload_n 0, 1) := by decide +kernel
theorem dX5_water_12 : decode cX5_water 12 = .ok (.iload_n 2, 1) := by decide +kernel
theorem dX5_water_13 : decode cX5_water 13 = .ok (.iconst 1, 1) := by decide +kernel
theorem dX5_water_14 : decode cX5_water 14 = .ok (.invokevirtual 37, 3) := by decide +kernel
theorem dX5_water_17 : decode cX5_water 17 = .ok (.iadd, 1) := by decide +kernel
theorem dX5_water_18 : decode cX5_water 18 = .ok (.istore_n 1, 1) := by decide +kernel
theorem dX5_water_19 : decode cX5_water 19 = .ok (.iinc 2 1, 3) := by decide +kernel
theorem dX5_water_22 : decode cX5_water 22 = .ok (.goto (-18), 3) := by decide +kernel
theorem dX5_water_25 : decode cX5_water 25 = .ok (.iload_n 1, 1) := by decide +kernel
theorem dX5_water_26 : decode cX5_water 26 = .ok (.ireturn, 1) := by decide +kernel
set_option maxRecDepth 20000 in
theorem ggX5_pass_X5_in : GoodIn wsX5_pass wsX5_in := goodIn_r _ [5] (by decide +kernel) (by decide +kernel)
set_option maxRecDepth 20000 in
theorem gX5_pass_X5_in : GoodIn wsX5_pass (va_wsS RX5 33 yX5_in wsX5_in) := goodIn_app (goodIn_of _ (by decide +kernel)) ggX5_pass_X5_in
set_option maxRecDepth 20000 in
theorem ggX5_pass_X5_record : GoodIn wsX5_pass wsX5_record := goodIn_r _ [9, 10, 11, 1, 12, 13, 4, 14, 55, 56, 57, 58, 59, 60, 61, 62, 63, 64] (by decide +kernel) (by decide +kernel)
set_option maxRecDepth 20000 in
theorem gX5_pass_X5_record : GoodIn wsX5_pass (wsV RX5 49 RX5 yX5_record wsX5_record) := goodIn_app (goodIn_of _ (by decide +kernel)) ggX5_pass_X5_record
set_option maxRecDepth 20000 in
theorem ggX5_pass_X5_passNow : GoodIn wsX5_pass wsX5_passNow := goodIn_r _ [18, 19, 20, 21, 4, 22, 1, 23, 24, 25, 26, 27, 28, 29, 30, 31, 32, 33, 34, 35, 36, 37, 38, 39, 40, 41, 42, 43, 44, 45, 46, 47, 48, 49, 50, 55, 56, 57, 58, 59, 60, 61, 62, 63, 64] (by decide +kernel) (by decide +kernel)
set_option maxRecDepth 20000 in
theorem gX5_pass_X5_passNow : GoodIn wsX5_pass (wsV RX5 121 RX5 yX5_passNow wsX5_passNow) := goodIn_app (goodIn_of _ (by decide +kernel)) ggX5_pass_X5_passNow
set_option maxRecDepth 20000 in
theorem ggX5_pass_X5_water : GoodIn wsX5_pass wsX5_water := goodIn_r _ [54, 27, 28, 29, 4, 30, 1, 55, 56, 57, 58, 59, 60, 61, 62, 63, 64] (by decide +kernel) (by decide +kernel)
set_option maxRecDepth 20000 in
theorem gX5_pass_X5_water : GoodIn wsX5_pass (wsV RX5 124 RX5 yX5_water wsX5_water) := goodIn_app (goodIn_of _ (by decide +kernel)) ggX5_pass_X5_water
theorem dX5_pass_0 : decode cX5_pass 0 = .ok (.iload_n 1, 1) := by decide +kernel
theorem dX5_pass_1 : decode cX5_pass 1 = .ok (.iconst 0, 1) := by decide +kernel
theorem dX5_pass_2 : decode cX5_pass 2 = .ok (.bipush 11, 2) := by decide +kernel
theorem dX5_pass_4 : decode cX5_pass 4 = .ok (.invokestatic 33, 3) := by decide +kernel
theorem dX5_pass_7 : decode cX5_pass 7 = .ok (.ifCond .ne 6, 3) := by decide +kernel
theorem dX5_pass_10 : decode cX5_pass 10 = .ok (.bipush (-2), 2) := by decide +kernel
theorem dX5_pass_12 : decode cX5_pass 12 = .ok (.ireturn, 1) := by decide +kernel
theorem dX5_pass_13 : decode cX5_pass 13 = .ok (.iload_n 1, 1) := by decide +kernel
theorem dX5_pass_14 : decode cX5_pass 14 = .ok (.bipush 11, 2) := by decide +kernel
theorem dX5_pass_16 : decode cX5_pass 16 = .ok (.if_icmp .ne 18, 3) := by decide +kernel
theorem dX5_pass_19 : decode cX5_pass 19 = .ok (.aload_n 0, 1) := by decide +kernel
theorem dX5_pass_20 : decode cX5_pass 20 = .ok (.getfield 7, 3) := by decide +kernel
theorem dX5_pass_23 : decode cX5_pass 23 = .ok (.iconst 4, 1) := by decide +kernel
theorem dX5_pass_24 : decode cX5_pass 24 = .ok (.iaload, 1) := by decide +kernel
theorem dX5_pass_25 : decode cX5_pass 25 = .ok (.sipush 9999, 3) := by decide +kernel
theorem dX5_pass_28 : decode cX5_pass 28 = .ok (.if_icmp .ne 6, 3) := by decide +kernel
theorem dX5_pass_31 : decode cX5_pass 31 = .ok (.bipush (-4), 2) := by decide +kernel
theorem dX5_pass_33 : decode cX5_pass 33 = .ok (.ireturn, 1) := by decide +kernel
theorem dX5_pass_34 : decode cX5_pass 34 = .ok (.aload_n 0, 1) := by decide +kernel
theorem dX5_pass_35 : decode cX5_pass 35 = .ok (.invokevirtual 49, 3) := by decide +kernel
theorem dX5_pass_38 : decode cX5_pass 38 = .ok (.aload_n 0, 1) := by decide +kernel
theorem dX5_pass_39 : decode cX5_pass 39 = .ok (.iload_n 1, 1) := by decide +kernel
theorem dX5_pass_40 : decode cX5_pass 40 = .ok (.invokevirtual 121, 3) := by decide +kernel
theorem dX5_pass_43 : decode cX5_pass 43 = .ok (.aload_n 0, 1) := by decide +kernel
theorem dX5_pass_44 : decode cX5_pass 44 = .ok (.invokevirtual 124, 3) := by decide +kernel
theorem dX5_pass_47 : decode cX5_pass 47 = .ok (.ireturn, 1) := by decide +kernel
set_option maxRecDepth 20000 in
theorem ggX5_put_X5_in : GoodIn wsX5_put wsX5_in := goodIn_r _ [7] (by decide +kernel) (by decide +kernel)
set_option maxRecDepth 20000 in
theorem gX5_put_X5_in : GoodIn wsX5_put (va_wsS RX5 33 yX5_in wsX5_in) := goodIn_app (goodIn_of _ (by decide +kernel)) ggX5_put_X5_in
theorem dX5_put_0 : decode cX5_put 0 = .ok (.lload_n 1, 1) := by decide +kernel
theorem dX5_put_1 : decode cX5_put 1 = .ok (.lstore_n 3, 1) := by decide +kernel
theorem dX5_put_2 : decode cX5_put 2 = .ok (.iconst 0, 1) := by decide +kernel
theorem dX5_put_3 : decode cX5_put 3 = .ok (.istore 5, 2) := by decide +kernel
theorem dX5_put_5 : decode cX5_put 5 = .ok (.lload_n 3, 1) := by decide +kernel
theorem dX5_put_6 : decode cX5_put 6 = .ok (.lconst 0, 1) := by decide +kernel
theorem dX5_put_7 : decode cX5_put 7 = .ok (.lcmp, 1) := by decide +kernel
theorem dX5_put_8 : decode cX5_put 8 = .ok (.ifCond .eq 40, 3) := by decide +kernel
theorem dX5_put_11 : decode cX5_put 11 = .ok (.iload 5, 2) := by decide +kernel
theorem dX5_put_13 : decode cX5_put 13 = .ok (.bipush 8, 2) := by decide +kernel
theorem dX5_put_15 : decode cX5_put 15 = .ok (.if_icmp .ge 33, 3) := by decide +kernel
theorem dX5_put_18 : decode cX5_put 18 = .ok (.lload_n 3, 1) := by decide +kernel
theorem dX5_put_19 : decode cX5_put 19 = .ok (.ldc2_w 128, 3) := by decide +kernel
theorem dX5_put_22 : decode cX5_put 22 = .ok (.land, 1) := by decide +kernel
theorem dX5_put_23 : decode cX5_put 23 = .ok (.l2i, 1) := by decide +kernel
theorem dX5_put_24 : decode cX5_put 24 = .ok (.bipush 33, 2) := by decide +kernel
theorem dX5_put_26 : decode cX5_put 26 = .ok (.bipush 126, 2) := by decide +kernel
theorem dX5_put_28 : decode cX5_put 28 = .ok (.invokestatic 33, 3) := by decide +kernel
theorem dX5_put_31 : decode cX5_put 31 = .ok (.ifCond .ne 6, 3) := by decide +kernel
theorem dX5_put_34 : decode cX5_put 34 = .ok (.bipush (-2), 2) := by decide +kernel
theorem dX5_put_36 : decode cX5_put 36 = .ok (.ireturn, 1) := by decide +kernel
theorem dX5_put_37 : decode cX5_put 37 = .ok (.lload_n 3, 1) := by decide +kernel
theorem dX5_put_38 : decode cX5_put 38 = .ok (.bipush 8, 2) := by decide +kernel
theorem dX5_put_40 : decode cX5_put 40 = .ok (.lushr, 1) := by decide +kernel
theorem dX5_put_41 : decode cX5_put 41 = .ok (.lstore_n 3, 1) := by decide +kernel
theorem dX5_put_42 : decode cX5_put 42 = .ok (.iinc 5 1, 3) := by decide +kernel
theorem dX5_put_45 : decode cX5_put 45 = .ok (.goto (-40), 3) := by decide +kernel
theorem dX5_put_48 : decode cX5_put 48 = .ok (.iload 5, 2) := by decide +kernel
theorem dX5_put_50 : decode cX5_put 50 = .ok (.ifCond .ne 6, 3) := by decide +kernel
theorem dX5_put_53 : decode cX5_put 53 = .ok (.bipush (-2), 2) := by decide +kernel
theorem dX5_put_55 : decode cX5_put 55 = .ok (.ireturn, 1) := by decide +kernel
theorem dX5_put_56 : decode cX5_put 56 = .ok (.aload_n 0, 1) := by decide +kernel
theorem dX5_put_57 : decode cX5_put 57 = .ok (.getfield 130, 3) := by decide +kernel
theorem dX5_put_60 : decode cX5_put 60 = .ok (.iload 5, 2) := by decide +kernel
theorem dX5_put_62 : decode cX5_put 62 = .ok (.iadd, 1) := by decide +kernel
theorem dX5_put_63 : decode cX5_put 63 = .ok (.bipush 60, 2) := by decide +kernel
theorem dX5_put_65 : decode cX5_put 65 = .ok (.if_icmp .le 6, 3) := by decide +kernel
theorem dX5_put_68 : decode cX5_put 68 = .ok (.bipush (-4), 2) := by decide +kernel
theorem dX5_put_70 : decode cX5_put 70 = .ok (.ireturn, 1) := by decide +kernel
theorem dX5_put_71 : decode cX5_put 71 = .ok (.iload 5, 2) := by decide +kernel
theorem dX5_put_73 : decode cX5_put 73 = .ok (.iconst 1, 1) := by decide +kernel
theorem dX5_put_74 : decode cX5_put 74 = .ok (.isub, 1) := by decide +kernel
theorem dX5_put_75 : decode cX5_put 75 = .ok (.istore 6, 2) := by decide +kernel
theorem dX5_put_77 : decode cX5_put 77 = .ok (.iload 6, 2) := by decide +kernel
theorem dX5_put_79 : decode cX5_put 79 = .ok (.ifCond .lt 40, 3) := by decide +kernel
theorem dX5_put_82 : decode cX5_put 82 = .ok (.aload_n 0, 1) := by decide +kernel
theorem dX5_put_83 : decode cX5_put 83 = .ok (.getfield 23, 3) := by decide +kernel
theorem dX5_put_86 : decode cX5_put 86 = .ok (.aload_n 0, 1) := by decide +kernel
theorem dX5_put_87 : decode cX5_put 87 = .ok (.getfield 130, 3) := by decide +kernel
theorem dX5_put_90 : decode cX5_put 90 = .ok (.lload_n 1, 1) := by decide +kernel
theorem dX5_put_91 : decode cX5_put 91 = .ok (.bipush 8, 2) := by decide +kernel
theorem dX5_put_93 : decode cX5_put 93 = .ok (.iload 6, 2) := by decide +kernel
theorem dX5_put_95 : decode cX5_put 95 = .ok (.imul, 1) := by decide +kernel
theorem dX5_put_96 : decode cX5_put 96 = .ok (.lushr, 1) := by decide +kernel
theorem dX5_put_97 : decode cX5_put 97 = .ok (.ldc2_w 128, 3) := by decide +kernel
theorem dX5_put_100 : decode cX5_put 100 = .ok (.land, 1) := by decide +kernel
theorem dX5_put_101 : decode cX5_put 101 = .ok (.l2i, 1) := by decide +kernel
theorem dX5_put_102 : decode cX5_put 102 = .ok (.iastore, 1) := by decide +kernel
theorem dX5_put_103 : decode cX5_put 103 = .ok (.aload_n 0, 1) := by decide +kernel
theorem dX5_put_104 : decode cX5_put 104 = .ok (.dup, 1) := by decide +kernel
theorem dX5_put_105 : decode cX5_put 105 = .ok (.getfield 130, 3) := by decide +kernel
theorem dX5_put_108 : decode cX5_put 108 = .ok (.iconst 1, 1) := by decide +kernel
theorem dX5_put_109 : decode cX5_put 109 = .ok (.iadd, 1) := by decide +kernel
theorem dX5_put_110 : decode cX5_put 110 = .ok (.putfield 130, 3) := by decide +kernel
theorem dX5_put_113 : decode cX5_put 113 = .ok (.iinc 6 (-1), 3) := by decide +kernel
theorem dX5_put_116 : decode cX5_put 116 = .ok (.goto (-39), 3) := by decide +kernel
theorem dX5_put_119 : decode cX5_put 119 = .ok (.aload_n 0, 1) := by decide +kernel
theorem dX5_put_120 : decode cX5_put 120 = .ok (.getfield 130, 3) := by decide +kernel
theorem dX5_put_123 : decode cX5_put 123 = .ok (.ireturn, 1) := by decide +kernel
theorem dX5_wipe_0 : decode cX5_wipe 0 = .ok (.aload_n 0, 1) := by decide +kernel
theorem dX5_wipe_1 : decode cX5_wipe 1 = .ok (.getfield 130, 3) := by decide +kernel
theorem dX5_wipe_4 : decode cX5_wipe 4 = .ok (.istore_n 1, 1) := by decide +kernel
theorem dX5_wipe_5 : decode cX5_wipe 5 = .ok (.aload_n 0, 1) := by decide +kernel
theorem dX5_wipe_6 : decode cX5_wipe 6 = .ok (.iconst 0, 1) := by decide +kernel
theorem dX5_wipe_7 : decode cX5_wipe 7 = .ok (.putfield 130, 3) := by decide +kernel
theorem dX5_wipe_10 : decode cX5_wipe 10 = .ok (.iload_n 1, 1) := by decide +kernel
theorem dX5_wipe_11 : decode cX5_wipe 11 = .ok (.ireturn, 1) := by decide +kernel
set_option maxRecDepth 20000 in
theorem ggX5_readHour_X5_in : GoodIn wsX5_readHour wsX5_in := goodIn_r _ [7] (by decide +kernel) (by decide +kernel)
set_option maxRecDepth 20000 in
theorem gX5_readHour_X5_in : GoodIn wsX5_readHour (va_wsS RX5 33 yX5_in wsX5_in) := goodIn_app (goodIn_of _ (by decide +kernel)) ggX5_readHour_X5_in
theorem dX5_readHour_0 : decode cX5_readHour 0 = .ok (.aload_n 0, 1) := by decide +kernel
theorem dX5_readHour_1 : decode cX5_readHour 1 = .ok (.getfield 133, 3) := by decide +kernel
theorem dX5_readHour_4 : decode cX5_readHour 4 = .ok (.aload_n 0, 1) := by decide +kernel
theorem dX5_readHour_5 : decode cX5_readHour 5 = .ok (.getfield 130, 3) := by decide +kernel
theorem dX5_readHour_8 : decode cX5_readHour 8 = .ok (.if_icmp .ne 6, 3) := by decide +kernel
theorem dX5_readHour_11 : decode cX5_readHour 11 = .ok (.bipush (-6), 2) := by decide +kernel
theorem dX5_readHour_13 : decode cX5_readHour 13 = .ok (.ireturn, 1) := by decide +kernel
theorem dX5_readHour_14 : decode cX5_readHour 14 = .ok (.aload_n 0, 1) := by decide +kernel
theorem dX5_readHour_15 : decode cX5_readHour 15 = .ok (.getfield 23, 3) := by decide +kernel
theorem dX5_readHour_18 : decode cX5_readHour 18 = .ok (.aload_n 0, 1) := by decide +kernel
theorem dX5_readHour_19 : decode cX5_readHour 19 = .ok (.getfield 133, 3) := by decide +kernel
theorem dX5_readHour_22 : decode cX5_readHour 22 = .ok (.iaload, 1) := by decide +kernel
theorem dX5_readHour_23 : decode cX5_readHour 23 = .ok (.istore_n 1, 1) := by decide +kernel
theorem dX5_readHour_24 : decode cX5_readHour 24 = .ok (.iload_n 1, 1) := by decide +kernel
theorem dX5_readHour_25 : decode cX5_readHour 25 = .ok (.bipush 115, 2) := by decide +kernel
theorem dX5_readHour_27 : decode cX5_readHour 27 = .ok (.if_icmp .eq 24, 3) := by decide +kernel
theorem dX5_readHour_30 : decode cX5_readHour 30 = .ok (.iload_n 1, 1) := by decide +kernel
theorem dX5_readHour_31 : decode cX5_readHour 31 = .ok (.bipush 102, 2) := by decide +kernel
theorem dX5_readHour_33 : decode cX5_readHour 33 = .ok (.if_icmp .eq 18, 3) := by decide +kernel
theorem dX5_readHour_36 : decode cX5_readHour 36 = .ok (.iload_n 1, 1) := by decide +kernel
theorem dX5_readHour_37 : decode cX5_readHour 37 = .ok (.bipush 100, 2) := by decide +kernel
theorem dX5_readHour_39 : decode cX5_readHour 39 = .ok (.if_icmp .eq 12, 3) := by decide +kernel
theorem dX5_readHour_42 : decode cX5_readHour 42 = .ok (.iload_n 1, 1) := by decide +kernel
theorem dX5_readHour_43 : decode cX5_readHour 43 = .ok (.bipush 114, 2) := by decide +kernel
theorem dX5_readHour_45 : decode cX5_readHour 45 = .ok (.if_icmp .eq 6, 3) := by decide +kernel
theorem dX5_readHour_48 : decode cX5_readHour 48 = .ok (.bipush (-6), 2) := by decide +kernel
theorem dX5_readHour_50 : decode cX5_readHour 50 = .ok (.ireturn, 1) := by decide +kernel
theorem dX5_readHour_51 : decode cX5_readHour 51 = .ok (.aload_n 0, 1) := by decide +kernel
theorem dX5_readHour_52 : decode cX5_readHour 52 = .ok (.dup, 1) := by decide +kernel
theorem dX5_readHour_53 : decode cX5_readHour 53 = .ok (.getfield 133, 3) := by decide +kernel
theorem dX5_readHour_56 : decode cX5_readHour 56 = .ok (.iconst 1, 1) := by decide +kernel
theorem dX5_readHour_57 : decode cX5_readHour 57 = .ok (.iadd, 1) := by decide +kernel
theorem dX5_readHour_58 : decode cX5_readHour 58 = .ok (.putfield 133, 3) := by decide +kernel
theorem dX5_readHour_61 : decode cX5_readHour 61 = .ok (.iload_n 1, 1) := by decide +kernel
theorem dX5_readHour_62 : decode cX5_readHour 62 = .ok (.bipush 114, 2) := by decide +kernel
theorem dX5_readHour_64 : decode cX5_readHour 64 = .ok (.if_icmp .eq 27, 3) := by decide +kernel
theorem dX5_readHour_67 : decode cX5_readHour 67 = .ok (.iload_n 1, 1) := by decide +kernel
theorem dX5_readHour_68 : decode cX5_readHour 68 = .ok (.bipush 115, 2) := by decide +kernel
theorem dX5_readHour_70 : decode cX5_readHour 70 = .ok (.if_icmp .ne 7, 3) := by decide +kernel
theorem dX5_readHour_73 : decode cX5_readHour 73 = .ok (.iconst 0, 1) := by decide +kernel
theorem dX5_readHour_74 : decode cX5_readHour 74 = .ok (.goto 16, 3) := by decide +kernel
theorem dX5_readHour_77 : decode cX5_readHour 77 = .ok (.iload_n 1, 1) := by decide +kernel
theorem dX5_readHour_78 : decode cX5_readHour 78 = .ok (.bipush 102, 2) := by decide +kernel
theorem dX5_readHour_80 : decode cX5_readHour 80 = .ok (.if_icmp .ne 8, 3) := by decide +kernel
theorem dX5_readHour_83 : decode cX5_readHour 83 = .ok (.bipush 10, 2) := by decide +kernel
theorem dX5_readHour_85 : decode cX5_readHour 85 = .ok (.goto 5, 3) := by decide +kernel
theorem dX5_readHour_88 : decode cX5_readHour 88 = .ok (.bipush 11, 2) := by decide +kernel
theorem dX5_readHour_90 : decode cX5_readHour 90 = .ok (.ireturn, 1) := by decide +kernel
theorem dX5_readHour_91 : decode cX5_readHour 91 = .ok (.aload_n 0, 1) := by decide +kernel
theorem dX5_readHour_92 : decode cX5_readHour 92 = .ok (.getfield 133, 3) := by decide +kernel
theorem dX5_readHour_95 : decode cX5_readHour 95 = .ok (.aload_n 0, 1) := by decide +kernel
theorem dX5_readHour_96 : decode cX5_readHour 96 = .ok (.getfield 130, 3) := by decide +kernel
theorem dX5_readHour_99 : decode cX5_readHour 99 = .ok (.if_icmp .eq 22, 3) := by decide +kernel
theorem dX5_readHour_102 : decode cX5_readHour 102 = .ok (.aload_n 0, 1) := by decide +kernel
theorem dX5_readHour_103 : decode cX5_readHour 103 = .ok (.getfield 23, 3) := by decide +kernel
theorem dX5_readHour_106 : decode cX5_readHour 106 = .ok (.aload_n 0, 1) := by decide +kernel
theorem dX5_readHour_107 : decode cX5_readHour 107 = .ok (.getfield 133, 3) := by decide +kernel
theorem dX5_readHour_110 : decode cX5_readHour 110 = .ok (.iaload, 1) := by decide +kernel
theorem dX5_readHour_111 : decode cX5_readHour 111 = .ok (.bipush 49, 2) := by decide +kernel
theorem dX5_readHour_113 : decode cX5_readHour 113 = .ok (.bipush 57, 2) := by decide +kernel
theorem dX5_readHour_115 : decode cX5_readHour 115 = .ok (.invokestatic 33, 3) := by decide +kernel
theorem dX5_readHour_118 : decode cX5_readHour 118 = .ok (.ifCond .ne 6, 3) := by decide +kernel
theorem dX5_readHour_121 : decode cX5_readHour 121 = .ok (.bipush (-6), 2) := by decide +kernel
theorem dX5_readHour_123 : decode cX5_readHour 123 = .ok (.ireturn, 1) := by decide +kernel
theorem dX5_readHour_124 : decode cX5_readHour 124 = .ok (.aload_n 0, 1) := by decide +kernel
theorem dX5_readHour_125 : decode cX5_readHour 125 = .ok (.dup, 1) := by decide +kernel
theorem dX5_readHour_126 : decode cX5_readHour 126 = .ok (.getfield 133, 3) := by decide +kernel
theorem dX5_readHour_129 : decode cX5_readHour 129 = .ok (.iconst 1, 1) := by decide +kernel
theorem dX5_readHour_130 : decode cX5_readHour 130 = .ok (.iadd, 1) := by decide +kernel
theorem dX5_readHour_131 : decode cX5_readHour 131 = .ok (.putfield 133, 3) := by decide +kernel
theorem dX5_readHour_134 : decode cX5_readHour 134 = .ok (.aload_n 0, 1) := by decide +kernel
theorem dX5_readHour_135 : decode cX5_readHour 135 = .ok (.getfield 23, 3) := by decide +kernel
theorem dX5_readHour_138 : decode cX5_readHour 138 = .ok (.aload_n 0, 1) := by decide +kernel
theorem dX5_readHour_139 : decode cX5_readHour 139 = .ok (.getfield 133, 3) := by decide +kernel
theorem dX5_readHour_142 : decode cX5_readHour 142 = .ok (.iconst 1, 1) := by decide +kernel
theorem dX5_readHour_143 : decode cX5_readHour 143 = .ok (.isub, 1) := by decide +kernel
theorem dX5_readHour_144 : decode cX5_readHour 144 = .ok (.iaload, 1) := by decide +kernel
theorem dX5_readHour_145 : decode cX5_readHour 145 = .ok (.bipush 48, 2) := by decide +kernel
theorem dX5_readHour_147 : decode cX5_readHour 147 = .ok (.isub, 1) := by decide +kernel
theorem dX5_readHour_148 : decode cX5_readHour 148 = .ok (.ireturn, 1) := by decide +kernel
set_option maxRecDepth 20000 in
theorem ggX5_readPad_X5_readHour : GoodIn wsX5_readPad wsX5_readHour := goodIn_r _ [9, 1, 4, 10, 11, 12, 8, 13, 14, 15, 16, 17, 18, 19, 20, 21, 22, 23] (by decide +kernel) (by decide +kernel)
set_option maxRecDepth 20000 in
theorem gX5_readPad_X5_readHour : GoodIn wsX5_readPad (wsV RX5 139 RX5 yX5_readHour wsX5_readHour) := goodIn_app (goodIn_of _ (by decide +kernel)) ggX5_readPad_X5_readHour
theorem dX5_readPad_0 : decode cX5_readPad 0 = .ok (.aload_n 0, 1) := by decide +kernel
theorem dX5_readPad_1 : decode cX5_readPad 1 = .ok (.iconst 0, 1) := by decide +kernel
theorem dX5_readPad_2 : decode cX5_readPad 2 = .ok (.putfield 133, 3) := by decide +kernel
theorem dX5_readPad_5 : decode cX5_readPad 5 = .ok (.aload_n 0, 1) := by decide +kernel
theorem dX5_readPad_6 : decode cX5_readPad 6 = .ok (.iconst 0, 1) := by decide +kernel
theorem dX5_readPad_7 : decode cX5_readPad 7 = .ok (.putfield 136, 3) := by decide +kernel
theorem dX5_readPad_10 : decode cX5_readPad 10 = .ok (.aload_n 0, 1) := by decide +kernel
theorem dX5_readPad_11 : decode cX5_readPad 11 = .ok (.invokevirtual 139, 3) := by decide +kernel
theorem dX5_readPad_14 : decode cX5_readPad 14 = .ok (.istore_n 1, 1) := by decide +kernel
theorem dX5_readPad_15 : decode cX5_readPad 15 = .ok (.iload_n 1, 1) := by decide +kernel
theorem dX5_readPad_16 : decode cX5_readPad 16 = .ok (.bipush (-6), 2) := by decide +kernel
theorem dX5_readPad_18 : decode cX5_readPad 18 = .ok (.if_icmp .eq 44, 3) := by decide +kernel
theorem dX5_readPad_21 : decode cX5_readPad 21 = .ok (.aload_n 0, 1) := by decide +kernel
theorem dX5_readPad_22 : decode cX5_readPad 22 = .ok (.getfield 26, 3) := by decide +kernel
theorem dX5_readPad_25 : decode cX5_readPad 25 = .ok (.aload_n 0, 1) := by decide +kernel
theorem dX5_readPad_26 : decode cX5_readPad 26 = .ok (.getfield 136, 3) := by decide +kernel
theorem dX5_readPad_29 : decode cX5_readPad 29 = .ok (.iload_n 1, 1) := by decide +kernel
theorem dX5_readPad_30 : decode cX5_readPad 30 = .ok (.iastore, 1) := by decide +kernel
theorem dX5_readPad_31 : decode cX5_readPad 31 = .ok (.aload_n 0, 1) := by decide +kernel
theorem dX5_readPad_32 : decode cX5_readPad 32 = .ok (.dup, 1) := by decide +kernel
theorem dX5_readPad_33 : decode cX5_readPad 33 = .ok (.getfield 136, 3) := by decide +kernel
theorem dX5_readPad_36 : decode cX5_readPad 36 = .ok (.iconst 1, 1) := by decide +kernel
theorem dX5_readPad_37 : decode cX5_readPad 37 = .ok (.iadd, 1) := by decide +kernel
theorem dX5_readPad_38 : decode cX5_readPad 38 = .ok (.putfield 136, 3) := by decide +kernel
theorem dX5_readPad_41 : decode cX5_readPad 41 = .ok (.aload_n 0, 1) := by decide +kernel
theorem dX5_readPad_42 : decode cX5_readPad 42 = .ok (.getfield 133, 3) := by decide +kernel
theorem dX5_readPad_45 : decode cX5_readPad 45 = .ok (.aload_n 0, 1) := by decide +kernel
theorem dX5_readPad_46 : decode cX5_readPad 46 = .ok (.getfield 130, 3) := by decide +kernel
theorem dX5_readPad_49 : decode cX5_readPad 49 = .ok (.if_icmp .ne 5, 3) := by decide +kernel
theorem dX5_readPad_52 : decode cX5_readPad 52 = .ok (.iconst 1, 1) := by decide +kernel
theorem dX5_readPad_53 : decode cX5_readPad 53 = .ok (.ireturn, 1) := by decide +kernel
theorem dX5_readPad_54 : decode cX5_readPad 54 = .ok (.aload_n 0, 1) := by decide +kernel
theorem dX5_readPad_55 : decode cX5_readPad 55 = .ok (.invokevirtual 139, 3) := by decide +kernel
theorem dX5_readPad_58 : decode cX5_readPad 58 = .ok (.istore_n 1, 1) := by decide +kernel
theorem dX5_readPad_59 : decode cX5_readPad 59 = .ok (.goto (-44), 3) := by decide +kernel
theorem dX5_readPad_62 : decode cX5_readPad 62 = .ok (.iconst 0, 1) := by decide +kernel
theorem dX5_readPad_63 : decode cX5_readPad 63 = .ok (.ireturn, 1) := by decide +kernel
set_option maxRecDepth 20000 in
theorem ggX5_fault_X5_readPad : GoodIn wsX5_fault wsX5_readPad := goodIn_r _ [6, 1, 7, 8, 9, 10, 11, 12, 5, 13, 14, 15, 16, 17, 18, 19, 20, 21, 22, 23, 24, 25, 26, 27] (by decide +kernel) (by decide +kernel)
set_option maxRecDepth 20000 in
theorem gX5_fault_X5_readPad : GoodIn wsX5_fault (wsV RX5 142 RX5 yX5_readPad wsX5_readPad) := goodIn_app (goodIn_of _ (by decide +kernel)) ggX5_fault_X5_readPad
theorem dX5_fault_0 : decode cX5_fault 0 = .ok (.aload_n 0, 1) := by decide +kernel
theorem dX5_fault_1 : decode cX5_fault 1 = .ok (.invokevirtual 142, 3) := by decide +kernel
theorem dX5_fault_4 : decode cX5_fault 4 = .ok (.ifCond .eq 8, 3) := by decide +kernel
theorem dX5_fault_7 : decode cX5_fault 7 = .ok (.bipush (-6), 2) := by decide +kernel
theorem dX5_fault_9 : decode cX5_fault 9 = .ok (.goto 7, 3) := by decide +kernel
theorem dX5_fault_12 : decode cX5_fault 12 = .ok (.aload_n 0, 1) := by decide +kernel
theorem dX5_fault_13 : decode cX5_fault 13 = .ok (.getfield 133, 3) := by decide +kernel
theorem dX5_fault_16 : decode cX5_fault 16 = .ok (.ireturn, 1) := by decide +kernel
set_option maxRecDepth 20000 in
theorem ggX5_read_X5_readPad : GoodIn wsX5_read wsX5_readPad := goodIn_r _ [9, 10, 1, 2, 4, 11, 12, 13, 8, 14, 15, 16, 17, 18, 68, 69, 70, 71, 72, 73, 74, 75, 76, 77] (by decide +kernel) (by decide +kernel)
set_option maxRecDepth 20000 in
theorem gX5_read_X5_readPad : GoodIn wsX5_read (wsV RX5 142 RX5 yX5_readPad wsX5_readPad) := goodIn_app (goodIn_of _ (by decide +kernel)) ggX5_read_X5_readPad
set_option maxRecDepth 20000 in
theorem ggX5_read_X5_record : GoodIn wsX5_read wsX5_record := goodIn_r _ [22, 23, 24, 3, 25, 26, 8, 27, 68, 69, 70, 71, 72, 73, 74, 75, 76, 77] (by decide +kernel) (by decide +kernel)
set_option maxRecDepth 20000 in
theorem gX5_read_X5_record : GoodIn wsX5_read (wsV RX5 49 RX5 yX5_record wsX5_record) := goodIn_app (goodIn_of _ (by decide +kernel)) ggX5_read_X5_record
set_option maxRecDepth 20000 in
theorem ggX5_read_X5_passNow : GoodIn wsX5_read wsX5_passNow := goodIn_r _ [31, 32, 33, 34, 8, 35, 3, 36, 37, 38, 39, 40, 41, 42, 43, 44, 45, 46, 47, 48, 49, 50, 51, 52, 53, 54, 55, 56, 57, 58, 59, 60, 61, 62, 63, 68, 69, 70, 71, 72, 73, 74, 75, 76, 77] (by decide +kernel) (by decide +kernel)
set_option maxRecDepth 20000 in
theorem gX5_read_X5_passNow : GoodIn wsX5_read (wsV RX5 121 RX5 yX5_passNow wsX5_passNow) := goodIn_app (goodIn_of _ (by decide +kernel)) ggX5_read_X5_passNow
set_option maxRecDepth 20000 in
theorem ggX5_read_X5_water : GoodIn wsX5_read wsX5_water := goodIn_r _ [67, 40, 41, 42, 8, 43, 3, 68, 69, 70, 71, 72, 73, 74, 75, 76, 77] (by decide +kernel) (by decide +kernel)
set_option maxRecDepth 20000 in
theorem gX5_read_X5_water : GoodIn wsX5_read (wsV RX5 124 RX5 yX5_water wsX5_water) := goodIn_app (goodIn_of _ (by decide +kernel)) ggX5_read_X5_water
theorem dX5_read_0 : decode cX5_read 0 = .ok (.aload_n 0, 1) := by decide +kernel
theorem dX5_read_1 : decode cX5_read 1 = .ok (.invokevirtual 142, 3) := by decide +kernel
theorem dX5_read_4 : decode cX5_read 4 = .ok (.ifCond .ne 6, 3) := by decide +kernel
theorem dX5_read_7 : decode cX5_read 7 = .ok (.bipush (-3), 2) := by decide +kernel
theorem dX5_read_9 : decode cX5_read 9 = .ok (.ireturn, 1) := by decide +kernel
theorem dX5_read_10 : decode cX5_read 10 = .ok (.iconst 0, 1) := by decide +kernel
theorem dX5_read_11 : decode cX5_read 11 = .ok (.istore_n 1, 1) := by decide +kernel
theorem dX5_read_12 : decode cX5_read 12 = .ok (.iconst 0, 1) := by decide +kernel
theorem dX5_read_13 : decode cX5_read 13 = .ok (.istore_n 2, 1) := by decide +kernel
theorem dX5_read_14 : decode cX5_read 14 = .ok (.iload_n 2, 1) := by decide +kernel
theorem dX5_read_15 : decode cX5_read 15 = .ok (.aload_n 0, 1) := by decide +kernel
theorem dX5_read_16 : decode cX5_read 16 = .ok (.getfield 136, 3) := by decide +kernel
theorem dX5_read_19 : decode cX5_read 19 = .ok (.if_icmp .ge 28, 3) := by decide +kernel
theorem dX5_read_22 : decode cX5_read 22 = .ok (.iload_n 1, 1) := by decide +kernel
theorem dX5_read_23 : decode cX5_read 23 = .ok (.aload_n 0, 1) := by decide +kernel
theorem dX5_read_24 : decode cX5_read 24 = .ok (.getfield 26, 3) := by decide +kernel
theorem dX5_read_27 : decode cX5_read 27 = .ok (.iload_n 2, 1) := by decide +kernel
theorem dX5_read_28 : decode cX5_read 28 = .ok (.iaload, 1) := by decide +kernel
theorem dX5_read_29 : decode cX5_read 29 = .ok (.bipush 11, 2) := by decide +kernel
theorem dX5_read_31 : decode cX5_read 31 = .ok (.if_icmp .ne 7, 3) := by decide +kernel
theorem dX5_read_34 : decode cX5_read 34 = .ok (.iconst 1, 1) := by decide +kernel
theorem dX5_read_35 : decode cX5_read 35 = .ok (.goto 4, 3) := by decide +kernel
theorem dX5_read_38 : decode cX5_read 38 = .ok (.iconst 0, 1) := by decide +kernel
theorem dX5_read_39 : decode cX5_read 39 = .ok (.iadd, 1) := by decide +kernel
theorem dX5_read_40 : decode cX5_read 40 = .ok (.istore_n 1, 1) := by decide +kernel
theorem dX5_read_41 : decode cX5_read 41 = .ok (.iinc 2 1, 3) := by decide +kernel
theorem dX5_read_44 : decode cX5_read 44 = .ok (.goto (-30), 3) := by decide +kernel
theorem dX5_read_47 : decode cX5_read 47 = .ok (.aload_n 0, 1) := by decide +kernel
theorem dX5_read_48 : decode cX5_read 48 = .ok (.getfield 7, 3) := by decide +kernel
theorem dX5_read_51 : decode cX5_read 51 = .ok (.iconst 4, 1) := by decide +kernel
theorem dX5_read_52 : decode cX5_read 52 = .ok (.iaload, 1) := by decide +kernel
theorem dX5_read_53 : decode cX5_read 53 = .ok (.iload_n 1, 1) := by decide +kernel
theorem dX5_read_54 : decode cX5_read 54 = .ok (.iadd, 1) := by decide +kernel
theorem dX5_read_55 : decode cX5_read 55 = .ok (.sipush 9999, 3) := by decide +kernel
theorem dX5_read_58 : decode cX5_read 58 = .ok (.if_icmp .le 6, 3) := by decide +kernel
theorem dX5_read_61 : decode cX5_read 61 = .ok (.bipush (-4), 2) := by decide +kernel
theorem dX5_read_63 : decode cX5_read 63 = .ok (.ireturn, 1) := by decide +kernel
theorem dX5_read_64 : decode cX5_read 64 = .ok (.aload_n 0, 1) := by decide +kernel
theorem dX5_read_65 : decode cX5_read 65 = .ok (.invokevirtual 49, 3) := by decide +kernel
theorem dX5_read_68 : decode cX5_read 68 = .ok (.iconst 0, 1) := by decide +kernel
theorem dX5_read_69 : decode cX5_read 69 = .ok (.istore_n 2, 1) := by decide +kernel
theorem dX5_read_70 : decode cX5_read 70 = .ok (.iload_n 2, 1) := by decide +kernel
theorem dX5_read_71 : decode cX5_read 71 = .ok (.aload_n 0, 1) := by decide +kernel
theorem dX5_read_72 : decode cX5_read 72 = .ok (.getfield 136, 3) := by decide +kernel
theorem dX5_read_75 : decode cX5_read 75 = .ok (.if_icmp .ge 19, 3) := by decide +kernel
theorem dX5_read_78 : decode cX5_read 78 = .ok (.aload_n 0, 1) := by decide +kernel
theorem dX5_read_79 : decode cX5_read 79 = .ok (.aload_n 0, 1) := by decide +kernel
theorem dX5_read_80 : decode cX5_read 80 = .ok (.getfield 26, 3) := by decide +kernel
theorem dX5_read_83 : decode cX5_read 83 = .ok (.iload_n 2, 1) := by decide +kernel
theorem dX5_read_84 : decode cX5_read 84 = .ok (.iaload, 1) := by decide +kernel
theorem dX5_read_85 : decode cX5_read 85 = .ok (.invokevirtual 121, 3) := by decide +kernel
theorem dX5_read_88 : decode cX5_read 88 = .ok (.iinc 2 1, 3) := by decide +kernel
theorem dX5_read_91 : decode cX5_read 91 = .ok (.goto (-21), 3) := by decide +kernel
theorem dX5_read_94 : decode cX5_read 94 = .ok (.aload_n 0, 1) := by decide +kernel
theorem dX5_read_95 : decode cX5_read 95 = .ok (.iconst 0, 1) := by decide +kernel
theorem dX5_read_96 : decode cX5_read 96 = .ok (.putfield 130, 3) := by decide +kernel
theorem dX5_read_99 : decode cX5_read 99 = .ok (.aload_n 0, 1) := by decide +kernel
theorem dX5_read_100 : decode cX5_read 100 = .ok (.invokevirtual 124, 3) := by decide +kernel
theorem dX5_read_103 : decode cX5_read 103 = .ok (.ireturn, 1) := by decide +kernel
set_option maxRecDepth 20000 in
theorem ggX5_permitted_X5_days : GoodIn wsX5_permitted wsX5_days := goodIn_r _ [5, 6, 7, 8, 9, 10, 11, 12, 13, 14, 15, 16] (by decide +kernel) (by decide +kernel)
set_option maxRecDepth 20000 in
theorem gX5_permitted_X5_days : GoodIn wsX5_permitted (wsV RX5 76 RX5 yX5_days wsX5_days) := goodIn_app (goodIn_of _ (by decide +kernel)) ggX5_permitted_X5_days
theorem dX5_permitted_0 : decode cX5_permitted 0 = .ok (.iconst 0, 1) := by decide +kernel
theorem dX5_permitted_1 : decode cX5_permitted 1 = .ok (.istore_n 2, 1) := by decide +kernel
theorem dX5_permitted_2 : decode cX5_permitted 2 = .ok (.iconst 0, 1) := by decide +kernel
theorem dX5_permitted_3 : decode cX5_permitted 3 = .ok (.istore_n 3, 1) := by decide +kernel
theorem dX5_permitted_4 : decode cX5_permitted 4 = .ok (.iload_n 3, 1) := by decide +kernel
theorem dX5_permitted_5 : decode cX5_permitted 5 = .ok (.bipush 6, 2) := by decide +kernel
theorem dX5_permitted_7 : decode cX5_permitted 7 = .ok (.if_icmp .ge 28, 3) := by decide +kernel
theorem dX5_permitted_10 : decode cX5_permitted 10 = .ok (.iload_n 2, 1) := by decide +kernel
theorem dX5_permitted_11 : decode cX5_permitted 11 = .ok (.aload_n 0, 1) := by decide +kernel
theorem dX5_permitted_12 : decode cX5_permitted 12 = .ok (.iload_n 3, 1) := by decide +kernel
theorem dX5_permitted_13 : decode cX5_permitted 13 = .ok (.iload_n 1, 1) := by decide +kernel
theorem dX5_permitted_14 : decode cX5_permitted 14 = .ok (.invokevirtual 76, 3) := by decide +kernel
theorem dX5_permitted_17 : decode cX5_permitted 17 = .ok (.ifCond .le 9, 3) := by decide +kernel
theorem dX5_permitted_20 : decode cX5_permitted 20 = .ok (.iconst 1, 1) := by decide +kernel
theorem dX5_permitted_21 : decode cX5_permitted 21 = .ok (.iload_n 3, 1) := by decide +kernel
theorem dX5_permitted_22 : decode cX5_permitted 22 = .ok (.ishl, 1) := by decide +kernel
theorem dX5_permitted_23 : decode cX5_permitted 23 = .ok (.goto 4, 3) := by decide +kernel
theorem dX5_permitted_26 : decode cX5_permitted 26 = .ok (.iconst 0, 1) := by decide +kernel
theorem dX5_permitted_27 : decode cX5_permitted 27 = .ok (.ior, 1) := by decide +kernel
theorem dX5_permitted_28 : decode cX5_permitted 28 = .ok (.istore_n 2, 1) := by decide +kernel
theorem dX5_permitted_29 : decode cX5_permitted 29 = .ok (.iinc 3 1, 3) := by decide +kernel
theorem dX5_permitted_32 : decode cX5_permitted 32 = .ok (.goto (-28), 3) := by decide +kernel
theorem dX5_permitted_35 : decode cX5_permitted 35 = .ok (.iload_n 2, 1) := by decide +kernel
theorem dX5_permitted_36 : decode cX5_permitted 36 = .ok (.ireturn, 1) := by decide +kernel
set_option maxRecDepth 20000 in
theorem ggX5_puddle_X5_isPuddle : GoodIn wsX5_puddle wsX5_isPuddle := goodIn_r _ [4, 5, 6, 3, 7] (by decide +kernel) (by decide +kernel)
set_option maxRecDepth 20000 in
theorem gX5_puddle_X5_isPuddle : GoodIn wsX5_puddle (va_wsS RX5 56 yX5_isPuddle wsX5_isPuddle) := goodIn_app (goodIn_of _ (by decide +kernel)) ggX5_puddle_X5_isPuddle
set_option maxRecDepth 20000 in
theorem ggX5_puddle_X5_of : GoodIn wsX5_puddle wsX5_of := goodIn_r _ [11, 12, 25, 26, 27, 28, 29, 30, 31, 32, 33, 34] (by decide +kernel) (by decide +kernel)
set_option maxRecDepth 20000 in
theorem gX5_puddle_X5_of : GoodIn wsX5_puddle (wsV RX5 37 RX5 yX5_of wsX5_of) := goodIn_app (goodIn_of _ (by decide +kernel)) ggX5_puddle_X5_of
set_option maxRecDepth 20000 in
theorem ggX5_puddle_X5_depth : GoodIn wsX5_puddle wsX5_depth := goodIn_r _ [16, 8, 9, 10, 3, 11, 12, 25, 26, 27, 28, 29, 30, 31, 32, 33, 34] (by decide +kernel) (by decide +kernel)
set_option maxRecDepth 20000 in
theorem gX5_puddle_X5_depth : GoodIn wsX5_puddle (wsV RX5 89 RX5 yX5_depth wsX5_depth) := goodIn_app (goodIn_of _ (by decide +kernel)) ggX5_puddle_X5_depth
set_option maxRecDepth 20000 in
theorem ggX5_puddle_X5_permitted : GoodIn wsX5_puddle wsX5_permitted := goodIn_r _ [20, 21, 22, 23, 3, 24, 12, 25, 26, 27, 28, 29, 30, 31, 32, 33, 34] (by decide +kernel) (by decide +kernel)
set_option maxRecDepth 20000 in
theorem gX5_puddle_X5_permitted : GoodIn wsX5_puddle (wsV RX5 146 RX5 yX5_permitted wsX5_permitted) := goodIn_app (goodIn_of _ (by decide +kernel)) ggX5_puddle_X5_permitted
theorem dX5_puddle_0 : decode cX5_puddle 0 = .ok (.iload_n 1, 1) := by decide +kernel
theorem dX5_puddle_1 : decode cX5_puddle 1 = .ok (.invokestatic 56, 3) := by decide +kernel
theorem dX5_puddle_4 : decode cX5_puddle 4 = .ok (.ifCond .ne 5, 3) := by decide +kernel
theorem dX5_puddle_7 : decode cX5_puddle 7 = .ok (.iconst (-1), 1) := by decide +kernel
theorem dX5_puddle_8 : decode cX5_puddle 8 = .ok (.ireturn, 1) := by decide +kernel
theorem dX5_puddle_9 : decode cX5_puddle 9 = .ok (.iload_n 2, 1) := by decide +kernel
theorem dX5_puddle_10 : decode cX5_puddle 10 = .ok (.tableswitch 82 0 6 #[42, 42, 49, 55, 62, 69, 76], 42) := by decide +kernel
theorem dX5_puddle_52 : decode cX5_puddle 52 = .ok (.aload_n 0, 1) := by decide +kernel
theorem dX5_puddle_53 : decode cX5_puddle 53 = .ok (.iload_n 1, 1) := by decide +kernel
theorem dX5_puddle_54 : decode cX5_puddle 54 = .ok (.iload_n 2, 1) := by decide +kernel
theorem dX5_puddle_55 : decode cX5_puddle 55 = .ok (.invokevirtual 37, 3) := by decide +kernel
theorem dX5_puddle_58 : decode cX5_puddle 58 = .ok (.ireturn, 1) := by decide +kernel
theorem dX5_puddle_59 : decode cX5_puddle 59 = .ok (.aload_n 0, 1) := by decide +kernel
theorem dX5_puddle_60 : decode cX5_puddle 60 = .ok (.iload_n 1, 1) := by decide +kernel
theorem dX5_puddle_61 : decode cX5_puddle 61 = .ok (.invokevirtual 89, 3) := by decide +kernel
theorem dX5_puddle_64 : decode cX5_puddle 64 = .ok (.ireturn, 1) := by decide +kernel
theorem dX5_puddle_65 : decode cX5_puddle 65 = .ok (.aload_n 0, 1) := by decide +kernel
theorem dX5_puddle_66 : decode cX5_puddle 66 = .ok (.iload_n 1, 1) := by decide +kernel
theorem dX5_puddle_67 : decode cX5_puddle 67 = .ok (.iconst 2, 1) := by decide +kernel
theorem dX5_puddle_68 : decode cX5_puddle 68 = .ok (.invokevirtual 37, 3) := by decide +kernel
theorem dX5_puddle_71 : decode cX5_puddle 71 = .ok (.ireturn, 1) := by decide +kernel
theorem dX5_puddle_72 : decode cX5_puddle 72 = .ok (.aload_n 0, 1) := by decide +kernel
theorem dX5_puddle_73 : decode cX5_puddle 73 = .ok (.iload_n 1, 1) := by decide +kernel
theorem dX5_puddle_74 : decode cX5_puddle 74 = .ok (.iconst 3, 1) := by decide +kernel
theorem dX5_puddle_75 : decode cX5_puddle 75 = .ok (.invokevirtual 37, 3) := by decide +kernel
theorem dX5_puddle_78 : decode cX5_puddle 78 = .ok (.ireturn, 1) := by decide +kernel
theorem dX5_puddle_79 : decode cX5_puddle 79 = .ok (.aload_n 0, 1) := by decide +kernel
theorem dX5_puddle_80 : decode cX5_puddle 80 = .ok (.iload_n 1, 1) := by decide +kernel
theorem dX5_puddle_81 : decode cX5_puddle 81 = .ok (.iconst 4, 1) := by decide +kernel
theorem dX5_puddle_82 : decode cX5_puddle 82 = .ok (.invokevirtual 37, 3) := by decide +kernel
theorem dX5_puddle_85 : decode cX5_puddle 85 = .ok (.ireturn, 1) := by decide +kernel
theorem dX5_puddle_86 : decode cX5_puddle 86 = .ok (.aload_n 0, 1) := by decide +kernel
theorem dX5_puddle_87 : decode cX5_puddle 87 = .ok (.iload_n 1, 1) := by decide +kernel
theorem dX5_puddle_88 : decode cX5_puddle 88 = .ok (.invokevirtual 146, 3) := by decide +kernel
theorem dX5_puddle_91 : decode cX5_puddle 91 = .ok (.ireturn, 1) := by decide +kernel
theorem dX5_puddle_92 : decode cX5_puddle 92 = .ok (.bipush (-2), 2) := by decide +kernel
theorem dX5_puddle_94 : decode cX5_puddle 94 = .ok (.ireturn, 1) := by decide +kernel
set_option maxRecDepth 20000 in
theorem ggX5_may_X5_reason : GoodIn wsX5_may wsX5_reason := goodIn_r _ [5, 6, 7, 8, 4, 9, 10, 11, 12, 13, 14, 15, 16, 17, 18, 19, 20, 21, 22, 23, 24, 25, 26, 27, 28, 29, 30, 31, 32, 33, 34, 35, 36] (by decide +kernel) (by decide +kernel)
set_option maxRecDepth 20000 in
theorem gX5_may_X5_reason : GoodIn wsX5_may (wsV RX5 92 RX5 yX5_reason wsX5_reason) := goodIn_app (goodIn_of _ (by decide +kernel)) ggX5_may_X5_reason
theorem dX5_may_0 : decode cX5_may 0 = .ok (.iconst 0, 1) := by decide +kernel
theorem dX5_may_1 : decode cX5_may 1 = .ok (.istore_n 3, 1) := by decide +kernel
theorem dX5_may_2 : decode cX5_may 2 = .ok (.iconst 0, 1) := by decide +kernel
theorem dX5_may_3 : decode cX5_may 3 = .ok (.istore 4, 2) := by decide +kernel
theorem dX5_may_5 : decode cX5_may 5 = .ok (.iload 4, 2) := by decide +kernel
theorem dX5_may_7 : decode cX5_may 7 = .ok (.bipush 12, 2) := by decide +kernel
theorem dX5_may_9 : decode cX5_may 9 = .ok (.if_icmp .ge 31, 3) := by decide +kernel
theorem dX5_may_12 : decode cX5_may 12 = .ok (.iload_n 3, 1) := by decide +kernel
theorem dX5_may_13 : decode cX5_may 13 = .ok (.aload_n 0, 1) := by decide +kernel
theorem dX5_may_14 : decode cX5_may 14 = .ok (.iload_n 1, 1) := by decide +kernel
theorem dX5_may_15 : decode cX5_may 15 = .ok (.iload 4, 2) := by decide +kernel
theorem dX5_may_17 : decode cX5_may 17 = .ok (.iload_n 2, 1) := by decide +kernel
theorem dX5_may_18 : decode cX5_may 18 = .ok (.invokevirtual 92, 3) := by decide +kernel
theorem dX5_may_21 : decode cX5_may 21 = .ok (.ifCond .ne 10, 3) := by decide +kernel
theorem dX5_may_24 : decode cX5_may 24 = .ok (.iconst 1, 1) := by decide +kernel
theorem dX5_may_25 : decode cX5_may 25 = .ok (.iload 4, 2) := by decide +kernel
theorem dX5_may_27 : decode cX5_may 27 = .ok (.ishl, 1) := by decide +kernel
theorem dX5_may_28 : decode cX5_may 28 = .ok (.goto 4, 3) := by decide +kernel
theorem dX5_may_31 : decode cX5_may 31 = .ok (.iconst 0, 1) := by decide +kernel
theorem dX5_may_32 : decode cX5_may 32 = .ok (.ior, 1) := by decide +kernel
theorem dX5_may_33 : decode cX5_may 33 = .ok (.istore_n 3, 1) := by decide +kernel
theorem dX5_may_34 : decode cX5_may 34 = .ok (.iinc 4 1, 3) := by decide +kernel
theorem dX5_may_37 : decode cX5_may 37 = .ok (.goto (-32), 3) := by decide +kernel
theorem dX5_may_40 : decode cX5_may 40 = .ok (.iload_n 3, 1) := by decide +kernel
theorem dX5_may_41 : decode cX5_may 41 = .ok (.ireturn, 1) := by decide +kernel
set_option maxRecDepth 20000 in
theorem ggX5_walker_X5_isWalker : GoodIn wsX5_walker wsX5_isWalker := goodIn_r _ [4, 5, 6, 3, 7] (by decide +kernel) (by decide +kernel)
set_option maxRecDepth 20000 in
theorem gX5_walker_X5_isWalker : GoodIn wsX5_walker (va_wsS RX5 67 yX5_isWalker wsX5_isWalker) := goodIn_app (goodIn_of _ (by decide +kernel)) ggX5_walker_X5_isWalker
set_option maxRecDepth 20000 in
theorem ggX5_walker_X5_ofWalker : GoodIn wsX5_walker wsX5_ofWalker := goodIn_r _ [11, 12, 45, 46, 47, 48, 49, 50, 51, 52, 53, 54] (by decide +kernel) (by decide +kernel)
set_option maxRecDepth 20000 in
theorem gX5_walker_X5_ofWalker : GoodIn wsX5_walker (wsV RX5 70 RX5 yX5_ofWalker wsX5_ofWalker) := goodIn_app (goodIn_of _ (by decide +kernel)) ggX5_walker_X5_ofWalker
set_option maxRecDepth 20000 in
theorem ggX5_walker_X5_permits : GoodIn wsX5_walker wsX5_permits := goodIn_r _ [16, 17, 18, 19, 3, 20, 12, 45, 46, 47, 48, 49, 50, 51, 52, 53, 54] (by decide +kernel) (by decide +kernel)
set_option maxRecDepth 20000 in
theorem gX5_walker_X5_permits : GoodIn wsX5_walker (wsV RX5 79 RX5 yX5_permits wsX5_permits) := goodIn_app (goodIn_of _ (by decide +kernel)) ggX5_walker_X5_permits
set_option maxRecDepth 20000 in
theorem ggX5_walker_X5_may : GoodIn wsX5_walker wsX5_may := goodIn_r _ [24, 25, 26, 27, 3, 28, 29, 30, 31, 32, 33, 34, 35, 36, 12, 17, 18, 19, 20, 37, 38, 39, 40, 41, 42, 43, 44, 45, 46, 47, 48, 49, 50, 51, 52, 53, 54] (by decide +kernel) (by decide +kernel)
set_option maxRecDepth 20000 in
theorem gX5_walker_X5_may : GoodIn wsX5_walker (wsV RX5 149 RX5 yX5_may wsX5_may) := goodIn_app (goodIn_of _ (by decide +kernel)) ggX5_walker_X5_may
theorem dX5_walker_0 : decode cX5_walker 0 = .ok (.iload_n 1, 1) := by decide +kernel
theorem dX5_walker_1 : decode cX5_walker 1 = .ok (.invokestatic 67, 3) := by decide +kernel
theorem dX5_walker_4 : decode cX5_walker 4 = .ok (.ifCond .ne 5, 3) := by decide +kernel
theorem dX5_walker_7 : decode cX5_walker 7 = .ok (.iconst (-1), 1) := by decide +kernel
theorem dX5_walker_8 : decode cX5_walker 8 = .ok (.ireturn, 1) := by decide +kernel
theorem dX5_walker_9 : decode cX5_walker 9 = .ok (.iload_n 2, 1) := by decide +kernel
theorem dX5_walker_10 : decode cX5_walker 10 = .ok (.tableswitch 63 0 5 #[38, 38, 38, 38, 45, 51], 38) := by decide +kernel
theorem dX5_walker_48 : decode cX5_walker 48 = .ok (.aload_n 0, 1) := by decide +kernel
theorem dX5_walker_49 : decode cX5_walker 49 = .ok (.iload_n 1, 1) := by decide +kernel
theorem dX5_walker_50 : decode cX5_walker 50 = .ok (.iload_n 2, 1) := by decide +kernel
theorem dX5_walker_51 : decode cX5_walker 51 = .ok (.invokevirtual 70, 3) := by decide +kernel
theorem dX5_walker_54 : decode cX5_walker 54 = .ok (.ireturn, 1) := by decide +kernel
theorem dX5_walker_55 : decode cX5_walker 55 = .ok (.aload_n 0, 1) := by decide +kernel
theorem dX5_walker_56 : decode cX5_walker 56 = .ok (.iload_n 1, 1) := by decide +kernel
theorem dX5_walker_57 : decode cX5_walker 57 = .ok (.invokevirtual 79, 3) := by decide +kernel
theorem dX5_walker_60 : decode cX5_walker 60 = .ok (.ireturn, 1) := by decide +kernel
theorem dX5_walker_61 : decode cX5_walker 61 = .ok (.aload_n 0, 1) := by decide +kernel
theorem dX5_walker_62 : decode cX5_walker 62 = .ok (.iload_n 1, 1) := by decide +kernel
theorem dX5_walker_63 : decode cX5_walker 63 = .ok (.aload_n 0, 1) := by decide +kernel
theorem dX5_walker_64 : decode cX5_walker 64 = .ok (.iload_n 1, 1) := by decide +kernel
theorem dX5_walker_65 : decode cX5_walker 65 = .ok (.iconst 0, 1) := by decide +kernel
theorem dX5_walker_66 : decode cX5_walker 66 = .ok (.invokevirtual 70, 3) := by decide +kernel
theorem dX5_walker_69 : decode cX5_walker 69 = .ok (.invokevirtual 149, 3) := by decide +kernel
theorem dX5_walker_72 : decode cX5_walker 72 = .ok (.ireturn, 1) := by decide +kernel
theorem dX5_walker_73 : decode cX5_walker 73 = .ok (.bipush (-2), 2) := by decide +kernel
theorem dX5_walker_75 : decode cX5_walker 75 = .ok (.ireturn, 1) := by decide +kernel
set_option maxRecDepth 20000 in
theorem ggX5_why_X5_isWalker : GoodIn wsX5_why wsX5_isWalker := goodIn_r _ [4, 5, 6, 3, 7] (by decide +kernel) (by decide +kernel)
set_option maxRecDepth 20000 in
theorem gX5_why_X5_isWalker : GoodIn wsX5_why (va_wsS RX5 67 yX5_isWalker wsX5_isWalker) := goodIn_app (goodIn_of _ (by decide +kernel)) ggX5_why_X5_isWalker
set_option maxRecDepth 20000 in
theorem ggX5_why_X5_isPuddle : GoodIn wsX5_why wsX5_isPuddle := goodIn_r _ [10, 5, 6, 3, 7] (by decide +kernel) (by decide +kernel)
set_option maxRecDepth 20000 in
theorem gX5_why_X5_isPuddle : GoodIn wsX5_why (va_wsS RX5 56 yX5_isPuddle wsX5_isPuddle) := goodIn_app (goodIn_of _ (by decide +kernel)) ggX5_why_X5_isPuddle
set_option maxRecDepth 20000 in
theorem ggX5_why_X5_reasonNow : GoodIn wsX5_why wsX5_reasonNow := goodIn_r _ [14, 15, 16, 17, 3, 18, 19, 20, 21, 22, 23, 24, 25, 26, 27, 28, 29, 30, 31, 32, 33, 34, 35, 36, 37, 38, 39, 40, 41, 42, 43, 44, 45, 46, 47, 48, 49, 50, 51, 52, 53] (by decide +kernel) (by decide +kernel)
set_option maxRecDepth 20000 in
theorem gX5_why_X5_reasonNow : GoodIn wsX5_why (wsV RX5 96 RX5 yX5_reasonNow wsX5_reasonNow) := goodIn_app (goodIn_of _ (by decide +kernel)) ggX5_why_X5_reasonNow
theorem dX5_why_0 : decode cX5_why 0 = .ok (.iload_n 1, 1) := by decide +kernel
theorem dX5_why_1 : decode cX5_why 1 = .ok (.invokestatic 67, 3) := by decide +kernel
theorem dX5_why_4 : decode cX5_why 4 = .ok (.ifCond .eq 19, 3) := by decide +kernel
theorem dX5_why_7 : decode cX5_why 7 = .ok (.iload_n 2, 1) := by decide +kernel
theorem dX5_why_8 : decode cX5_why 8 = .ok (.invokestatic 56, 3) := by decide +kernel
theorem dX5_why_11 : decode cX5_why 11 = .ok (.ifCond .eq 12, 3) := by decide +kernel
theorem dX5_why_14 : decode cX5_why 14 = .ok (.aload_n 0, 1) := by decide +kernel
theorem dX5_why_15 : decode cX5_why 15 = .ok (.iload_n 1, 1) := by decide +kernel
theorem dX5_why_16 : decode cX5_why 16 = .ok (.iload_n 2, 1) := by decide +kernel
theorem dX5_why_17 : decode cX5_why 17 = .ok (.invokevirtual 96, 3) := by decide +kernel
theorem dX5_why_20 : decode cX5_why 20 = .ok (.goto 4, 3) := by decide +kernel
theorem dX5_why_23 : decode cX5_why 23 = .ok (.iconst (-1), 1) := by decide +kernel
theorem dX5_why_24 : decode cX5_why 24 = .ok (.ireturn, 1) := by decide +kernel
set_option maxRecDepth 20000 in
theorem ggX5_holds_X5_isWalker : GoodIn wsX5_holds wsX5_isWalker := goodIn_r _ [4, 5, 6, 3, 7] (by decide +kernel) (by decide +kernel)
set_option maxRecDepth 20000 in
theorem gX5_holds_X5_isWalker : GoodIn wsX5_holds (va_wsS RX5 67 yX5_isWalker wsX5_isWalker) := goodIn_app (goodIn_of _ (by decide +kernel)) ggX5_holds_X5_isWalker
set_option maxRecDepth 20000 in
theorem ggX5_holds_X5_isPuddle : GoodIn wsX5_holds wsX5_isPuddle := goodIn_r _ [10, 5, 6, 3, 7] (by decide +kernel) (by decide +kernel)
set_option maxRecDepth 20000 in
theorem gX5_holds_X5_isPuddle : GoodIn wsX5_holds (va_wsS RX5 56 yX5_isPuddle wsX5_isPuddle) := goodIn_app (goodIn_of _ (by decide +kernel)) ggX5_holds_X5_isPuddle
set_option maxRecDepth 20000 in
theorem ggX5_holds_X5_days : GoodIn wsX5_holds wsX5_days := goodIn_r _ [14, 15, 16, 17, 18, 19, 20, 21, 22, 23, 24, 25] (by decide +kernel) (by decide +kernel)
set_option maxRecDepth 20000 in
theorem gX5_holds_X5_days : GoodIn wsX5_holds (wsV RX5 76 RX5 yX5_days wsX5_days) := goodIn_app (goodIn_of _ (by decide +kernel)) ggX5_holds_X5_days
theorem dX5_holds_0 : decode cX5_holds 0 = .ok (.iload_n 1, 1) := by decide +kernel
theorem dX5_holds_1 : decode cX5_holds 1 = .ok (.invokestatic 67, 3) := by decide +kernel
theorem dX5_holds_4 : decode cX5_holds 4 = .ok (.ifCond .eq 10, 3) := by decide +kernel
theorem dX5_holds_7 : decode cX5_holds 7 = .ok (.iload_n 2, 1) := by decide +kernel
theorem dX5_holds_8 : decode cX5_holds 8 = .ok (.invokestatic 56, 3) := by decide +kernel
theorem dX5_holds_11 : decode cX5_holds 11 = .ok (.ifCond .ne 5, 3) := by decide +kernel
theorem dX5_holds_14 : decode cX5_holds 14 = .ok (.iconst (-1), 1) := by decide +kernel
theorem dX5_holds_15 : decode cX5_holds 15 = .ok (.ireturn, 1) := by decide +kernel
theorem dX5_holds_16 : decode cX5_holds 16 = .ok (.aload_n 0, 1) := by decide +kernel
theorem dX5_holds_17 : decode cX5_holds 17 = .ok (.iload_n 1, 1) := by decide +kernel
theorem dX5_holds_18 : decode cX5_holds 18 = .ok (.iload_n 2, 1) := by decide +kernel
theorem dX5_holds_19 : decode cX5_holds 19 = .ok (.invokevirtual 76, 3) := by decide +kernel
theorem dX5_holds_22 : decode cX5_holds 22 = .ok (.ifCond .le 12, 3) := by decide +kernel
theorem dX5_holds_25 : decode cX5_holds 25 = .ok (.aload_n 0, 1) := by decide +kernel
theorem dX5_holds_26 : decode cX5_holds 26 = .ok (.iload_n 1, 1) := by decide +kernel
theorem dX5_holds_27 : decode cX5_holds 27 = .ok (.iload_n 2, 1) := by decide +kernel
theorem dX5_holds_28 : decode cX5_holds 28 = .ok (.invokevirtual 76, 3) := by decide +kernel
theorem dX5_holds_31 : decode cX5_holds 31 = .ok (.goto 5, 3) := by decide +kernel
theorem dX5_holds_34 : decode cX5_holds 34 = .ok (.bipush (-6), 2) := by decide +kernel
theorem dX5_holds_36 : decode cX5_holds 36 = .ok (.ireturn, 1) := by decide +kernel
set_option maxRecDepth 20000 in
theorem ggX5_puddlesWith_X5_of : GoodIn wsX5_puddlesWith wsX5_of := goodIn_r _ [5, 6, 7, 8, 9, 10, 11, 12, 13, 14, 15, 16] (by decide +kernel) (by decide +kernel)
set_option maxRecDepth 20000 in
theorem gX5_puddlesWith_X5_of : GoodIn wsX5_puddlesWith (wsV RX5 37 RX5 yX5_of wsX5_of) := goodIn_app (goodIn_of _ (by decide +kernel)) ggX5_puddlesWith_X5_of
theorem dX5_puddlesWith_0 : decode cX5_puddlesWith 0 = .ok (.iconst 0, 1) := by decide +kernel
theorem dX5_puddlesWith_1 : decode cX5_puddlesWith 1 = .ok (.istore_n 2, 1) := by decide +kernel
theorem dX5_puddlesWith_2 : decode cX5_puddlesWith 2 = .ok (.iconst 0, 1) := by decide +kernel
theorem dX5_puddlesWith_3 : decode cX5_puddlesWith 3 = .ok (.istore_n 3, 1) := by decide +kernel
theorem dX5_puddlesWith_4 : decode cX5_puddlesWith 4 = .ok (.iload_n 3, 1) := by decide +kernel
theorem dX5_puddlesWith_5 : decode cX5_puddlesWith 5 = .ok (.bipush 12, 2) := by decide +kernel
theorem dX5_puddlesWith_7 : decode cX5_puddlesWith 7 = .ok (.if_icmp .ge 20, 3) := by decide +kernel
theorem dX5_puddlesWith_10 : decode cX5_puddlesWith 10 = .ok (.iload_n 2, 1) := by decide +kernel
theorem dX5_puddlesWith_11 : decode cX5_puddlesWith 11 = .ok (.aload_n 0, 1) := by decide +kernel
theorem dX5_puddlesWith_12 : decode cX5_puddlesWith 12 = .ok (.iload_n 3, 1) := by decide +kernel
theorem dX5_puddlesWith_13 : decode cX5_puddlesWith 13 = .ok (.iload_n 1, 1) := by decide +kernel
theorem dX5_puddlesWith_14 : decode cX5_puddlesWith 14 = .ok (.invokevirtual 37, 3) := by decide +kernel
theorem dX5_puddlesWith_17 : decode cX5_puddlesWith 17 = .ok (.iload_n 3, 1) := by decide +kernel
theorem dX5_puddlesWith_18 : decode cX5_puddlesWith 18 = .ok (.ishl, 1) := by decide +kernel
theorem dX5_puddlesWith_19 : decode cX5_puddlesWith 19 = .ok (.ior, 1) := by decide +kernel
theorem dX5_puddlesWith_20 : decode cX5_puddlesWith 20 = .ok (.istore_n 2, 1) := by decide +kernel
theorem dX5_puddlesWith_21 : decode cX5_puddlesWith 21 = .ok (.iinc 3 1, 3) := by decide +kernel
theorem dX5_puddlesWith_24 : decode cX5_puddlesWith 24 = .ok (.goto (-20), 3) := by decide +kernel
theorem dX5_puddlesWith_27 : decode cX5_puddlesWith 27 = .ok (.iload_n 2, 1) := by decide +kernel
theorem dX5_puddlesWith_28 : decode cX5_puddlesWith 28 = .ok (.ireturn, 1) := by decide +kernel
set_option maxRecDepth 20000 in
theorem ggX5_allPermits_X5_permits : GoodIn wsX5_allPermits wsX5_permits := goodIn_r _ [5, 6, 7, 8, 4, 9, 10, 14, 15, 16, 17, 18, 19, 20, 21, 22, 23] (by decide +kernel) (by decide +kernel)
set_option maxRecDepth 20000 in
theorem gX5_allPermits_X5_permits : GoodIn wsX5_allPermits (wsV RX5 79 RX5 yX5_permits wsX5_permits) := goodIn_app (goodIn_of _ (by decide +kernel)) ggX5_allPermits_X5_permits
set_option maxRecDepth 20000 in
theorem ggX5_allPermits_X5_size : GoodIn wsX5_allPermits wsX5_size := goodIn_r _ [13] (by decide +kernel) (by decide +kernel)
set_option maxRecDepth 20000 in
theorem gX5_allPermits_X5_size : GoodIn wsX5_allPermits (va_wsS RX5 83 yX5_size wsX5_size) := goodIn_app (goodIn_of _ (by decide +kernel)) ggX5_allPermits_X5_size
theorem dX5_allPermits_0 : decode cX5_allPermits 0 = .ok (.iconst 0, 1) := by decide +kernel
theorem dX5_allPermits_1 : decode cX5_allPermits 1 = .ok (.istore_n 1, 1) := by decide +kernel
theorem dX5_allPermits_2 : decode cX5_allPermits 2 = .ok (.iconst 0, 1) := by decide +kernel
theorem dX5_allPermits_3 : decode cX5_allPermits 3 = .ok (.istore_n 2, 1) := by decide +kernel
theorem dX5_allPermits_4 : decode cX5_allPermits 4 = .ok (.iload_n 2, 1) := by decide +kernel
theorem dX5_allPermits_5 : decode cX5_allPermits 5 = .ok (.bipush 6, 2) := by decide +kernel
theorem dX5_allPermits_7 : decode cX5_allPermits 7 = .ok (.if_icmp .ge 20, 3) := by decide +kernel
theorem dX5_allPermits_10 : decode cX5_allPermits 10 = .ok (.iload_n 1, 1) := by decide +kernel
theorem dX5_allPermits_11 : decode cX5_allPermits 11 = .ok (.aload_n 0, 1) := by decide +kernel
theorem dX5_allPermits_12 : decode cX5_allPermits 12 = .ok (.iload_n 2, 1) := by decide +kernel
theorem dX5_allPermits_13 : decode cX5_allPermits 13 = .ok (.invokevirtual 79, 3) := by decide +kernel
theorem dX5_allPermits_16 : decode cX5_allPermits 16 = .ok (.invokestatic 83, 3) := by decide +kernel
theorem dX5_allPermits_19 : decode cX5_allPermits 19 = .ok (.iadd, 1) := by decide +kernel
theorem dX5_allPermits_20 : decode cX5_allPermits 20 = .ok (.istore_n 1, 1) := by decide +kernel
theorem dX5_allPermits_21 : decode cX5_allPermits 21 = .ok (.iinc 2 1, 3) := by decide +kernel
theorem dX5_allPermits_24 : decode cX5_allPermits 24 = .ok (.goto (-20), 3) := by decide +kernel
theorem dX5_allPermits_27 : decode cX5_allPermits 27 = .ok (.iload_n 1, 1) := by decide +kernel
theorem dX5_allPermits_28 : decode cX5_allPermits 28 = .ok (.ireturn, 1) := by decide +kernel
set_option maxRecDepth 20000 in
theorem ggX5_sumOfWalkers_X5_ofWalker : GoodIn wsX5_sumOfWalkers wsX5_ofWalker := goodIn_r _ [5, 6, 7, 8, 9, 10, 11, 12, 13, 14, 15, 16] (by decide +kernel) (by decide +kernel)
set_option maxRecDepth 20000 in
theorem gX5_sumOfWalkers_X5_ofWalker : GoodIn wsX5_sumOfWalkers (wsV RX5 70 RX5 yX5_ofWalker wsX5_ofWalker) := goodIn_app (goodIn_of _ (by decide +kernel)) ggX5_sumOfWalkers_X5_ofWalker
theorem dX5_sumOfWalkers_0 : decode cX5_sumOfWalkers 0 = .ok (.iconst 0, 1) := by decide +kernel
theorem dX5_sumOfWalkers_1 : decode cX5_sumOfWalkers 1 = .ok (.istore_n 2, 1) := by decide +kernel
theorem dX5_sumOfWalkers_2 : decode cX5_sumOfWalkers 2 = .ok (.iconst 0, 1) := by decide +kernel
theorem dX5_sumOfWalkers_3 : decode cX5_sumOfWalkers 3 = .ok (.istore_n 3, 1) := by decide +kernel
theorem dX5_sumOfWalkers_4 : decode cX5_sumOfWalkers 4 = .ok (.iload_n 3, 1) := by decide +kernel
theorem dX5_sumOfWalkers_5 : decode cX5_sumOfWalkers 5 = .ok (.bipush 6, 2) := by decide +kernel
theorem dX5_sumOfWalkers_7 : decode cX5_sumOfWalkers 7 = .ok (.if_icmp .ge 18, 3) := by decide +kernel
theorem dX5_sumOfWalkers_10 : decode cX5_sumOfWalkers 10 = .ok (.iload_n 2, 1) := by decide +kernel
theorem dX5_sumOfWalkers_11 : decode cX5_sumOfWalkers 11 = .ok (.aload_n 0, 1) := by decide +kernel
theorem dX5_sumOfWalkers_12 : decode cX5_sumOfWalkers 12 = .ok (.iload_n 3, 1) := by decide +kernel
theorem dX5_sumOfWalkers_13 : decode cX5_sumOfWalkers 13 = .ok (.iload_n 1, 1) := by decide +kernel
theorem dX5_sumOfWalkers_14 : decode cX5_sumOfWalkers 14 = .ok (.invokevirtual 70, 3) := by decide +kernel
theorem dX5_sumOfWalkers_17 : decode cX5_sumOfWalkers 17 = .ok (.iadd, 1) := by decide +kernel
theorem dX5_sumOfWalkers_18 : decode cX5_sumOfWalkers 18 = .ok (.istore_n 2, 1) := by decide +kernel
theorem dX5_sumOfWalkers_19 : decode cX5_sumOfWalkers 19 = .ok (.iinc 3 1, 3) := by decide +kernel
theorem dX5_sumOfWalkers_22 : decode cX5_sumOfWalkers 22 = .ok (.goto (-18), 3) := by decide +kernel
theorem dX5_sumOfWalkers_25 : decode cX5_sumOfWalkers 25 = .ok (.iload_n 2, 1) := by decide +kernel
theorem dX5_sumOfWalkers_26 : decode cX5_sumOfWalkers 26 = .ok (.ireturn, 1) := by decide +kernel
set_option maxRecDepth 20000 in
theorem ggX5_count_X5_water : GoodIn wsX5_count wsX5_water := goodIn_r _ [8, 9, 10, 11, 7, 12, 1, 40, 41, 42, 43, 44, 45, 46, 47, 48, 49] (by decide +kernel) (by decide +kernel)
set_option maxRecDepth 20000 in
theorem gX5_count_X5_water : GoodIn wsX5_count (wsV RX5 124 RX5 yX5_water wsX5_water) := goodIn_app (goodIn_of _ (by decide +kernel)) ggX5_count_X5_water
set_option maxRecDepth 20000 in
theorem ggX5_count_X5_puddlesWith : GoodIn wsX5_count wsX5_puddlesWith := goodIn_r _ [16, 9, 10, 11, 7, 12, 1, 40, 41, 42, 43, 44, 45, 46, 47, 48, 49] (by decide +kernel) (by decide +kernel)
set_option maxRecDepth 20000 in
theorem gX5_count_X5_puddlesWith : GoodIn wsX5_count (wsV RX5 152 RX5 yX5_puddlesWith wsX5_puddlesWith) := goodIn_app (goodIn_of _ (by decide +kernel)) ggX5_count_X5_puddlesWith
set_option maxRecDepth 20000 in
theorem ggX5_count_X5_allPermits : GoodIn wsX5_count wsX5_allPermits := goodIn_r _ [20, 21, 22, 23, 7, 24, 25, 26, 27, 28, 1, 29, 30, 31, 40, 41, 42, 43, 44, 45, 46, 47, 48, 49] (by decide +kernel) (by decide +kernel)
set_option maxRecDepth 20000 in
theorem gX5_count_X5_allPermits : GoodIn wsX5_count (wsV RX5 155 RX5 yX5_allPermits wsX5_allPermits) := goodIn_app (goodIn_of _ (by decide +kernel)) ggX5_count_X5_allPermits
set_option maxRecDepth 20000 in
theorem ggX5_count_X5_sumOfWalkers : GoodIn wsX5_count wsX5_sumOfWalkers := goodIn_r _ [35, 36, 37, 38, 7, 39, 1, 40, 41, 42, 43, 44, 45, 46, 47, 48, 49] (by decide +kernel) (by decide +kernel)
set_option maxRecDepth 20000 in
theorem gX5_count_X5_sumOfWalkers : GoodIn wsX5_count (wsV RX5 158 RX5 yX5_sumOfWalkers wsX5_sumOfWalkers) := goodIn_app (goodIn_of _ (by decide +kernel)) ggX5_count_X5_sumOfWalkers
theorem dX5_count_0 : decode cX5_count 0 = .ok (.iload_n 1, 1) := by decide +kernel
theorem dX5_count_1 : decode cX5_count 1 = .ok (.tableswitch 140 0 15 #[79, 79, 79, 79, 79, 86, 91, 91, 91, 103, 103, 114, 119, 119, 130, 135], 79) := by decide +kernel
theorem dX5_count_80 : decode cX5_count 80 = .ok (.aload_n 0, 1) := by decide +kernel
theorem dX5_count_81 : decode cX5_count 81 = .ok (.getfield 7, 3) := by decide +kernel
theorem dX5_count_84 : decode cX5_count 84 = .ok (.iload_n 1, 1) := by decide +kernel
theorem dX5_count_85 : decode cX5_count 85 = .ok (.iaload, 1) := by decide +kernel
theorem dX5_count_86 : decode cX5_count 86 = .ok (.ireturn, 1) := by decide +kernel
theorem dX5_count_87 : decode cX5_count 87 = .ok (.aload_n 0, 1) := by decide +kernel
theorem dX5_count_88 : decode cX5_count 88 = .ok (.invokevirtual 124, 3) := by decide +kernel
theorem dX5_count_91 : decode cX5_count 91 = .ok (.ireturn, 1) := by decide +kernel
theorem dX5_count_92 : decode cX5_count 92 = .ok (.aload_n 0, 1) := by decide +kernel
theorem dX5_count_93 : decode cX5_count 93 = .ok (.getfield 7, 3) := by decide +kernel
theorem dX5_count_96 : decode cX5_count 96 = .ok (.iconst 5, 1) := by decide +kernel
theorem dX5_count_97 : decode cX5_count 97 = .ok (.iload_n 1, 1) := by decide +kernel
theorem dX5_count_98 : decode cX5_count 98 = .ok (.iadd, 1) := by decide +kernel
theorem dX5_count_99 : decode cX5_count 99 = .ok (.bipush 6, 2) := by decide +kernel
theorem dX5_count_101 : decode cX5_count 101 = .ok (.isub, 1) := by decide +kernel
theorem dX5_count_102 : decode cX5_count 102 = .ok (.iaload, 1) := by decide +kernel
theorem dX5_count_103 : decode cX5_count 103 = .ok (.ireturn, 1) := by decide +kernel
theorem dX5_count_104 : decode cX5_count 104 = .ok (.aload_n 0, 1) := by decide +kernel
theorem dX5_count_105 : decode cX5_count 105 = .ok (.iconst 2, 1) := by decide +kernel
theorem dX5_count_106 : decode cX5_count 106 = .ok (.iload_n 1, 1) := by decide +kernel
theorem dX5_count_107 : decode cX5_count 107 = .ok (.iadd, 1) := by decide +kernel
theorem dX5_count_108 : decode cX5_count 108 = .ok (.bipush 9, 2) := by decide +kernel
theorem dX5_count_110 : decode cX5_count 110 = .ok (.isub, 1) := by decide +kernel
theorem dX5_count_111 : decode cX5_count 111 = .ok (.invokevirtual 152, 3) := by decide +kernel
theorem dX5_count_114 : decode cX5_count 114 = .ok (.ireturn, 1) := by decide +kernel
theorem dX5_count_115 : decode cX5_count 115 = .ok (.aload_n 0, 1) := by decide +kernel
theorem dX5_count_116 : decode cX5_count 116 = .ok (.invokevirtual 155, 3) := by decide +kernel
theorem dX5_count_119 : decode cX5_count 119 = .ok (.ireturn, 1) := by decide +kernel
theorem dX5_count_120 : decode cX5_count 120 = .ok (.aload_n 0, 1) := by decide +kernel
theorem dX5_count_121 : decode cX5_count 121 = .ok (.iconst 1, 1) := by decide +kernel
theorem dX5_count_122 : decode cX5_count 122 = .ok (.iload_n 1, 1) := by decide +kernel
theorem dX5_count_123 : decode cX5_count 123 = .ok (.iadd, 1) := by decide +kernel
theorem dX5_count_124 : decode cX5_count 124 = .ok (.bipush 12, 2) := by decide +kernel
theorem dX5_count_126 : decode cX5_count 126 = .ok (.isub, 1) := by decide +kernel
theorem dX5_count_127 : decode cX5_count 127 = .ok (.invokevirtual 158, 3) := by decide +kernel
theorem dX5_count_130 : decode cX5_count 130 = .ok (.ireturn, 1) := by decide +kernel
theorem dX5_count_131 : decode cX5_count 131 = .ok (.aload_n 0, 1) := by decide +kernel
theorem dX5_count_132 : decode cX5_count 132 = .ok (.getfield 130, 3) := by decide +kernel
theorem dX5_count_135 : decode cX5_count 135 = .ok (.ireturn, 1) := by decide +kernel
theorem dX5_count_136 : decode cX5_count 136 = .ok (.aload_n 0, 1) := by decide +kernel
theorem dX5_count_137 : decode cX5_count 137 = .ok (.getfield 41, 3) := by decide +kernel
theorem dX5_count_140 : decode cX5_count 140 = .ok (.ireturn, 1) := by decide +kernel
theorem dX5_count_141 : decode cX5_count 141 = .ok (.bipush (-2), 2) := by decide +kernel
theorem dX5_count_143 : decode cX5_count 143 = .ok (.ireturn, 1) := by decide +kernel
set_option maxRecDepth 20000 in
theorem ggX5_cost_X5_isWalker : GoodIn wsX5_cost wsX5_isWalker := goodIn_r _ [4, 5, 6, 3, 7] (by decide +kernel) (by decide +kernel)
set_option maxRecDepth 20000 in
theorem gX5_cost_X5_isWalker : GoodIn wsX5_cost (va_wsS RX5 67 yX5_isWalker wsX5_isWalker) := goodIn_app (goodIn_of _ (by decide +kernel)) ggX5_cost_X5_isWalker
set_option maxRecDepth 20000 in
theorem ggX5_cost_X5_isPuddle : GoodIn wsX5_cost wsX5_isPuddle := goodIn_r _ [10, 5, 6, 3, 7] (by decide +kernel) (by decide +kernel)
set_option maxRecDepth 20000 in
theorem gX5_cost_X5_isPuddle : GoodIn wsX5_cost (va_wsS RX5 56 yX5_isPuddle wsX5_isPuddle) := goodIn_app (goodIn_of _ (by decide +kernel)) ggX5_cost_X5_isPuddle
set_option maxRecDepth 20000 in
theorem ggX5_cost_X5_in : GoodIn wsX5_cost wsX5_in := goodIn_r _ [7] (by decide +kernel) (by decide +kernel)
set_option maxRecDepth 20000 in
theorem gX5_cost_X5_in : GoodIn wsX5_cost (va_wsS RX5 33 yX5_in wsX5_in) := goodIn_app (goodIn_of _ (by decide +kernel)) ggX5_cost_X5_in
set_option maxRecDepth 20000 in
theorem ggX5_cost_X5_allowed : GoodIn wsX5_cost wsX5_allowed := goodIn_r _ [14, 15, 16, 17, 3, 18, 19, 20, 21, 22, 23, 24, 25, 26, 27, 28, 29, 30, 31, 32, 33, 34, 35, 36, 37, 38, 39, 40, 41, 42, 43, 44, 45, 46, 47, 56, 57, 58, 59, 60, 61, 62, 63, 64, 65] (by decide +kernel) (by decide +kernel)
set_option maxRecDepth 20000 in
theorem gX5_cost_X5_allowed : GoodIn wsX5_cost (wsV RX5 102 RX5 yX5_allowed wsX5_allowed) := goodIn_app (goodIn_of _ (by decide +kernel)) ggX5_cost_X5_allowed
set_option maxRecDepth 20000 in
theorem ggX5_cost_X5_duties : GoodIn wsX5_cost wsX5_duties := goodIn_r _ [51, 52, 53, 54, 3, 55, 23, 40, 41, 42, 43, 32, 33, 34, 35, 44, 45, 46, 47, 56, 57, 58, 59, 60, 61, 62, 63, 64, 65] (by decide +kernel) (by decide +kernel)
set_option maxRecDepth 20000 in
theorem gX5_cost_X5_duties : GoodIn wsX5_cost (wsV RX5 105 RX5 yX5_duties wsX5_duties) := goodIn_app (goodIn_of _ (by decide +kernel)) ggX5_cost_X5_duties
theorem dX5_cost_0 : decode cX5_cost 0 = .ok (.iload_n 1, 1) := by decide +kernel
theorem dX5_cost_1 : decode cX5_cost 1 = .ok (.invokestatic 67, 3) := by decide +kernel
theorem dX5_cost_4 : decode cX5_cost 4 = .ok (.ifCond .eq 17, 3) := by decide +kernel
theorem dX5_cost_7 : decode cX5_cost 7 = .ok (.iload_n 2, 1) := by decide +kernel
theorem dX5_cost_8 : decode cX5_cost 8 = .ok (.invokestatic 56, 3) := by decide +kernel
theorem dX5_cost_11 : decode cX5_cost 11 = .ok (.ifCond .eq 10, 3) := by decide +kernel
theorem dX5_cost_14 : decode cX5_cost 14 = .ok (.iload_n 3, 1) := by decide +kernel
theorem dX5_cost_15 : decode cX5_cost 15 = .ok (.invokestatic 56, 3) := by decide +kernel
theorem dX5_cost_18 : decode cX5_cost 18 = .ok (.ifCond .ne 5, 3) := by decide +kernel
theorem dX5_cost_21 : decode cX5_cost 21 = .ok (.iconst (-1), 1) := by decide +kernel
theorem dX5_cost_22 : decode cX5_cost 22 = .ok (.ireturn, 1) := by decide +kernel
theorem dX5_cost_23 : decode cX5_cost 23 = .ok (.iload 4, 2) := by decide +kernel
theorem dX5_cost_25 : decode cX5_cost 25 = .ok (.iconst 0, 1) := by decide +kernel
theorem dX5_cost_26 : decode cX5_cost 26 = .ok (.iconst 1, 1) := by decide +kernel
theorem dX5_cost_27 : decode cX5_cost 27 = .ok (.invokestatic 33, 3) := by decide +kernel
theorem dX5_cost_30 : decode cX5_cost 30 = .ok (.ifCond .eq 19, 3) := by decide +kernel
theorem dX5_cost_33 : decode cX5_cost 33 = .ok (.aload_n 0, 1) := by decide +kernel
theorem dX5_cost_34 : decode cX5_cost 34 = .ok (.iload_n 2, 1) := by decide +kernel
theorem dX5_cost_35 : decode cX5_cost 35 = .ok (.iload_n 3, 1) := by decide +kernel
theorem dX5_cost_36 : decode cX5_cost 36 = .ok (.aload_n 0, 1) := by decide +kernel
theorem dX5_cost_37 : decode cX5_cost 37 = .ok (.iload_n 1, 1) := by decide +kernel
theorem dX5_cost_38 : decode cX5_cost 38 = .ok (.iload_n 2, 1) := by decide +kernel
theorem dX5_cost_39 : decode cX5_cost 39 = .ok (.iload_n 3, 1) := by decide +kernel
theorem dX5_cost_40 : decode cX5_cost 40 = .ok (.invokevirtual 102, 3) := by decide +kernel
theorem dX5_cost_43 : decode cX5_cost 43 = .ok (.invokevirtual 105, 3) := by decide +kernel
theorem dX5_cost_46 : decode cX5_cost 46 = .ok (.goto 5, 3) := by decide +kernel
theorem dX5_cost_49 : decode cX5_cost 49 = .ok (.bipush (-2), 2) := by decide +kernel
theorem dX5_cost_51 : decode cX5_cost 51 = .ok (.ireturn, 1) := by decide +kernel
set_option maxRecDepth 20000 in
theorem ggX5_untilDry_X5_isPuddle : GoodIn wsX5_untilDry wsX5_isPuddle := goodIn_r _ [5, 6, 7, 4, 8] (by decide +kernel) (by decide +kernel)
set_option maxRecDepth 20000 in
theorem gX5_untilDry_X5_isPuddle : GoodIn wsX5_untilDry (va_wsS RX5 56 yX5_isPuddle wsX5_isPuddle) := goodIn_app (goodIn_of _ (by decide +kernel)) ggX5_untilDry_X5_isPuddle
set_option maxRecDepth 20000 in
theorem ggX5_untilDry_X5_of : GoodIn wsX5_untilDry wsX5_of := goodIn_r _ [12, 1, 13, 14, 15, 16, 17, 18, 19, 20, 21, 22] (by decide +kernel) (by decide +kernel)
set_option maxRecDepth 20000 in
theorem gX5_untilDry_X5_of : GoodIn wsX5_untilDry (wsV RX5 37 RX5 yX5_of wsX5_of) := goodIn_app (goodIn_of _ (by decide +kernel)) ggX5_untilDry_X5_of
theorem dX5_untilDry_0 : decode cX5_untilDry 0 = .ok (.iload_n 1, 1) := by decide +kernel
theorem dX5_untilDry_1 : decode cX5_untilDry 1 = .ok (.invokestatic 56, 3) := by decide +kernel
theorem dX5_untilDry_4 : decode cX5_untilDry 4 = .ok (.ifCond .ne 5, 3) := by decide +kernel
theorem dX5_untilDry_7 : decode cX5_untilDry 7 = .ok (.iconst (-1), 1) := by decide +kernel
theorem dX5_untilDry_8 : decode cX5_untilDry 8 = .ok (.ireturn, 1) := by decide +kernel
theorem dX5_untilDry_9 : decode cX5_untilDry 9 = .ok (.aload_n 0, 1) := by decide +kernel
theorem dX5_untilDry_10 : decode cX5_untilDry 10 = .ok (.iload_n 1, 1) := by decide +kernel
theorem dX5_untilDry_11 : decode cX5_untilDry 11 = .ok (.iconst 1, 1) := by decide +kernel
theorem dX5_untilDry_12 : decode cX5_untilDry 12 = .ok (.invokevirtual 37, 3) := by decide +kernel
theorem dX5_untilDry_15 : decode cX5_untilDry 15 = .ok (.istore_n 2, 1) := by decide +kernel
theorem dX5_untilDry_16 : decode cX5_untilDry 16 = .ok (.iload_n 2, 1) := by decide +kernel
theorem dX5_untilDry_17 : decode cX5_untilDry 17 = .ok (.ifCond .ne 5, 3) := by decide +kernel
theorem dX5_untilDry_20 : decode cX5_untilDry 20 = .ok (.iconst 0, 1) := by decide +kernel
theorem dX5_untilDry_21 : decode cX5_untilDry 21 = .ok (.ireturn, 1) := by decide +kernel
theorem dX5_untilDry_22 : decode cX5_untilDry 22 = .ok (.aload_n 0, 1) := by decide +kernel
theorem dX5_untilDry_23 : decode cX5_untilDry 23 = .ok (.getfield 7, 3) := by decide +kernel
theorem dX5_untilDry_26 : decode cX5_untilDry 26 = .ok (.iconst 1, 1) := by decide +kernel
theorem dX5_untilDry_27 : decode cX5_untilDry 27 = .ok (.iaload, 1) := by decide +kernel
theorem dX5_untilDry_28 : decode cX5_untilDry 28 = .ok (.ifCond .ne 8, 3) := by decide +kernel
theorem dX5_untilDry_31 : decode cX5_untilDry 31 = .ok (.bipush (-6), 2) := by decide +kernel
theorem dX5_untilDry_33 : decode cX5_untilDry 33 = .ok (.goto 27, 3) := by decide +kernel
theorem dX5_untilDry_36 : decode cX5_untilDry 36 = .ok (.aload_n 0, 1) := by decide +kernel
theorem dX5_untilDry_37 : decode cX5_untilDry 37 = .ok (.iload_n 1, 1) := by decide +kernel
theorem dX5_untilDry_38 : decode cX5_untilDry 38 = .ok (.iconst 2, 1) := by decide +kernel
theorem dX5_untilDry_39 : decode cX5_untilDry 39 = .ok (.invokevirtual 37, 3) := by decide +kernel
theorem dX5_untilDry_42 : decode cX5_untilDry 42 = .ok (.iload_n 2, 1) := by decide +kernel
theorem dX5_untilDry_43 : decode cX5_untilDry 43 = .ok (.aload_n 0, 1) := by decide +kernel
theorem dX5_untilDry_44 : decode cX5_untilDry 44 = .ok (.getfield 7, 3) := by decide +kernel
theorem dX5_untilDry_47 : decode cX5_untilDry 47 = .ok (.iconst 1, 1) := by decide +kernel
theorem dX5_untilDry_48 : decode cX5_untilDry 48 = .ok (.iaload, 1) := by decide +kernel
theorem dX5_untilDry_49 : decode cX5_untilDry 49 = .ok (.iadd, 1) := by decide +kernel
theorem dX5_untilDry_50 : decode cX5_untilDry 50 = .ok (.iconst 1, 1) := by decide +kernel
theorem dX5_untilDry_51 : decode cX5_untilDry 51 = .ok (.isub, 1) := by decide +kernel
theorem dX5_untilDry_52 : decode cX5_untilDry 52 = .ok (.aload_n 0, 1) := by decide +kernel
theorem dX5_untilDry_53 : decode cX5_untilDry 53 = .ok (.getfield 7, 3) := by decide +kernel
theorem dX5_untilDry_56 : decode cX5_untilDry 56 = .ok (.iconst 1, 1) := by decide +kernel
theorem dX5_untilDry_57 : decode cX5_untilDry 57 = .ok (.iaload, 1) := by decide +kernel
theorem dX5_untilDry_58 : decode cX5_untilDry 58 = .ok (.idiv, 1) := by decide +kernel
theorem dX5_untilDry_59 : decode cX5_untilDry 59 = .ok (.iadd, 1) := by decide +kernel
theorem dX5_untilDry_60 : decode cX5_untilDry 60 = .ok (.ireturn, 1) := by decide +kernel
set_option maxRecDepth 20000 in
theorem ggX5_leastShoes_X5_isWalker : GoodIn wsX5_leastShoes wsX5_isWalker := goodIn_r _ [4, 5, 6, 3, 7] (by decide +kernel) (by decide +kernel)
set_option maxRecDepth 20000 in
theorem gX5_leastShoes_X5_isWalker : GoodIn wsX5_leastShoes (va_wsS RX5 67 yX5_isWalker wsX5_isWalker) := goodIn_app (goodIn_of _ (by decide +kernel)) ggX5_leastShoes_X5_isWalker
set_option maxRecDepth 20000 in
theorem ggX5_leastShoes_X5_may : GoodIn wsX5_leastShoes wsX5_may := goodIn_r _ [11, 12, 13, 14, 3, 15, 16, 17, 18, 19, 20, 21, 22, 23, 24, 25, 26, 27, 28, 29, 30, 31, 32, 33, 34, 35, 36, 37, 38, 39, 40, 41, 42, 43, 44, 45, 46] (by decide +kernel) (by decide +kernel)
set_option maxRecDepth 20000 in
theorem gX5_leastShoes_X5_may : GoodIn wsX5_leastShoes (wsV RX5 149 RX5 yX5_may wsX5_may) := goodIn_app (goodIn_of _ (by decide +kernel)) ggX5_leastShoes_X5_may
theorem dX5_leastShoes_0 : decode cX5_leastShoes 0 = .ok (.iload_n 1, 1) := by decide +kernel
theorem dX5_leastShoes_1 : decode cX5_leastShoes 1 = .ok (.invokestatic 67, 3) := by decide +kernel
theorem dX5_leastShoes_4 : decode cX5_leastShoes 4 = .ok (.ifCond .ne 5, 3) := by decide +kernel
theorem dX5_leastShoes_7 : decode cX5_leastShoes 7 = .ok (.iconst (-1), 1) := by decide +kernel
theorem dX5_leastShoes_8 : decode cX5_leastShoes 8 = .ok (.ireturn, 1) := by decide +kernel
theorem dX5_leastShoes_9 : decode cX5_leastShoes 9 = .ok (.bipush (-6), 2) := by decide +kernel
theorem dX5_leastShoes_11 : decode cX5_leastShoes 11 = .ok (.istore_n 2, 1) := by decide +kernel
theorem dX5_leastShoes_12 : decode cX5_leastShoes 12 = .ok (.iconst 3, 1) := by decide +kernel
theorem dX5_leastShoes_13 : decode cX5_leastShoes 13 = .ok (.istore_n 3, 1) := by decide +kernel
theorem dX5_leastShoes_14 : decode cX5_leastShoes 14 = .ok (.iload_n 3, 1) := by decide +kernel
theorem dX5_leastShoes_15 : decode cX5_leastShoes 15 = .ok (.ifCond .lt 27, 3) := by decide +kernel
theorem dX5_leastShoes_18 : decode cX5_leastShoes 18 = .ok (.aload_n 0, 1) := by decide +kernel
theorem dX5_leastShoes_19 : decode cX5_leastShoes 19 = .ok (.iload_n 1, 1) := by decide +kernel
theorem dX5_leastShoes_20 : decode cX5_leastShoes 20 = .ok (.iload_n 3, 1) := by decide +kernel
theorem dX5_leastShoes_21 : decode cX5_leastShoes 21 = .ok (.invokevirtual 149, 3) := by decide +kernel
theorem dX5_leastShoes_24 : decode cX5_leastShoes 24 = .ok (.sipush 4095, 3) := by decide +kernel
theorem dX5_leastShoes_27 : decode cX5_leastShoes 27 = .ok (.if_icmp .ne 7, 3) := by decide +kernel
theorem dX5_leastShoes_30 : decode cX5_leastShoes 30 = .ok (.iload_n 3, 1) := by decide +kernel
theorem dX5_leastShoes_31 : decode cX5_leastShoes 31 = .ok (.goto 4, 3) := by decide +kernel
theorem dX5_leastShoes_34 : decode cX5_leastShoes 34 = .ok (.iload_n 2, 1) := by decide +kernel
theorem dX5_leastShoes_35 : decode cX5_leastShoes 35 = .ok (.istore_n 2, 1) := by decide +kernel
theorem dX5_leastShoes_36 : decode cX5_leastShoes 36 = .ok (.iinc 3 (-1), 3) := by decide +kernel
theorem dX5_leastShoes_39 : decode cX5_leastShoes 39 = .ok (.goto (-25), 3) := by decide +kernel
theorem dX5_leastShoes_42 : decode cX5_leastShoes 42 = .ok (.iload_n 2, 1) := by decide +kernel
theorem dX5_leastShoes_43 : decode cX5_leastShoes 43 = .ok (.ireturn, 1) := by decide +kernel
set_option maxRecDepth 20000 in
theorem ggX5_longestWalk_X5_isWalker : GoodIn wsX5_longestWalk wsX5_isWalker := goodIn_r _ [4, 5, 6, 3, 7] (by decide +kernel) (by decide +kernel)
set_option maxRecDepth 20000 in
theorem gX5_longestWalk_X5_isWalker : GoodIn wsX5_longestWalk (va_wsS RX5 67 yX5_isWalker wsX5_isWalker) := goodIn_app (goodIn_of _ (by decide +kernel)) ggX5_longestWalk_X5_isWalker
set_option maxRecDepth 20000 in
theorem ggX5_longestWalk_X5_in : GoodIn wsX5_longestWalk wsX5_in := goodIn_r _ [7] (by decide +kernel) (by decide +kernel)
set_option maxRecDepth 20000 in
theorem gX5_longestWalk_X5_in : GoodIn wsX5_longestWalk (va_wsS RX5 33 yX5_in wsX5_in) := goodIn_app (goodIn_of _ (by decide +kernel)) ggX5_longestWalk_X5_in
set_option maxRecDepth 20000 in
theorem ggX5_longestWalk_X5_allowed : GoodIn wsX5_longestWalk wsX5_allowed := goodIn_r _ [11, 12, 13, 14, 3, 15, 16, 17, 18, 19, 20, 21, 22, 23, 24, 25, 26, 27, 28, 29, 30, 31, 32, 33, 34, 35, 36, 37, 38, 39, 40, 41, 42, 43, 44, 45, 46, 47, 48, 49, 50, 51, 52, 53, 54] (by decide +kernel) (by decide +kernel)
set_option maxRecDepth 20000 in
theorem gX5_longestWalk_X5_allowed : GoodIn wsX5_longestWalk (wsV RX5 102 RX5 yX5_allowed wsX5_allowed) := goodIn_app (goodIn_of _ (by decide +kernel)) ggX5_longestWalk_X5_allowed
theorem dX5_longestWalk_0 : decode cX5_longestWalk 0 = .ok (.iload_n 1, 1) := by decide +kernel
theorem dX5_longestWalk_1 : decode cX5_longestWalk 1 = .ok (.invokestatic 67, 3) := by decide +kernel
theorem dX5_longestWalk_4 : decode cX5_longestWalk 4 = .ok (.ifCond .ne 5, 3) := by decide +kernel
theorem dX5_longestWalk_7 : decode cX5_longestWalk 7 = .ok (.iconst (-1), 1) := by decide +kernel
theorem dX5_longestWalk_8 : decode cX5_longestWalk 8 = .ok (.ireturn, 1) := by decide +kernel
theorem dX5_longestWalk_9 : decode cX5_longestWalk 9 = .ok (.iload_n 2, 1) := by decide +kernel
theorem dX5_longestWalk_10 : decode cX5_longestWalk 10 = .ok (.iconst 0, 1) := by decide +kernel
theorem dX5_longestWalk_11 : decode cX5_longestWalk 11 = .ok (.iconst 1, 1) := by decide +kernel
theorem dX5_longestWalk_12 : decode cX5_longestWalk 12 = .ok (.invokestatic 33, 3) := by decide +kernel
theorem dX5_longestWalk_15 : decode cX5_longestWalk 15 = .ok (.ifCond .ne 6, 3) := by decide +kernel
theorem dX5_longestWalk_18 : decode cX5_longestWalk 18 = .ok (.bipush (-2), 2) := by decide +kernel
theorem dX5_longestWalk_20 : decode cX5_longestWalk 20 = .ok (.ireturn, 1) := by decide +kernel
theorem dX5_longestWalk_21 : decode cX5_longestWalk 21 = .ok (.iconst 0, 1) := by decide +kernel
theorem dX5_longestWalk_22 : decode cX5_longestWalk 22 = .ok (.istore_n 3, 1) := by decide +kernel
theorem dX5_longestWalk_23 : decode cX5_longestWalk 23 = .ok (.bipush (-6), 2) := by decide +kernel
theorem dX5_longestWalk_25 : decode cX5_longestWalk 25 = .ok (.istore 4, 2) := by decide +kernel
theorem dX5_longestWalk_27 : decode cX5_longestWalk 27 = .ok (.iconst 0, 1) := by decide +kernel
theorem dX5_longestWalk_28 : decode cX5_longestWalk 28 = .ok (.istore 5, 2) := by decide +kernel
theorem dX5_longestWalk_30 : decode cX5_longestWalk 30 = .ok (.iload 5, 2) := by decide +kernel
theorem dX5_longestWalk_32 : decode cX5_longestWalk 32 = .ok (.bipush 12, 2) := by decide +kernel
theorem dX5_longestWalk_34 : decode cX5_longestWalk 34 = .ok (.if_icmp .ge 48, 3) := by decide +kernel
theorem dX5_longestWalk_37 : decode cX5_longestWalk 37 = .ok (.aload_n 0, 1) := by decide +kernel
theorem dX5_longestWalk_38 : decode cX5_longestWalk 38 = .ok (.iload_n 1, 1) := by decide +kernel
theorem dX5_longestWalk_39 : decode cX5_longestWalk 39 = .ok (.iload 5, 2) := by decide +kernel
theorem dX5_longestWalk_41 : decode cX5_longestWalk 41 = .ok (.bipush 11, 2) := by decide +kernel
theorem dX5_longestWalk_43 : decode cX5_longestWalk 43 = .ok (.invokevirtual 102, 3) := by decide +kernel
theorem dX5_longestWalk_46 : decode cX5_longestWalk 46 = .ok (.istore 6, 2) := by decide +kernel
theorem dX5_longestWalk_48 : decode cX5_longestWalk 48 = .ok (.iload 6, 2) := by decide +kernel
theorem dX5_longestWalk_50 : decode cX5_longestWalk 50 = .ok (.iload_n 3, 1) := by decide +kernel
theorem dX5_longestWalk_51 : decode cX5_longestWalk 51 = .ok (.if_icmp .le 8, 3) := by decide +kernel
theorem dX5_longestWalk_54 : decode cX5_longestWalk 54 = .ok (.iload 5, 2) := by decide +kernel
theorem dX5_longestWalk_56 : decode cX5_longestWalk 56 = .ok (.goto 5, 3) := by decide +kernel
theorem dX5_longestWalk_59 : decode cX5_longestWalk 59 = .ok (.iload 4, 2) := by decide +kernel
theorem dX5_longestWalk_61 : decode cX5_longestWalk 61 = .ok (.istore 4, 2) := by decide +kernel
theorem dX5_longestWalk_63 : decode cX5_longestWalk 63 = .ok (.iload 6, 2) := by decide +kernel
theorem dX5_longestWalk_65 : decode cX5_longestWalk 65 = .ok (.iload_n 3, 1) := by decide +kernel
theorem dX5_longestWalk_66 : decode cX5_longestWalk 66 = .ok (.if_icmp .le 8, 3) := by decide +kernel
theorem dX5_longestWalk_69 : decode cX5_longestWalk 69 = .ok (.iload 6, 2) := by decide +kernel
theorem dX5_longestWalk_71 : decode cX5_longestWalk 71 = .ok (.goto 4, 3) := by decide +kernel
theorem dX5_longestWalk_74 : decode cX5_longestWalk 74 = .ok (.iload_n 3, 1) := by decide +kernel
theorem dX5_longestWalk_75 : decode cX5_longestWalk 75 = .ok (.istore_n 3, 1) := by decide +kernel
theorem dX5_longestWalk_76 : decode cX5_longestWalk 76 = .ok (.iinc 5 1, 3) := by decide +kernel
theorem dX5_longestWalk_79 : decode cX5_longestWalk 79 = .ok (.goto (-49), 3) := by decide +kernel
theorem dX5_longestWalk_82 : decode cX5_longestWalk 82 = .ok (.iload_n 2, 1) := by decide +kernel
theorem dX5_longestWalk_83 : decode cX5_longestWalk 83 = .ok (.ifCond .ne 7, 3) := by decide +kernel
theorem dX5_longestWalk_86 : decode cX5_longestWalk 86 = .ok (.iload_n 3, 1) := by decide +kernel
theorem dX5_longestWalk_87 : decode cX5_longestWalk 87 = .ok (.goto 5, 3) := by decide +kernel
theorem dX5_longestWalk_90 : decode cX5_longestWalk 90 = .ok (.iload 4, 2) := by decide +kernel
theorem dX5_longestWalk_92 : decode cX5_longestWalk 92 = .ok (.ireturn, 1) := by decide +kernel
theorem dJ6_bitCount_0f7a4_0 : decode cJ6_bitCount_0f7a4 0 = .ok (.iload_n 0, 1) := by decide +kernel
theorem dJ6_bitCount_0f7a4_1 : decode cJ6_bitCount_0f7a4 1 = .ok (.iload_n 0, 1) := by decide +kernel
theorem dJ6_bitCount_0f7a4_2 : decode cJ6_bitCount_0f7a4 2 = .ok (.iconst 1, 1) := by decide +kernel
theorem dJ6_bitCount_0f7a4_3 : decode cJ6_bitCount_0f7a4 3 = .ok (.iushr, 1) := by decide +kernel
theorem dJ6_bitCount_0f7a4_4 : decode cJ6_bitCount_0f7a4 4 = .ok (.ldc_w 265, 3) := by decide +kernel
theorem dJ6_bitCount_0f7a4_7 : decode cJ6_bitCount_0f7a4 7 = .ok (.iand, 1) := by decide +kernel
theorem dJ6_bitCount_0f7a4_8 : decode cJ6_bitCount_0f7a4 8 = .ok (.isub, 1) := by decide +kernel
theorem dJ6_bitCount_0f7a4_9 : decode cJ6_bitCount_0f7a4 9 = .ok (.istore_n 0, 1) := by decide +kernel
theorem dJ6_bitCount_0f7a4_10 : decode cJ6_bitCount_0f7a4 10 = .ok (.iload_n 0, 1) := by decide +kernel
theorem dJ6_bitCount_0f7a4_11 : decode cJ6_bitCount_0f7a4 11 = .ok (.ldc_w 266, 3) := by decide +kernel
theorem dJ6_bitCount_0f7a4_14 : decode cJ6_bitCount_0f7a4 14 = .ok (.iand, 1) := by decide +kernel
theorem dJ6_bitCount_0f7a4_15 : decode cJ6_bitCount_0f7a4 15 = .ok (.iload_n 0, 1) := by decide +kernel
theorem dJ6_bitCount_0f7a4_16 : decode cJ6_bitCount_0f7a4 16 = .ok (.iconst 2, 1) := by decide +kernel
theorem dJ6_bitCount_0f7a4_17 : decode cJ6_bitCount_0f7a4 17 = .ok (.iushr, 1) := by decide +kernel
theorem dJ6_bitCount_0f7a4_18 : decode cJ6_bitCount_0f7a4 18 = .ok (.ldc_w 266, 3) := by decide +kernel
theorem dJ6_bitCount_0f7a4_21 : decode cJ6_bitCount_0f7a4 21 = .ok (.iand, 1) := by decide +kernel
theorem dJ6_bitCount_0f7a4_22 : decode cJ6_bitCount_0f7a4 22 = .ok (.iadd, 1) := by decide +kernel
theorem dJ6_bitCount_0f7a4_23 : decode cJ6_bitCount_0f7a4 23 = .ok (.istore_n 0, 1) := by decide +kernel
theorem dJ6_bitCount_0f7a4_24 : decode cJ6_bitCount_0f7a4 24 = .ok (.iload_n 0, 1) := by decide +kernel
theorem dJ6_bitCount_0f7a4_25 : decode cJ6_bitCount_0f7a4 25 = .ok (.iload_n 0, 1) := by decide +kernel
theorem dJ6_bitCount_0f7a4_26 : decode cJ6_bitCount_0f7a4 26 = .ok (.iconst 4, 1) := by decide +kernel
theorem dJ6_bitCount_0f7a4_27 : decode cJ6_bitCount_0f7a4 27 = .ok (.iushr, 1) := by decide +kernel
theorem dJ6_bitCount_0f7a4_28 : decode cJ6_bitCount_0f7a4 28 = .ok (.iadd, 1) := by decide +kernel
theorem dJ6_bitCount_0f7a4_29 : decode cJ6_bitCount_0f7a4 29 = .ok (.ldc_w 267, 3) := by decide +kernel
theorem dJ6_bitCount_0f7a4_32 : decode cJ6_bitCount_0f7a4 32 = .ok (.iand, 1) := by decide +kernel
theorem dJ6_bitCount_0f7a4_33 : decode cJ6_bitCount_0f7a4 33 = .ok (.istore_n 0, 1) := by decide +kernel
theorem dJ6_bitCount_0f7a4_34 : decode cJ6_bitCount_0f7a4 34 = .ok (.iload_n 0, 1) := by decide +kernel
theorem dJ6_bitCount_0f7a4_35 : decode cJ6_bitCount_0f7a4 35 = .ok (.iload_n 0, 1) := by decide +kernel
theorem dJ6_bitCount_0f7a4_36 : decode cJ6_bitCount_0f7a4 36 = .ok (.bipush 8, 2) := by decide +kernel
theorem dJ6_bitCount_0f7a4_38 : decode cJ6_bitCount_0f7a4 38 = .ok (.iushr, 1) := by decide +kernel
theorem dJ6_bitCount_0f7a4_39 : decode cJ6_bitCount_0f7a4 39 = .ok (.iadd, 1) := by decide +kernel
theorem dJ6_bitCount_0f7a4_40 : decode cJ6_bitCount_0f7a4 40 = .ok (.istore_n 0, 1) := by decide +kernel
theorem dJ6_bitCount_0f7a4_41 : decode cJ6_bitCount_0f7a4 41 = .ok (.iload_n 0, 1) := by decide +kernel
theorem dJ6_bitCount_0f7a4_42 : decode cJ6_bitCount_0f7a4 42 = .ok (.iload_n 0, 1) := by decide +kernel
theorem dJ6_bitCount_0f7a4_43 : decode cJ6_bitCount_0f7a4 43 = .ok (.bipush 16, 2) := by decide +kernel
theorem dJ6_bitCount_0f7a4_45 : decode cJ6_bitCount_0f7a4 45 = .ok (.iushr, 1) := by decide +kernel
theorem dJ6_bitCount_0f7a4_46 : decode cJ6_bitCount_0f7a4 46 = .ok (.iadd, 1) := by decide +kernel
theorem dJ6_bitCount_0f7a4_47 : decode cJ6_bitCount_0f7a4 47 = .ok (.istore_n 0, 1) := by decide +kernel
theorem dJ6_bitCount_0f7a4_48 : decode cJ6_bitCount_0f7a4 48 = .ok (.iload_n 0, 1) := by decide +kernel
theorem dJ6_bitCount_0f7a4_49 : decode cJ6_bitCount_0f7a4 49 = .ok (.bipush 63, 2) := by decide +kernel
theorem dJ6_bitCount_0f7a4_51 : decode cJ6_bitCount_0f7a4 51 = .ok (.iand, 1) := by decide +kernel
theorem dJ6_bitCount_0f7a4_52 : decode cJ6_bitCount_0f7a4 52 = .ok (.ireturn, 1) := by decide +kernel
theorem dJ9_abs_0f7a4_0 : decode cJ9_abs_0f7a4 0 = .ok (.iload_n 0, 1) := by decide +kernel
theorem dJ9_abs_0f7a4_1 : decode cJ9_abs_0f7a4 1 = .ok (.ifCond .ge 8, 3) := by decide +kernel
theorem dJ9_abs_0f7a4_4 : decode cJ9_abs_0f7a4 4 = .ok (.iload_n 0, 1) := by decide +kernel
theorem dJ9_abs_0f7a4_5 : decode cJ9_abs_0f7a4 5 = .ok (.ineg, 1) := by decide +kernel
theorem dJ9_abs_0f7a4_6 : decode cJ9_abs_0f7a4 6 = .ok (.goto 4, 3) := by decide +kernel
theorem dJ9_abs_0f7a4_9 : decode cJ9_abs_0f7a4 9 = .ok (.iload_n 0, 1) := by decide +kernel
theorem dJ9_abs_0f7a4_10 : decode cJ9_abs_0f7a4 10 = .ok (.ireturn, 1) := by decide +kernel
theorem dJ9_min_7cf53_0 : decode cJ9_min_7cf53 0 = .ok (.iload_n 0, 1) := by decide +kernel
theorem dJ9_min_7cf53_1 : decode cJ9_min_7cf53 1 = .ok (.iload_n 1, 1) := by decide +kernel
theorem dJ9_min_7cf53_2 : decode cJ9_min_7cf53 2 = .ok (.if_icmp .gt 7, 3) := by decide +kernel
theorem dJ9_min_7cf53_5 : decode cJ9_min_7cf53 5 = .ok (.iload_n 0, 1) := by decide +kernel
theorem dJ9_min_7cf53_6 : decode cJ9_min_7cf53 6 = .ok (.goto 4, 3) := by decide +kernel
theorem dJ9_min_7cf53_9 : decode cJ9_min_7cf53 9 = .ok (.iload_n 1, 1) := by decide +kernel
theorem dJ9_min_7cf53_10 : decode cJ9_min_7cf53 10 = .ok (.ireturn, 1) := by decide +kernel
end
section
set_option maxRecDepth 20000 in
theorem ggL_law_X4_init : GoodIn wsL_law wsX4_init := goodIn_r _ [9, 10, 11, 12, 13, 14, 15, 16, 17, 18, 19, 20, 21, 22, 23, 24, 25, 26, 27, 28, 29, 30, 31, 32, 33, 34, 35, 36, 37, 38, 39, 40, 41, 42, 43, 44, 45, 46, 47, 48, 49, 50, 51, 52, 53, 54, 55, 56, 57, 58, 59, 60, 61, 62, 63, 634, 635, 636, 637, 638, 639, 640, 641, 642, 643, 644, 645, 646, 647, 648, 620, 621, 622, 623, 649, 650, 651, 652, 653, 654] (by decide +kernel) (by decide +kernel)
set_option maxRecDepth 20000 in
theorem gL_law_X4_init : GoodIn wsL_law (wsX4_init) := ggL_law_X4_init
set_option maxRecDepth 20000 in
theorem ggL_law_X5_init : GoodIn wsL_law wsX5_init := goodIn_r _ [66, 67, 11, 12, 33, 68, 69, 70, 61, 71, 72, 73, 74, 75, 76, 5, 77, 624, 625, 626, 627, 628, 629, 630, 631, 632, 633] (by decide +kernel) (by decide +kernel)
set_option maxRecDepth 20000 in
theorem gL_law_X5_init : GoodIn wsL_law (wsX5_init) := ggL_law_X5_init
set_option maxRecDepth 20000 in
theorem ggL_law_X4_set : GoodIn wsL_law wsX4_set := goodIn_r _ [81, 82, 83, 24, 16, 84, 85, 86, 87, 23, 88, 89, 53, 90, 91, 92, 93, 94, 95, 96, 15, 97, 34, 35, 36, 37, 38, 39, 40, 41, 42, 98, 99, 100, 101, 102, 103, 104, 2, 105, 620, 621, 622, 623, 634, 635, 636, 637, 638, 639, 640, 641, 642, 643, 644, 645, 646, 647, 648, 651, 652] (by decide +kernel) (by decide +kernel)
set_option maxRecDepth 20000 in
theorem gL_law_X4_set : GoodIn wsL_law (wsV RL 13 RX4 yX4_set wsX4_set) := goodIn_app (goodIn_of _ (by decide +kernel)) ggL_law_X4_set
set_option maxRecDepth 20000 in
theorem ggL_law_X5_set : GoodIn wsL_law wsX5_set := goodIn_r _ [109, 68, 110, 111, 5, 112, 113, 114, 115, 116, 117, 118, 119, 120, 69, 121, 122, 123, 624, 625, 626, 627, 628, 629, 630, 631, 632, 633] (by decide +kernel) (by decide +kernel)
set_option maxRecDepth 20000 in
theorem gL_law_X5_set : GoodIn wsL_law (wsV RL 17 RX5 yX5_set wsX5_set) := goodIn_app (goodIn_of _ (by decide +kernel)) ggL_law_X5_set
set_option maxRecDepth 20000 in
theorem ggL_law_X4_brim : GoodIn wsL_law wsX4_brim := goodIn_r _ [127, 24, 16, 128, 129, 130, 2, 131, 85, 86, 87, 23, 88, 89, 53, 90, 91, 92, 93, 94, 95, 96, 15, 97, 34, 35, 36, 37, 38, 39, 40, 41, 42, 98, 99, 100, 101, 102, 103, 104, 105, 132, 133, 134, 135, 620, 621, 622, 623, 634, 635, 636, 637, 638, 639, 640, 641, 642, 643, 644, 645, 646, 647, 648, 651, 652] (by decide +kernel) (by decide +kernel)
set_option maxRecDepth 20000 in
theorem gL_law_X4_brim : GoodIn wsL_law (wsV RL 18 RX4 yX4_brim wsX4_brim) := goodIn_app (goodIn_of _ (by decide +kernel)) ggL_law_X4_brim
set_option maxRecDepth 20000 in
theorem ggL_law_X5_brim : GoodIn wsL_law wsX5_brim := goodIn_r _ [139, 140, 141, 5, 142, 113, 114, 115, 116, 117, 118, 119, 120, 69, 68, 121, 122, 123, 143, 144, 145, 146, 74, 75, 76, 77, 147, 148, 149, 150, 624, 625, 626, 627, 628, 629, 630, 631, 632, 633] (by decide +kernel) (by decide +kernel)
set_option maxRecDepth 20000 in
theorem gL_law_X5_brim : GoodIn wsL_law (wsV RL 21 RX5 yX5_brim wsX5_brim) := goodIn_app (goodIn_of _ (by decide +kernel)) ggL_law_X5_brim
set_option maxRecDepth 20000 in
theorem ggL_law_X4_drain : GoodIn wsL_law wsX4_drain := goodIn_r _ [154, 16, 24, 155, 129, 130, 2, 131, 156, 157, 158, 15, 159, 99, 160, 161, 85, 86, 87, 23, 88, 89, 53, 90, 91, 92, 93, 94, 95, 96, 97, 34, 35, 36, 37, 38, 39, 40, 41, 42, 98, 100, 101, 102, 103, 104, 105, 132, 133, 134, 135, 162, 163, 164, 165, 620, 621, 622, 623, 634, 635, 636, 637, 638, 639, 640, 641, 642, 643, 644, 645, 646, 647, 648, 651, 652] (by decide +kernel) (by decide +kernel)
set_option maxRecDepth 20000 in
theorem gL_law_X4_drain : GoodIn wsL_law (wsV RL 22 RX4 yX4_drain wsX4_drain) := goodIn_app (goodIn_of _ (by decide +kernel)) ggL_law_X4_drain
set_option maxRecDepth 20000 in
theorem ggL_law_X5_drain : GoodIn wsL_law wsX5_drain := goodIn_r _ [169, 140, 141, 5, 142, 113, 114, 115, 170, 171, 172, 173, 143, 144, 145, 146, 68, 116, 117, 118, 119, 120, 69, 121, 122, 123, 147, 148, 149, 150, 74, 75, 76, 77, 624, 625, 626, 627, 628, 629, 630, 631, 632, 633] (by decide +kernel) (by decide +kernel)
set_option maxRecDepth 20000 in
theorem gL_law_X5_drain : GoodIn wsL_law (wsV RL 26 RX5 yX5_drain wsX5_drain) := goodIn_app (goodIn_of _ (by decide +kernel)) ggL_law_X5_drain
set_option maxRecDepth 20000 in
theorem ggL_law_X4_shoes : GoodIn wsL_law wsX4_shoes := goodIn_r _ [177, 24, 16, 178, 179, 180, 2, 181, 85, 86, 87, 23, 88, 89, 53, 90, 91, 92, 93, 94, 95, 96, 15, 97, 34, 35, 36, 37, 38, 39, 40, 41, 42, 98, 99, 100, 101, 102, 103, 104, 105, 620, 621, 622, 623, 634, 635, 636, 637, 638, 639, 640, 641, 642, 643, 644, 645, 646, 647, 648, 651, 652] (by decide +kernel) (by decide +kernel)
set_option maxRecDepth 20000 in
theorem gL_law_X4_shoes : GoodIn wsL_law (wsV RL 27 RX4 yX4_shoes wsX4_shoes) := goodIn_app (goodIn_of _ (by decide +kernel)) ggL_law_X4_shoes
set_option maxRecDepth 20000 in
theorem ggL_law_X5_shoes : GoodIn wsL_law wsX5_shoes := goodIn_r _ [185, 186, 187, 5, 188, 113, 114, 115, 116, 117, 118, 119, 120, 69, 68, 121, 122, 123, 189, 190, 191, 192, 193, 194, 195, 196, 624, 625, 626, 627, 628, 629, 630, 631, 632, 633] (by decide +kernel) (by decide +kernel)
set_option maxRecDepth 20000 in
theorem gL_law_X5_shoes : GoodIn wsL_law (wsV RL 30 RX5 yX5_shoes wsX5_shoes) := goodIn_app (goodIn_of _ (by decide +kernel)) ggL_law_X5_shoes
set_option maxRecDepth 20000 in
theorem ggL_law_X4_permit : GoodIn wsL_law wsX4_permit := goodIn_r _ [200, 16, 24, 201, 84, 179, 180, 2, 181, 129, 130, 131, 156, 157, 158, 15, 159, 99, 160, 161, 85, 86, 87, 23, 88, 89, 53, 90, 91, 92, 93, 94, 95, 96, 97, 34, 35, 36, 37, 38, 39, 40, 41, 42, 98, 100, 101, 102, 103, 104, 105, 202, 203, 204, 205, 206, 207, 208, 209, 210, 211, 212, 213, 214, 215, 216, 217, 218, 219, 620, 621, 622, 623, 634, 635, 636, 637, 638, 639, 640, 641, 642, 643, 644, 645, 646, 647, 648, 651, 652] (by decide +kernel) (by decide +kernel)
set_option maxRecDepth 20000 in
theorem gL_law_X4_permit : GoodIn wsL_law (wsV RL 31 RX4 yX4_permit wsX4_permit) := goodIn_app (goodIn_of _ (by decide +kernel)) ggL_law_X4_permit
set_option maxRecDepth 20000 in
theorem ggL_law_X5_permit : GoodIn wsL_law wsX5_permit := goodIn_r _ [223, 68, 186, 187, 5, 188, 113, 114, 115, 140, 141, 142, 170, 171, 172, 173, 143, 144, 145, 146, 116, 117, 118, 119, 120, 69, 121, 122, 123, 224, 225, 226, 227, 228, 229, 230, 231, 232, 233, 234, 624, 625, 626, 627, 628, 629, 630, 631, 632, 633] (by decide +kernel) (by decide +kernel)
set_option maxRecDepth 20000 in
theorem gL_law_X5_permit : GoodIn wsL_law (wsV RL 34 RX5 yX5_permit wsX5_permit) := goodIn_app (goodIn_of _ (by decide +kernel)) ggL_law_X5_permit
set_option maxRecDepth 20000 in
theorem ggL_law_X4_walk : GoodIn wsL_law wsX4_walk := goodIn_r _ [238, 24, 16, 179, 180, 2, 181, 129, 130, 131, 85, 86, 87, 23, 88, 89, 53, 90, 91, 92, 93, 94, 95, 96, 15, 97, 34, 35, 36, 37, 38, 39, 40, 41, 42, 98, 99, 100, 101, 102, 103, 104, 105, 239, 240, 241, 242, 243, 244, 245, 246, 247, 248, 249, 250, 251, 252, 253, 254, 255, 256, 257, 157, 158, 159, 160, 161, 209, 210, 211, 212, 203, 204, 258, 259, 260, 261, 262, 263, 264, 265, 266, 267, 268, 269, 270, 271, 272, 273, 274, 275, 276, 277, 620, 621, 622, 623, 651, 652, 634, 635, 636, 637, 638, 639, 640, 641, 642, 643, 644, 645, 646, 647, 648] (by decide +kernel) (by decide +kernel)
set_option maxRecDepth 20000 in
theorem gL_law_X4_walk : GoodIn wsL_law (wsV RL 35 RX4 yX4_walk wsX4_walk) := goodIn_app (goodIn_of _ (by decide +kernel)) ggL_law_X4_walk
set_option maxRecDepth 20000 in
theorem ggL_law_X5_walk : GoodIn wsL_law wsX5_walk := goodIn_r _ [281, 186, 187, 5, 188, 113, 114, 115, 140, 141, 142, 116, 117, 118, 119, 120, 69, 68, 121, 122, 123, 282, 283, 284, 285, 286, 287, 288, 289, 189, 190, 191, 192, 290, 291, 292, 293, 170, 171, 172, 173, 143, 144, 145, 146, 228, 229, 230, 231, 294, 295, 296, 297, 298, 299, 300, 301, 302, 303, 304, 305, 306, 307, 308, 309, 193, 194, 195, 196, 74, 75, 76, 77, 624, 625, 626, 627, 628, 629, 630, 631, 632, 633] (by decide +kernel) (by decide +kernel)
set_option maxRecDepth 20000 in
theorem gL_law_X5_walk : GoodIn wsL_law (wsV RL 39 RX5 yX5_walk wsX5_walk) := goodIn_app (goodIn_of _ (by decide +kernel)) ggL_law_X5_walk
set_option maxRecDepth 20000 in
theorem ggL_law_X4_pay : GoodIn wsL_law wsX4_pay := goodIn_r _ [313, 24, 16, 314, 315, 179, 180, 2, 181, 85, 86, 87, 23, 88, 89, 53, 90, 91, 92, 93, 94, 95, 96, 15, 97, 34, 35, 36, 37, 38, 39, 40, 41, 42, 98, 99, 100, 101, 102, 103, 104, 105, 620, 621, 622, 623, 634, 635, 636, 637, 638, 639, 640, 641, 642, 643, 644, 645, 646, 647, 648, 651, 652] (by decide +kernel) (by decide +kernel)
set_option maxRecDepth 20000 in
theorem gL_law_X4_pay : GoodIn wsL_law (wsV RL 40 RX4 yX4_pay wsX4_pay) := goodIn_app (goodIn_of _ (by decide +kernel)) ggL_law_X4_pay
set_option maxRecDepth 20000 in
theorem ggL_law_X5_pay : GoodIn wsL_law wsX5_pay := goodIn_r _ [319, 186, 187, 5, 188, 113, 114, 115, 116, 117, 118, 119, 120, 69, 68, 121, 122, 123, 189, 190, 191, 192, 193, 194, 195, 196, 624, 625, 626, 627, 628, 629, 630, 631, 632, 633] (by decide +kernel) (by decide +kernel)
set_option maxRecDepth 20000 in
theorem gL_law_X5_pay : GoodIn wsL_law (wsV RL 43 RX5 yX5_pay wsX5_pay) := goodIn_app (goodIn_of _ (by decide +kernel)) ggL_law_X5_pay
set_option maxRecDepth 20000 in
theorem ggL_law_X4_pass : GoodIn wsL_law wsX4_pass := goodIn_r _ [323, 16, 324, 24, 155, 85, 86, 87, 23, 88, 89, 53, 90, 91, 92, 93, 94, 95, 96, 15, 97, 34, 35, 36, 37, 38, 39, 40, 41, 42, 98, 99, 100, 101, 102, 103, 104, 2, 105, 325, 326, 327, 328, 329, 330, 331, 332, 333, 334, 245, 335, 262, 263, 264, 265, 160, 161, 336, 337, 338, 339, 258, 259, 260, 261, 340, 341, 342, 343, 344, 345, 346, 347, 203, 204, 348, 349, 350, 351, 352, 353, 354, 620, 621, 622, 623, 634, 635, 636, 637, 638, 639, 640, 641, 642, 643, 644, 645, 646, 647, 648, 651, 652] (by decide +kernel) (by decide +kernel)
set_option maxRecDepth 20000 in
theorem gL_law_X4_pass : GoodIn wsL_law (wsV RL 44 RX4 yX4_pass wsX4_pass) := goodIn_app (goodIn_of _ (by decide +kernel)) ggL_law_X4_pass
set_option maxRecDepth 20000 in
theorem ggL_law_X5_pass : GoodIn wsL_law wsX5_pass := goodIn_r _ [358, 68, 113, 114, 5, 115, 116, 117, 118, 119, 120, 69, 121, 122, 123, 359, 360, 361, 362, 363, 364, 365, 366, 294, 295, 296, 297, 143, 144, 145, 146, 74, 75, 76, 77, 367, 368, 369, 370, 371, 372, 373, 374, 298, 299, 300, 301, 375, 376, 377, 378, 379, 380, 381, 382, 624, 625, 626, 627, 628, 629, 630, 631, 632, 633] (by decide +kernel) (by decide +kernel)
set_option maxRecDepth 20000 in
theorem gL_law_X5_pass : GoodIn wsL_law (wsV RL 47 RX5 yX5_pass wsX5_pass) := goodIn_app (goodIn_of _ (by decide +kernel)) ggL_law_X5_pass
set_option maxRecDepth 20000 in
theorem ggL_law_X4_read : GoodIn wsL_law wsX4_read := goodIn_r _ [386, 20, 16, 324, 24, 387, 155, 388, 389, 390, 19, 391, 392, 47, 393, 394, 395, 396, 397, 398, 399, 400, 401, 402, 403, 404, 405, 406, 85, 86, 87, 23, 88, 89, 53, 90, 91, 92, 93, 94, 95, 96, 15, 97, 34, 35, 36, 37, 38, 39, 40, 41, 42, 98, 99, 100, 101, 102, 103, 104, 2, 105, 407, 325, 326, 327, 328, 329, 330, 331, 332, 333, 334, 245, 335, 262, 263, 264, 265, 160, 161, 336, 337, 338, 339, 258, 259, 260, 261, 340, 341, 342, 343, 344, 345, 346, 347, 203, 204, 348, 349, 350, 351, 352, 353, 354, 620, 621, 622, 623, 634, 635, 636, 637, 638, 639, 640, 641, 642, 643, 644, 645, 646, 647, 648, 649, 650, 651, 652] (by decide +kernel) (by decide +kernel)
set_option maxRecDepth 20000 in
theorem gL_law_X4_read : GoodIn wsL_law (wsV RL 48 RX4 yX4_read wsX4_read) := goodIn_app (goodIn_of _ (by decide +kernel)) ggL_law_X4_read
set_option maxRecDepth 20000 in
theorem ggL_law_X5_read : GoodIn wsL_law wsX5_read := goodIn_r _ [411, 412, 73, 68, 413, 414, 415, 416, 5, 417, 418, 419, 420, 421, 422, 72, 113, 114, 115, 116, 117, 118, 119, 120, 69, 121, 122, 123, 359, 360, 361, 362, 363, 364, 365, 366, 294, 295, 296, 297, 143, 144, 145, 146, 74, 75, 76, 77, 367, 368, 369, 370, 371, 372, 373, 374, 298, 299, 300, 301, 375, 376, 377, 378, 379, 380, 381, 382, 624, 625, 626, 627, 628, 629, 630, 631, 632, 633] (by decide +kernel) (by decide +kernel)
set_option maxRecDepth 20000 in
theorem gL_law_X5_read : GoodIn wsL_law (wsV RL 52 RX5 yX5_read wsX5_read) := goodIn_app (goodIn_of _ (by decide +kernel)) ggL_law_X5_read
set_option maxRecDepth 20000 in
theorem ggL_law_X4_puddle : GoodIn wsL_law wsX4_puddle := goodIn_r _ [426, 16, 128, 155, 427, 129, 130, 2, 131, 428, 259, 260, 15, 261, 36, 429, 263, 264, 265, 98, 160, 161, 156, 157, 158, 159, 99, 430, 431, 432, 433, 209, 210, 211, 212, 42, 203, 204, 620, 621, 622, 623, 634, 635, 636, 637, 638, 639, 640, 641, 642, 643, 644, 645, 646, 647, 648] (by decide +kernel) (by decide +kernel)
set_option maxRecDepth 20000 in
theorem gL_law_X4_puddle : GoodIn wsL_law (wsV RL 53 RX4 yX4_puddle wsX4_puddle) := goodIn_app (goodIn_of _ (by decide +kernel)) ggL_law_X4_puddle
set_option maxRecDepth 20000 in
theorem ggL_law_X5_puddle : GoodIn wsL_law wsX5_puddle := goodIn_r _ [437, 140, 141, 5, 142, 113, 114, 115, 143, 144, 145, 146, 68, 298, 299, 300, 301, 438, 439, 440, 441, 228, 229, 230, 231, 624, 625, 626, 627, 628, 629, 630, 631, 632, 633] (by decide +kernel) (by decide +kernel)
set_option maxRecDepth 20000 in
theorem gL_law_X5_puddle : GoodIn wsL_law (wsV RL 56 RX5 yX5_puddle wsX5_puddle) := goodIn_app (goodIn_of _ (by decide +kernel)) ggL_law_X5_puddle
set_option maxRecDepth 20000 in
theorem ggL_law_X4_walker : GoodIn wsL_law wsX4_walker := goodIn_r _ [445, 16, 178, 314, 315, 446, 179, 180, 2, 181, 205, 206, 207, 15, 208, 209, 210, 211, 212, 42, 203, 204, 447, 448, 449, 450, 249, 250, 251, 252, 38, 253, 254, 255, 256, 257, 157, 158, 159, 99, 160, 161, 258, 259, 260, 261, 36, 262, 263, 264, 265, 98, 266, 267, 268, 620, 621, 622, 623, 634, 635, 636, 637, 638, 639, 640, 641, 642, 643, 644, 645, 646, 647, 648] (by decide +kernel) (by decide +kernel)
set_option maxRecDepth 20000 in
theorem gL_law_X4_walker : GoodIn wsL_law (wsV RL 57 RX4 yX4_walker wsX4_walker) := goodIn_app (goodIn_of _ (by decide +kernel)) ggL_law_X4_walker
set_option maxRecDepth 20000 in
theorem ggL_law_X5_walker : GoodIn wsL_law wsX5_walker := goodIn_r _ [454, 186, 187, 5, 188, 113, 114, 115, 189, 190, 191, 192, 68, 224, 225, 226, 227, 228, 229, 230, 231, 455, 456, 457, 458, 290, 291, 292, 293, 170, 171, 172, 173, 143, 144, 145, 146, 294, 295, 296, 297, 298, 299, 300, 301, 624, 625, 626, 627, 628, 629, 630, 631, 632, 633] (by decide +kernel) (by decide +kernel)
set_option maxRecDepth 20000 in
theorem gL_law_X5_walker : GoodIn wsL_law (wsV RL 60 RX5 yX5_walker wsX5_walker) := goodIn_app (goodIn_of _ (by decide +kernel)) ggL_law_X5_walker
set_option maxRecDepth 20000 in
theorem ggL_law_X4_why : GoodIn wsL_law wsX4_why := goodIn_r _ [462, 16, 178, 179, 180, 2, 181, 129, 130, 131, 463, 254, 255, 15, 256, 257, 157, 158, 159, 99, 160, 161, 209, 210, 211, 212, 42, 203, 204, 258, 259, 260, 261, 36, 262, 263, 264, 265, 98, 266, 267, 268, 620, 621, 622, 623, 634, 635, 636, 637, 638, 639, 640, 641, 642, 643, 644, 645, 646, 647, 648] (by decide +kernel) (by decide +kernel)
set_option maxRecDepth 20000 in
theorem gL_law_X4_why : GoodIn wsL_law (wsV RL 61 RX4 yX4_why wsX4_why) := goodIn_app (goodIn_of _ (by decide +kernel)) ggL_law_X4_why
set_option maxRecDepth 20000 in
theorem ggL_law_X5_why : GoodIn wsL_law wsX5_why := goodIn_r _ [467, 186, 187, 5, 188, 113, 114, 115, 140, 141, 142, 286, 287, 288, 289, 189, 190, 191, 192, 68, 290, 291, 292, 293, 170, 171, 172, 173, 143, 144, 145, 146, 228, 229, 230, 231, 294, 295, 296, 297, 298, 299, 300, 301, 624, 625, 626, 627, 628, 629, 630, 631, 632, 633] (by decide +kernel) (by decide +kernel)
set_option maxRecDepth 20000 in
theorem gL_law_X5_why : GoodIn wsL_law (wsV RL 64 RX5 yX5_why wsX5_why) := goodIn_app (goodIn_of _ (by decide +kernel)) ggL_law_X5_why
set_option maxRecDepth 20000 in
theorem ggL_law_X4_holds : GoodIn wsL_law wsX4_holds := goodIn_r _ [471, 16, 201, 179, 180, 2, 181, 129, 130, 131, 202, 203, 204, 620, 621, 622, 623, 634, 635, 636, 637, 638, 639, 640, 641, 642, 643, 644, 645, 646, 647, 648] (by decide +kernel) (by decide +kernel)
set_option maxRecDepth 20000 in
theorem gL_law_X4_holds : GoodIn wsL_law (wsV RL 65 RX4 yX4_holds wsX4_holds) := goodIn_app (goodIn_of _ (by decide +kernel)) ggL_law_X4_holds
set_option maxRecDepth 20000 in
theorem ggL_law_X5_holds : GoodIn wsL_law wsX5_holds := goodIn_r _ [475, 186, 187, 5, 188, 113, 114, 115, 140, 141, 142, 228, 229, 230, 231, 68, 624, 625, 626, 627, 628, 629, 630, 631, 632, 633] (by decide +kernel) (by decide +kernel)
set_option maxRecDepth 20000 in
theorem gL_law_X5_holds : GoodIn wsL_law (wsV RL 68 RX5 yX5_holds wsX5_holds) := goodIn_app (goodIn_of _ (by decide +kernel)) ggL_law_X5_holds
set_option maxRecDepth 20000 in
theorem ggL_law_X4_count : GoodIn wsL_law wsX4_count := goodIn_r _ [479, 16, 84, 324, 155, 480, 481, 482, 483, 484, 314, 315, 20, 387, 24, 485, 352, 353, 2, 354, 486, 487, 488, 15, 489, 490, 206, 207, 208, 209, 210, 211, 212, 42, 203, 204, 491, 214, 215, 216, 217, 218, 219, 620, 621, 622, 623, 634, 635, 636, 637, 638, 639, 640, 641, 642, 643, 644, 645, 646, 647, 648, 649, 650, 651, 652] (by decide +kernel) (by decide +kernel)
set_option maxRecDepth 20000 in
theorem gL_law_X4_count : GoodIn wsL_law (wsV RL 69 RX4 yX4_count wsX4_count) := goodIn_app (goodIn_of _ (by decide +kernel)) ggL_law_X4_count
set_option maxRecDepth 20000 in
theorem ggL_law_X5_count : GoodIn wsL_law wsX5_count := goodIn_r _ [495, 68, 413, 120, 379, 380, 381, 5, 382, 143, 144, 145, 146, 496, 497, 498, 499, 500, 501, 502, 503, 224, 225, 226, 227, 228, 229, 230, 231, 232, 233, 234, 504, 505, 506, 507, 189, 190, 191, 192, 624, 625, 626, 627, 628, 629, 630, 631, 632, 633] (by decide +kernel) (by decide +kernel)
set_option maxRecDepth 20000 in
theorem gL_law_X5_count : GoodIn wsL_law (wsV RL 72 RX5 yX5_count wsX5_count) := goodIn_app (goodIn_of _ (by decide +kernel)) ggL_law_X5_count
set_option maxRecDepth 20000 in
theorem ggL_law_X4_cost : GoodIn wsL_law wsX4_cost := goodIn_r _ [511, 16, 179, 180, 2, 181, 129, 130, 131, 512, 513, 514, 15, 515, 243, 244, 245, 246, 247, 248, 249, 250, 251, 252, 38, 253, 254, 255, 256, 257, 157, 158, 159, 99, 160, 161, 209, 210, 211, 212, 42, 203, 204, 258, 259, 260, 261, 36, 262, 263, 264, 265, 98, 266, 267, 268, 274, 275, 276, 277, 34, 516, 517, 518, 519, 520, 240, 241, 242, 620, 621, 622, 623, 634, 635, 636, 637, 638, 639, 640, 641, 642, 643, 644, 645, 646, 647, 648] (by decide +kernel) (by decide +kernel)
set_option maxRecDepth 20000 in
theorem gL_law_X4_cost : GoodIn wsL_law (wsV RL 73 RX4 yX4_cost wsX4_cost) := goodIn_app (goodIn_of _ (by decide +kernel)) ggL_law_X4_cost
set_option maxRecDepth 20000 in
theorem ggL_law_X5_cost : GoodIn wsL_law wsX5_cost := goodIn_r _ [524, 186, 187, 5, 188, 113, 114, 115, 140, 141, 142, 282, 283, 284, 285, 286, 287, 288, 289, 189, 190, 191, 192, 68, 290, 291, 292, 293, 170, 171, 172, 173, 143, 144, 145, 146, 228, 229, 230, 231, 294, 295, 296, 297, 298, 299, 300, 301, 302, 303, 304, 305, 306, 307, 308, 309, 624, 625, 626, 627, 628, 629, 630, 631, 632, 633] (by decide +kernel) (by decide +kernel)
set_option maxRecDepth 20000 in
theorem gL_law_X5_cost : GoodIn wsL_law (wsV RL 77 RX5 yX5_cost wsX5_cost) := goodIn_app (goodIn_of _ (by decide +kernel)) ggL_law_X5_cost
set_option maxRecDepth 20000 in
theorem ggL_law_X4_untilDry : GoodIn wsL_law wsX4_untilDry := goodIn_r _ [528, 16, 155, 84, 129, 130, 2, 131, 429, 263, 264, 15, 265, 98, 160, 161, 620, 621, 622, 623, 634, 635, 636, 637, 638, 639, 640, 641, 642, 643, 644, 645, 646, 647, 648] (by decide +kernel) (by decide +kernel)
set_option maxRecDepth 20000 in
theorem gL_law_X4_untilDry : GoodIn wsL_law (wsV RL 78 RX4 yX4_untilDry wsX4_untilDry) := goodIn_app (goodIn_of _ (by decide +kernel)) ggL_law_X4_untilDry
set_option maxRecDepth 20000 in
theorem ggL_law_X5_untilDry : GoodIn wsL_law wsX5_untilDry := goodIn_r _ [532, 68, 140, 141, 5, 142, 113, 114, 115, 143, 144, 145, 146, 624, 625, 626, 627, 628, 629, 630, 631, 632, 633] (by decide +kernel) (by decide +kernel)
set_option maxRecDepth 20000 in
theorem gL_law_X5_untilDry : GoodIn wsL_law (wsV RL 81 RX5 yX5_untilDry wsX5_untilDry) := goodIn_app (goodIn_of _ (by decide +kernel)) ggL_law_X5_untilDry
set_option maxRecDepth 20000 in
theorem ggL_law_X4_leastShoes : GoodIn wsL_law wsX4_leastShoes := goodIn_r _ [536, 16, 179, 180, 2, 181, 537, 538, 539, 15, 540, 253, 254, 255, 256, 257, 157, 158, 159, 99, 160, 161, 209, 210, 211, 212, 42, 203, 204, 258, 259, 260, 261, 36, 262, 263, 264, 265, 98, 266, 267, 268, 620, 621, 622, 623, 634, 635, 636, 637, 638, 639, 640, 641, 642, 643, 644, 645, 646, 647, 648] (by decide +kernel) (by decide +kernel)
set_option maxRecDepth 20000 in
theorem gL_law_X4_leastShoes : GoodIn wsL_law (wsV RL 82 RX4 yX4_leastShoes wsX4_leastShoes) := goodIn_app (goodIn_of _ (by decide +kernel)) ggL_law_X4_leastShoes
set_option maxRecDepth 20000 in
theorem ggL_law_X5_leastShoes : GoodIn wsL_law wsX5_leastShoes := goodIn_r _ [544, 186, 187, 5, 188, 113, 114, 115, 455, 456, 457, 458, 290, 291, 292, 293, 170, 171, 172, 173, 143, 144, 145, 146, 68, 228, 229, 230, 231, 294, 295, 296, 297, 298, 299, 300, 301, 624, 625, 626, 627, 628, 629, 630, 631, 632, 633] (by decide +kernel) (by decide +kernel)
set_option maxRecDepth 20000 in
theorem gL_law_X5_leastShoes : GoodIn wsL_law (wsV RL 85 RX5 yX5_leastShoes wsX5_leastShoes) := goodIn_app (goodIn_of _ (by decide +kernel)) ggL_law_X5_leastShoes
set_option maxRecDepth 20000 in
theorem ggL_law_X4_longestWalk : GoodIn wsL_law wsX4_longestWalk := goodIn_r _ [548, 16, 179, 180, 2, 181, 447, 448, 449, 15, 450, 249, 250, 251, 252, 38, 253, 254, 255, 256, 257, 157, 158, 159, 99, 160, 161, 209, 210, 211, 212, 42, 203, 204, 258, 259, 260, 261, 36, 262, 263, 264, 265, 98, 266, 267, 268, 549, 620, 621, 622, 623, 634, 635, 636, 637, 638, 639, 640, 641, 642, 643, 644, 645, 646, 647, 648] (by decide +kernel) (by decide +kernel)
set_option maxRecDepth 20000 in
theorem gL_law_X4_longestWalk : GoodIn wsL_law (wsV RL 86 RX4 yX4_longestWalk wsX4_longestWalk) := goodIn_app (goodIn_of _ (by decide +kernel)) ggL_law_X4_longestWalk
set_option maxRecDepth 20000 in
theorem ggL_law_X5_longestWalk : GoodIn wsL_law wsX5_longestWalk := goodIn_r _ [553, 186, 187, 5, 188, 113, 114, 115, 282, 283, 284, 285, 286, 287, 288, 289, 189, 190, 191, 192, 68, 290, 291, 292, 293, 170, 171, 172, 173, 143, 144, 145, 146, 228, 229, 230, 231, 294, 295, 296, 297, 298, 299, 300, 301, 624, 625, 626, 627, 628, 629, 630, 631, 632, 633] (by decide +kernel) (by decide +kernel)
set_option maxRecDepth 20000 in
theorem gL_law_X5_longestWalk : GoodIn wsL_law (wsV RL 89 RX5 yX5_longestWalk wsX5_longestWalk) := goodIn_app (goodIn_of _ (by decide +kernel)) ggL_law_X5_longestWalk
set_option maxRecDepth 20000 in
theorem ggL_law_X4_put : GoodIn wsL_law wsX4_put := goodIn_r _ [557, 20, 387, 558, 559, 19, 560, 561, 562, 563, 564, 565, 566, 567, 392, 47, 620, 621, 622, 623, 649, 650] (by decide +kernel) (by decide +kernel)
set_option maxRecDepth 20000 in
theorem gL_law_X4_put : GoodIn wsL_law (wsV RL 92 RX4 yX4_put wsX4_put) := goodIn_app (goodIn_of _ (by decide +kernel)) ggL_law_X4_put
set_option maxRecDepth 20000 in
theorem ggL_law_X5_put : GoodIn wsL_law wsX5_put := goodIn_r _ [571, 572, 413, 72, 113, 114, 5, 115, 624, 625, 626, 627, 628, 629, 630, 631, 632, 633] (by decide +kernel) (by decide +kernel)
set_option maxRecDepth 20000 in
theorem gL_law_X5_put : GoodIn wsL_law (wsV RL 96 RX5 yX5_put wsX5_put) := goodIn_app (goodIn_of _ (by decide +kernel)) ggL_law_X5_put
set_option maxRecDepth 20000 in
theorem ggL_law_X4_wipe : GoodIn wsL_law wsX4_wipe := goodIn_r _ [576, 20, 387, 620, 621, 622, 623, 649, 650] (by decide +kernel) (by decide +kernel)
set_option maxRecDepth 20000 in
theorem gL_law_X4_wipe : GoodIn wsL_law (wsV RL 97 RX4 yX4_wipe wsX4_wipe) := goodIn_app (goodIn_of _ (by decide +kernel)) ggL_law_X4_wipe
set_option maxRecDepth 20000 in
theorem ggL_law_X5_wipe : GoodIn wsL_law wsX5_wipe := goodIn_r _ [580, 413, 624, 625, 626, 627, 628, 629, 630, 631, 632, 633] (by decide +kernel) (by decide +kernel)
set_option maxRecDepth 20000 in
theorem gL_law_X5_wipe : GoodIn wsL_law (wsV RL 100 RX5 yX5_wipe wsX5_wipe) := goodIn_app (goodIn_of _ (by decide +kernel)) ggL_law_X5_wipe
set_option maxRecDepth 20000 in
theorem ggL_law_X4_fault : GoodIn wsL_law wsX4_fault := goodIn_r _ [584, 20, 388, 389, 390, 19, 391, 392, 47, 393, 394, 395, 396, 397, 398, 620, 621, 622, 623, 649, 650] (by decide +kernel) (by decide +kernel)
set_option maxRecDepth 20000 in
theorem gL_law_X4_fault : GoodIn wsL_law (wsV RL 101 RX4 yX4_fault wsX4_fault) := goodIn_app (goodIn_of _ (by decide +kernel)) ggL_law_X4_fault
set_option maxRecDepth 20000 in
theorem ggL_law_X5_fault : GoodIn wsL_law wsX5_fault := goodIn_r _ [588, 418, 414, 415, 416, 5, 417, 412, 73, 413, 419, 420, 421, 422, 72, 113, 114, 115, 624, 625, 626, 627, 628, 629, 630, 631, 632, 633] (by decide +kernel) (by decide +kernel)
set_option maxRecDepth 20000 in
theorem gL_law_X5_fault : GoodIn wsL_law (wsV RL 104 RX5 yX5_fault wsX5_fault) := goodIn_app (goodIn_of _ (by decide +kernel)) ggL_law_X5_fault
set_option maxRecDepth 20000 in
theorem ggL_law_X4_undo : GoodIn wsL_law wsX4_undo := goodIn_r _ [592, 24, 485, 16, 593, 594, 595, 23, 596, 89, 53, 94, 95, 96, 15, 97, 34, 35, 36, 37, 38, 39, 40, 41, 42, 98, 99, 100, 101, 102, 103, 104, 2, 105, 620, 621, 622, 623, 651, 652, 634, 635, 636, 637, 638, 639, 640, 641, 642, 643, 644, 645, 646, 647, 648] (by decide +kernel) (by decide +kernel)
set_option maxRecDepth 20000 in
theorem gL_law_X4_undo : GoodIn wsL_law (wsV RL 105 RX4 yX4_undo wsX4_undo) := goodIn_app (goodIn_of _ (by decide +kernel)) ggL_law_X4_undo
set_option maxRecDepth 20000 in
theorem ggL_law_X5_undo : GoodIn wsL_law wsX5_undo := goodIn_r _ [600, 120, 69, 68, 121, 122, 5, 123, 624, 625, 626, 627, 628, 629, 630, 631, 632, 633] (by decide +kernel) (by decide +kernel)
set_option maxRecDepth 20000 in
theorem gL_law_X5_undo : GoodIn wsL_law (wsV RL 108 RX5 yX5_undo wsX5_undo) := goodIn_app (goodIn_of _ (by decide +kernel)) ggL_law_X5_undo
set_option maxRecDepth 20000 in
theorem ggL_law_X4_save : GoodIn wsL_law wsX4_save := goodIn_r _ [604, 28, 605, 16, 606, 324, 607, 95, 96, 15, 97, 34, 35, 36, 37, 38, 39, 40, 41, 42, 98, 99, 100, 101, 102, 103, 104, 2, 105, 620, 621, 622, 623, 653, 654, 634, 635, 636, 637, 638, 639, 640, 641, 642, 643, 644, 645, 646, 647, 648] (by decide +kernel) (by decide +kernel)
set_option maxRecDepth 20000 in
theorem gL_law_X4_save : GoodIn wsL_law (wsV RL 109 RX4 yX4_save wsX4_save) := goodIn_app (goodIn_of _ (by decide +kernel)) ggL_law_X4_save
set_option maxRecDepth 20000 in
theorem ggL_law_X5_save : GoodIn wsL_law wsX5_save := goodIn_r _ [611, 68, 70, 71, 113, 114, 5, 115, 121, 122, 123, 624, 625, 626, 627, 628, 629, 630, 631, 632, 633] (by decide +kernel) (by decide +kernel)
set_option maxRecDepth 20000 in
theorem gL_law_X5_save : GoodIn wsL_law (wsV RL 112 RX5 yX5_save wsX5_save) := goodIn_app (goodIn_of _ (by decide +kernel)) ggL_law_X5_save
set_option maxRecDepth 20000 in
theorem ggL_law_X4_restore : GoodIn wsL_law wsX4_restore := goodIn_r _ [615, 28, 606, 24, 16, 605, 324, 85, 86, 87, 23, 88, 89, 53, 90, 91, 92, 93, 94, 95, 96, 15, 97, 34, 35, 36, 37, 38, 39, 40, 41, 42, 98, 99, 100, 101, 102, 103, 104, 2, 105, 607, 620, 621, 622, 623, 653, 654, 634, 635, 636, 637, 638, 639, 640, 641, 642, 643, 644, 645, 646, 647, 648, 651, 652] (by decide +kernel) (by decide +kernel)
set_option maxRecDepth 20000 in
theorem gL_law_X4_restore : GoodIn wsL_law (wsV RL 113 RX4 yX4_restore wsX4_restore) := goodIn_app (goodIn_of _ (by decide +kernel)) ggL_law_X4_restore
set_option maxRecDepth 20000 in
theorem ggL_law_X5_restore : GoodIn wsL_law wsX5_restore := goodIn_r _ [619, 71, 70, 68, 113, 114, 5, 115, 116, 117, 118, 119, 120, 69, 121, 122, 123, 624, 625, 626, 627, 628, 629, 630, 631, 632, 633] (by decide +kernel) (by decide +kernel)
set_option maxRecDepth 20000 in
theorem gL_law_X5_restore : GoodIn wsL_law (wsV RL 116 RX5 yX5_restore wsX5_restore) := goodIn_app (goodIn_of _ (by decide +kernel)) ggL_law_X5_restore
theorem dL_law_0 : decode cL_law 0 = .ok (.new 7, 3) := by decide +kernel
theorem dL_law_3 : decode cL_law 3 = .ok (.dup, 1) := by decide +kernel
theorem dL_law_4 : decode cL_law 4 = .ok (.invokespecial 9, 3) := by decide +kernel
theorem dL_law_7 : decode cL_law 7 = .ok (.astore_n 1, 1) := by decide +kernel
theorem dL_law_8 : decode cL_law 8 = .ok (.new 10, 3) := by decide +kernel
theorem dL_law_11 : decode cL_law 11 = .ok (.dup, 1) := by decide +kernel
theorem dL_law_12 : decode cL_law 12 = .ok (.invokespecial 12, 3) := by decide +kernel
theorem dL_law_15 : decode cL_law 15 = .ok (.astore_n 2, 1) := by decide +kernel
theorem dL_law_16 : decode cL_law 16 = .ok (.iconst 0, 1) := by decide +kernel
theorem dL_law_17 : decode cL_law 17 = .ok (.istore_n 3, 1) := by decide +kernel
theorem dL_law_18 : decode cL_law 18 = .ok (.iload_n 3, 1) := by decide +kernel
theorem dL_law_19 : decode cL_law 19 = .ok (.aload_n 0, 1) := by decide +kernel
theorem dL_law_20 : decode cL_law 20 = .ok (.arraylength, 1) := by decide +kernel
theorem dL_law_21 : decode cL_law 21 = .ok (.iconst 5, 1) := by decide +kernel
theorem dL_law_22 : decode cL_law 22 = .ok (.isub, 1) := by decide +kernel
theorem dL_law_23 : decode cL_law 23 = .ok (.if_icmp .gt 809, 3) := by decide +kernel
theorem dL_law_26 : decode cL_law 26 = .ok (.aload_n 0, 1) := by decide +kernel
theorem dL_law_27 : decode cL_law 27 = .ok (.iload_n 3, 1) := by decide +kernel
theorem dL_law_28 : decode cL_law 28 = .ok (.iaload, 1) := by decide +kernel
theorem dL_law_29 : decode cL_law 29 = .ok (.bipush 31, 2) := by decide +kernel
theorem dL_law_31 : decode cL_law 31 = .ok (.iand, 1) := by decide +kernel
theorem dL_law_32 : decode cL_law 32 = .ok (.tableswitch 794 0 23 #[112, 145, 178, 201, 234, 267, 310, 333, 356, 369, 402, 435, 468, 501, 524, 577, 600, 623, 656, 709, 722, 735, 748, 771], 112) := by decide +kernel
theorem dL_law_144 : decode cL_law 144 = .ok (.aload_n 1, 1) := by decide +kernel
theorem dL_law_145 : decode cL_law 145 = .ok (.aload_n 0, 1) := by decide +kernel
theorem dL_law_146 : decode cL_law 146 = .ok (.iload_n 3, 1) := by decide +kernel
theorem dL_law_147 : decode cL_law 147 = .ok (.iconst 1, 1) := by decide +kernel
theorem dL_law_148 : decode cL_law 148 = .ok (.iadd, 1) := by decide +kernel
theorem dL_law_149 : decode cL_law 149 = .ok (.iaload, 1) := by decide +kernel
theorem dL_law_150 : decode cL_law 150 = .ok (.aload_n 0, 1) := by decide +kernel
theorem dL_law_151 : decode cL_law 151 = .ok (.iload_n 3, 1) := by decide +kernel
theorem dL_law_152 : decode cL_law 152 = .ok (.iconst 2, 1) := by decide +kernel
theorem dL_law_153 : decode cL_law 153 = .ok (.iadd, 1) := by decide +kernel
theorem dL_law_154 : decode cL_law 154 = .ok (.iaload, 1) := by decide +kernel
theorem dL_law_155 : decode cL_law 155 = .ok (.invokevirtual 13, 3) := by decide +kernel
theorem dL_law_158 : decode cL_law 158 = .ok (.aload_n 2, 1) := by decide +kernel
theorem dL_law_159 : decode cL_law 159 = .ok (.aload_n 0, 1) := by decide +kernel
theorem dL_law_160 : decode cL_law 160 = .ok (.iload_n 3, 1) := by decide +kernel
theorem dL_law_161 : decode cL_law 161 = .ok (.iconst 1, 1) := by decide +kernel
theorem dL_law_162 : decode cL_law 162 = .ok (.iadd, 1) := by decide +kernel
theorem dL_law_163 : decode cL_law 163 = .ok (.iaload, 1) := by decide +kernel
theorem dL_law_164 : decode cL_law 164 = .ok (.aload_n 0, 1) := by decide +kernel
theorem dL_law_165 : decode cL_law 165 = .ok (.iload_n 3, 1) := by decide +kernel
theorem dL_law_166 : decode cL_law 166 = .ok (.iconst 2, 1) := by decide +kernel
theorem dL_law_167 : decode cL_law 167 = .ok (.iadd, 1) := by decide +kernel
theorem dL_law_168 : decode cL_law 168 = .ok (.iaload, 1) := by decide +kernel
theorem dL_law_169 : decode cL_law 169 = .ok (.invokevirtual 17, 3) := by decide +kernel
theorem dL_law_172 : decode cL_law 172 = .ok (.if_icmp .eq 654, 3) := by decide +kernel
theorem dL_law_175 : decode cL_law 175 = .ok (.iconst 0, 1) := by decide +kernel
theorem dL_law_176 : decode cL_law 176 = .ok (.ireturn, 1) := by decide +kernel
theorem dL_law_177 : decode cL_law 177 = .ok (.aload_n 1, 1) := by decide +kernel
theorem dL_law_178 : decode cL_law 178 = .ok (.aload_n 0, 1) := by decide +kernel
theorem dL_law_179 : decode cL_law 179 = .ok (.iload_n 3, 1) := by decide +kernel
theorem dL_law_180 : decode cL_law 180 = .ok (.iconst 1, 1) := by decide +kernel
theorem dL_law_181 : decode cL_law 181 = .ok (.iadd, 1) := by decide +kernel
theorem dL_law_182 : decode cL_law 182 = .ok (.iaload, 1) := by decide +kernel
theorem dL_law_183 : decode cL_law 183 = .ok (.aload_n 0, 1) := by decide +kernel
theorem dL_law_184 : decode cL_law 184 = .ok (.iload_n 3, 1) := by decide +kernel
theorem dL_law_185 : decode cL_law 185 = .ok (.iconst 2, 1) := by decide +kernel
theorem dL_law_186 : decode cL_law 186 = .ok (.iadd, 1) := by decide +kernel
theorem dL_law_187 : decode cL_law 187 = .ok (.iaload, 1) := by decide +kernel
theorem dL_law_188 : decode cL_law 188 = .ok (.invokevirtual 18, 3) := by decide +kernel
theorem dL_law_191 : decode cL_law 191 = .ok (.aload_n 2, 1) := by decide +kernel
theorem dL_law_192 : decode cL_law 192 = .ok (.aload_n 0, 1) := by decide +kernel
theorem dL_law_193 : decode cL_law 193 = .ok (.iload_n 3, 1) := by decide +kernel
theorem dL_law_194 : decode cL_law 194 = .ok (.iconst 1, 1) := by decide +kernel
theorem dL_law_195 : decode cL_law 195 = .ok (.iadd, 1) := by decide +kernel
theorem dL_law_196 : decode cL_law 196 = .ok (.iaload, 1) := by decide +kernel
theorem dL_law_197 : decode cL_law 197 = .ok (.aload_n 0, 1) := by decide +kernel
theorem dL_law_198 : decode cL_law 198 = .ok (.iload_n 3, 1) := by decide +kernel
theorem dL_law_199 : decode cL_law 199 = .ok (.iconst 2, 1) := by decide +kernel
theorem dL_law_200 : decode cL_law 200 = .ok (.iadd, 1) := by decide +kernel
theorem dL_law_201 : decode cL_law 201 = .ok (.iaload, 1) := by decide +kernel
theorem dL_law_202 : decode cL_law 202 = .ok (.invokevirtual 21, 3) := by decide +kernel
theorem dL_law_205 : decode cL_law 205 = .ok (.if_icmp .eq 621, 3) := by decide +kernel
theorem dL_law_208 : decode cL_law 208 = .ok (.iconst 0, 1) := by decide +kernel
theorem dL_law_209 : decode cL_law 209 = .ok (.ireturn, 1) := by decide +kernel
theorem dL_law_210 : decode cL_law 210 = .ok (.aload_n 1, 1) := by decide +kernel
theorem dL_law_211 : decode cL_law 211 = .ok (.aload_n 0, 1) := by decide +kernel
theorem dL_law_212 : decode cL_law 212 = .ok (.iload_n 3, 1) := by decide +kernel
theorem dL_law_213 : decode cL_law 213 = .ok (.iconst 1, 1) := by decide +kernel
theorem dL_law_214 : decode cL_law 214 = .ok (.iadd, 1) := by decide +kernel
theorem dL_law_215 : decode cL_law 215 = .ok (.iaload, 1) := by decide +kernel
theorem dL_law_216 : decode cL_law 216 = .ok (.invokevirtual 22, 3) := by decide +kernel
theorem dL_law_219 : decode cL_law 219 = .ok (.aload_n 2, 1) := by decide +kernel
theorem dL_law_220 : decode cL_law 220 = .ok (.aload_n 0, 1) := by decide +kernel
theorem dL_law_221 : decode cL_law 221 = .ok (.iload_n 3, 1) := by decide +kernel
theorem dL_law_222 : decode cL_law 222 = .ok (.iconst 1, 1) := by decide +kernel
theorem dL_law_223 : decode cL_law 223 = .ok (.iadd, 1) := by decide +kernel
theorem dL_law_224 : decode cL_law 224 = .ok (.iaload, 1) := by decide +kernel
theorem dL_law_225 : decode cL_law 225 = .ok (.invokevirtual 26, 3) := by decide +kernel
theorem dL_law_228 : decode cL_law 228 = .ok (.if_icmp .eq 598, 3) := by decide +kernel
theorem dL_law_231 : decode cL_law 231 = .ok (.iconst 0, 1) := by decide +kernel
theorem dL_law_232 : decode cL_law 232 = .ok (.ireturn, 1) := by decide +kernel
theorem dL_law_233 : decode cL_law 233 = .ok (.aload_n 1, 1) := by decide +kernel
theorem dL_law_234 : decode cL_law 234 = .ok (.aload_n 0, 1) := by decide +kernel
theorem dL_law_235 : decode cL_law 235 = .ok (.iload_n 3, 1) := by decide +kernel
theorem dL_law_236 : decode cL_law 236 = .ok (.iconst 1, 1) := by decide +kernel
theorem dL_law_237 : decode cL_law 237 = .ok (.iadd, 1) := by decide +kernel
theorem dL_law_238 : decode cL_law 238 = .ok (.iaload, 1) := by decide +kernel
theorem dL_law_239 : decode cL_law 239 = .ok (.aload_n 0, 1) := by decide +kernel
theorem dL_law_240 : decode cL_law 240 = .ok (.iload_n 3, 1) := by decide +kernel
theorem dL_law_241 : decode cL_law 241 = .ok (.iconst 2, 1) := by decide +kernel
theorem dL_law_242 : decode cL_law 242 = .ok (.iadd, 1) := by decide +kernel
theorem dL_law_243 : decode cL_law 243 = .ok (.iaload, 1) := by decide +kernel
theorem dL_law_244 : decode cL_law 244 = .ok (.invokevirtual 27, 3) := by decide +kernel
theorem dL_law_247 : decode cL_law 247 = .ok (.aload_n 2, 1) := by decide +kernel
theorem dL_law_248 : decode cL_law 248 = .ok (.aload_n 0, 1) := by decide +kernel
theorem dL_law_249 : decode cL_law 249 = .ok (.iload_n 3, 1) := by decide +kernel
theorem dL_law_250 : decode cL_law 250 = .ok (.iconst 1, 1) := by decide +kernel
theorem dL_law_251 : decode cL_law 251 = .ok (.iadd, 1) := by decide +kernel
theorem dL_law_252 : decode cL_law 252 = .ok (.iaload, 1) := by decide +kernel
theorem dL_law_253 : decode cL_law 253 = .ok (.aload_n 0, 1) := by decide +kernel
theorem dL_law_254 : decode cL_law 254 = .ok (.iload_n 3, 1) := by decide +kernel
theorem dL_law_255 : decode cL_law 255 = .ok (.iconst 2, 1) := by decide +kernel
theorem dL_law_256 : decode cL_law 256 = .ok (.iadd, 1) := by decide +kernel
theorem dL_law_257 : decode cL_law 257 = .ok (.iaload, 1) := by decide +kernel
theorem dL_law_258 : decode cL_law 258 = .ok (.invokevirtual 30, 3) := by decide +kernel
theorem dL_law_261 : decode cL_law 261 = .ok (.if_icmp .eq 565, 3) := by decide +kernel
theorem dL_law_264 : decode cL_law 264 = .ok (.iconst 0, 1) := by decide +kernel
theorem dL_law_265 : decode cL_law 265 = .ok (.ireturn, 1) := by decide +kernel
theorem dL_law_266 : decode cL_law 266 = .ok (.aload_n 1, 1) := by decide +kernel
theorem dL_law_267 : decode cL_law 267 = .ok (.aload_n 0, 1) := by decide +kernel
theorem dL_law_268 : decode cL_law 268 = .ok (.iload_n 3, 1) := by decide +kernel
theorem dL_law_269 : decode cL_law 269 = .ok (.iconst 1, 1) := by decide +kernel
theorem dL_law_270 : decode cL_law 270 = .ok (.iadd, 1) := by decide +kernel
theorem dL_law_271 : decode cL_law 271 = .ok (.iaload, 1) := by decide +kernel
theorem dL_law_272 : decode cL_law 272 = .ok (.aload_n 0, 1) := by decide +kernel
theorem dL_law_273 : decode cL_law 273 = .ok (.iload_n 3, 1) := by decide +kernel
theorem dL_law_274 : decode cL_law 274 = .ok (.iconst 2, 1) := by decide +kernel
theorem dL_law_275 : decode cL_law 275 = .ok (.iadd, 1) := by decide +kernel
theorem dL_law_276 : decode cL_law 276 = .ok (.iaload, 1) := by decide +kernel
theorem dL_law_277 : decode cL_law 277 = .ok (.invokevirtual 31, 3) := by decide +kernel
theorem dL_law_280 : decode cL_law 280 = .ok (.aload_n 2, 1) := by decide +kernel
theorem dL_law_281 : decode cL_law 281 = .ok (.aload_n 0, 1) := by decide +kernel
theorem dL_law_282 : decode cL_law 282 = .ok (.iload_n 3, 1) := by decide +kernel
theorem dL_law_283 : decode cL_law 283 = .ok (.iconst 1, 1) := by decide +kernel
theorem dL_law_284 : decode cL_law 284 = .ok (.iadd, 1) := by decide +kernel
theorem dL_law_285 : decode cL_law 285 = .ok (.iaload, 1) := by decide +kernel
theorem dL_law_286 : decode cL_law 286 = .ok (.aload_n 0, 1) := by decide +kernel
theorem dL_law_287 : decode cL_law 287 = .ok (.iload_n 3, 1) := by decide +kernel
theorem dL_law_288 : decode cL_law 288 = .ok (.iconst 2, 1) := by decide +kernel
theorem dL_law_289 : decode cL_law 289 = .ok (.iadd, 1) := by decide +kernel
theorem dL_law_290 : decode cL_law 290 = .ok (.iaload, 1) := by decide +kernel
theorem dL_law_291 : decode cL_law 291 = .ok (.invokevirtual 34, 3) := by decide +kernel
theorem dL_law_294 : decode cL_law 294 = .ok (.if_icmp .eq 532, 3) := by decide +kernel
theorem dL_law_297 : decode cL_law 297 = .ok (.iconst 0, 1) := by decide +kernel
theorem dL_law_298 : decode cL_law 298 = .ok (.ireturn, 1) := by decide +kernel
theorem dL_law_299 : decode cL_law 299 = .ok (.aload_n 1, 1) := by decide +kernel
theorem dL_law_300 : decode cL_law 300 = .ok (.aload_n 0, 1) := by decide +kernel
theorem dL_law_301 : decode cL_law 301 = .ok (.iload_n 3, 1) := by decide +kernel
theorem dL_law_302 : decode cL_law 302 = .ok (.iconst 1, 1) := by decide +kernel
theorem dL_law_303 : decode cL_law 303 = .ok (.iadd, 1) := by decide +kernel
theorem dL_law_304 : decode cL_law 304 = .ok (.iaload, 1) := by decide +kernel
theorem dL_law_305 : decode cL_law 305 = .ok (.aload_n 0, 1) := by decide +kernel
theorem dL_law_306 : decode cL_law 306 = .ok (.iload_n 3, 1) := by decide +kernel
theorem dL_law_307 : decode cL_law 307 = .ok (.iconst 2, 1) := by decide +kernel
theorem dL_law_308 : decode cL_law 308 = .ok (.iadd, 1) := by decide +kernel
theorem dL_law_309 : decode cL_law 309 = .ok (.iaload, 1) := by decide +kernel
theorem dL_law_310 : decode cL_law 310 = .ok (.aload_n 0, 1) := by decide +kernel
theorem dL_law_311 : decode cL_law 311 = .ok (.iload_n 3, 1) := by decide +kernel
theorem dL_law_312 : decode cL_law 312 = .ok (.iconst 3, 1) := by decide +kernel
theorem dL_law_313 : decode cL_law 313 = .ok (.iadd, 1) := by decide +kernel
theorem dL_law_314 : decode cL_law 314 = .ok (.iaload, 1) := by decide +kernel
theorem dL_law_315 : decode cL_law 315 = .ok (.invokevirtual 35, 3) := by decide +kernel
theorem dL_law_318 : decode cL_law 318 = .ok (.aload_n 2, 1) := by decide +kernel
theorem dL_law_319 : decode cL_law 319 = .ok (.aload_n 0, 1) := by decide +kernel
theorem dL_law_320 : decode cL_law 320 = .ok (.iload_n 3, 1) := by decide +kernel
theorem dL_law_321 : decode cL_law 321 = .ok (.iconst 1, 1) := by decide +kernel
theorem dL_law_322 : decode cL_law 322 = .ok (.iadd, 1) := by decide +kernel
theorem dL_law_323 : decode cL_law 323 = .ok (.iaload, 1) := by decide +kernel
theorem dL_law_324 : decode cL_law 324 = .ok (.aload_n 0, 1) := by decide +kernel
theorem dL_law_325 : decode cL_law 325 = .ok (.iload_n 3, 1) := by decide +kernel
theorem dL_law_326 : decode cL_law 326 = .ok (.iconst 2, 1) := by decide +kernel
theorem dL_law_327 : decode cL_law 327 = .ok (.iadd, 1) := by decide +kernel
theorem dL_law_328 : decode cL_law 328 = .ok (.iaload, 1) := by decide +kernel
theorem dL_law_329 : decode cL_law 329 = .ok (.aload_n 0, 1) := by decide +kernel
theorem dL_law_330 : decode cL_law 330 = .ok (.iload_n 3, 1) := by decide +kernel
theorem dL_law_331 : decode cL_law 331 = .ok (.iconst 3, 1) := by decide +kernel
theorem dL_law_332 : decode cL_law 332 = .ok (.iadd, 1) := by decide +kernel
theorem dL_law_333 : decode cL_law 333 = .ok (.iaload, 1) := by decide +kernel
theorem dL_law_334 : decode cL_law 334 = .ok (.invokevirtual 39, 3) := by decide +kernel
theorem dL_law_337 : decode cL_law 337 = .ok (.if_icmp .eq 489, 3) := by decide +kernel
theorem dL_law_340 : decode cL_law 340 = .ok (.iconst 0, 1) := by decide +kernel
theorem dL_law_341 : decode cL_law 341 = .ok (.ireturn, 1) := by decide +kernel
theorem dL_law_342 : decode cL_law 342 = .ok (.aload_n 1, 1) := by decide +kernel
theorem dL_law_343 : decode cL_law 343 = .ok (.aload_n 0, 1) := by decide +kernel
theorem dL_law_344 : decode cL_law 344 = .ok (.iload_n 3, 1) := by decide +kernel
theorem dL_law_345 : decode cL_law 345 = .ok (.iconst 1, 1) := by decide +kernel
theorem dL_law_346 : decode cL_law 346 = .ok (.iadd, 1) := by decide +kernel
theorem dL_law_347 : decode cL_law 347 = .ok (.iaload, 1) := by decide +kernel
theorem dL_law_348 : decode cL_law 348 = .ok (.invokevirtual 40, 3) := by decide +kernel
theorem dL_law_351 : decode cL_law 351 = .ok (.aload_n 2, 1) := by decide +kernel
theorem dL_law_352 : decode cL_law 352 = .ok (.aload_n 0, 1) := by decide +kernel
theorem dL_law_353 : decode cL_law 353 = .ok (.iload_n 3, 1) := by decide +kernel
theorem dL_law_354 : decode cL_law 354 = .ok (.iconst 1, 1) := by decide +kernel
theorem dL_law_355 : decode cL_law 355 = .ok (.iadd, 1) := by decide +kernel
theorem dL_law_356 : decode cL_law 356 = .ok (.iaload, 1) := by decide +kernel
theorem dL_law_357 : decode cL_law 357 = .ok (.invokevirtual 43, 3) := by decide +kernel
theorem dL_law_360 : decode cL_law 360 = .ok (.if_icmp .eq 466, 3) := by decide +kernel
theorem dL_law_363 : decode cL_law 363 = .ok (.iconst 0, 1) := by decide +kernel
theorem dL_law_364 : decode cL_law 364 = .ok (.ireturn, 1) := by decide +kernel
theorem dL_law_365 : decode cL_law 365 = .ok (.aload_n 1, 1) := by decide +kernel
theorem dL_law_366 : decode cL_law 366 = .ok (.aload_n 0, 1) := by decide +kernel
theorem dL_law_367 : decode cL_law 367 = .ok (.iload_n 3, 1) := by decide +kernel
theorem dL_law_368 : decode cL_law 368 = .ok (.iconst 1, 1) := by decide +kernel
theorem dL_law_369 : decode cL_law 369 = .ok (.iadd, 1) := by decide +kernel
theorem dL_law_370 : decode cL_law 370 = .ok (.iaload, 1) := by decide +kernel
theorem dL_law_371 : decode cL_law 371 = .ok (.invokevirtual 44, 3) := by decide +kernel
theorem dL_law_374 : decode cL_law 374 = .ok (.aload_n 2, 1) := by decide +kernel
theorem dL_law_375 : decode cL_law 375 = .ok (.aload_n 0, 1) := by decide +kernel
theorem dL_law_376 : decode cL_law 376 = .ok (.iload_n 3, 1) := by decide +kernel
theorem dL_law_377 : decode cL_law 377 = .ok (.iconst 1, 1) := by decide +kernel
theorem dL_law_378 : decode cL_law 378 = .ok (.iadd, 1) := by decide +kernel
theorem dL_law_379 : decode cL_law 379 = .ok (.iaload, 1) := by decide +kernel
theorem dL_law_380 : decode cL_law 380 = .ok (.invokevirtual 47, 3) := by decide +kernel
theorem dL_law_383 : decode cL_law 383 = .ok (.if_icmp .eq 443, 3) := by decide +kernel
theorem dL_law_386 : decode cL_law 386 = .ok (.iconst 0, 1) := by decide +kernel
theorem dL_law_387 : decode cL_law 387 = .ok (.ireturn, 1) := by decide +kernel
theorem dL_law_388 : decode cL_law 388 = .ok (.aload_n 1, 1) := by decide +kernel
theorem dL_law_389 : decode cL_law 389 = .ok (.invokevirtual 48, 3) := by decide +kernel
theorem dL_law_392 : decode cL_law 392 = .ok (.aload_n 2, 1) := by decide +kernel
theorem dL_law_393 : decode cL_law 393 = .ok (.invokevirtual 52, 3) := by decide +kernel
theorem dL_law_396 : decode cL_law 396 = .ok (.if_icmp .eq 430, 3) := by decide +kernel
theorem dL_law_399 : decode cL_law 399 = .ok (.iconst 0, 1) := by decide +kernel
theorem dL_law_400 : decode cL_law 400 = .ok (.ireturn, 1) := by decide +kernel
theorem dL_law_401 : decode cL_law 401 = .ok (.aload_n 1, 1) := by decide +kernel
theorem dL_law_402 : decode cL_law 402 = .ok (.aload_n 0, 1) := by decide +kernel
theorem dL_law_403 : decode cL_law 403 = .ok (.iload_n 3, 1) := by decide +kernel
theorem dL_law_404 : decode cL_law 404 = .ok (.iconst 1, 1) := by decide +kernel
theorem dL_law_405 : decode cL_law 405 = .ok (.iadd, 1) := by decide +kernel
theorem dL_law_406 : decode cL_law 406 = .ok (.iaload, 1) := by decide +kernel
theorem dL_law_407 : decode cL_law 407 = .ok (.aload_n 0, 1) := by decide +kernel
theorem dL_law_408 : decode cL_law 408 = .ok (.iload_n 3, 1) := by decide +kernel
theorem dL_law_409 : decode cL_law 409 = .ok (.iconst 2, 1) := by decide +kernel
theorem dL_law_410 : decode cL_law 410 = .ok (.iadd, 1) := by decide +kernel
theorem dL_law_411 : decode cL_law 411 = .ok (.iaload, 1) := by decide +kernel
theorem dL_law_412 : decode cL_law 412 = .ok (.invokevirtual 53, 3) := by decide +kernel
theorem dL_law_415 : decode cL_law 415 = .ok (.aload_n 2, 1) := by decide +kernel
theorem dL_law_416 : decode cL_law 416 = .ok (.aload_n 0, 1) := by decide +kernel
theorem dL_law_417 : decode cL_law 417 = .ok (.iload_n 3, 1) := by decide +kernel
theorem dL_law_418 : decode cL_law 418 = .ok (.iconst 1, 1) := by decide +kernel
theorem dL_law_419 : decode cL_law 419 = .ok (.iadd, 1) := by decide +kernel
theorem dL_law_420 : decode cL_law 420 = .ok (.iaload, 1) := by decide +kernel
theorem dL_law_421 : decode cL_law 421 = .ok (.aload_n 0, 1) := by decide +kernel
theorem dL_law_422 : decode cL_law 422 = .ok (.iload_n 3, 1) := by decide +kernel
theorem dL_law_423 : decode cL_law 423 = .ok (.iconst 2, 1) := by decide +kernel
theorem dL_law_424 : decode cL_law 424 = .ok (.iadd, 1) := by decide +kernel
theorem dL_law_425 : decode cL_law 425 = .ok (.iaload, 1) := by decide +kernel
theorem dL_law_426 : decode cL_law 426 = .ok (.invokevirtual 56, 3) := by decide +kernel
theorem dL_law_429 : decode cL_law 429 = .ok (.if_icmp .eq 397, 3) := by decide +kernel
theorem dL_law_432 : decode cL_law 432 = .ok (.iconst 0, 1) := by decide +kernel
theorem dL_law_433 : decode cL_law 433 = .ok (.ireturn, 1) := by decide +kernel
theorem dL_law_434 : decode cL_law 434 = .ok (.aload_n 1, 1) := by decide +kernel
theorem dL_law_435 : decode cL_law 435 = .ok (.aload_n 0, 1) := by decide +kernel
theorem dL_law_436 : decode cL_law 436 = .ok (.iload_n 3, 1) := by decide +kernel
theorem dL_law_437 : decode cL_law 437 = .ok (.iconst 1, 1) := by decide +kernel
theorem dL_law_438 : decode cL_law 438 = .ok (.iadd, 1) := by decide +kernel
theorem dL_law_439 : decode cL_law 439 = .ok (.iaload, 1) := by decide +kernel
theorem dL_law_440 : decode cL_law 440 = .ok (.aload_n 0, 1) := by decide +kernel
theorem dL_law_441 : decode cL_law 441 = .ok (.iload_n 3, 1) := by decide +kernel
theorem dL_law_442 : decode cL_law 442 = .ok (.iconst 2, 1) := by decide +kernel
theorem dL_law_443 : decode cL_law 443 = .ok (.iadd, 1) := by decide +kernel
theorem dL_law_444 : decode cL_law 444 = .ok (.iaload, 1) := by decide +kernel
theorem dL_law_445 : decode cL_law 445 = .ok (.invokevirtual 57, 3) := by decide +kernel
theorem dL_law_448 : decode cL_law 448 = .ok (.aload_n 2, 1) := by decide +kernel
theorem dL_law_449 : decode cL_law 449 = .ok (.aload_n 0, 1) := by decide +kernel
theorem dL_law_450 : decode cL_law 450 = .ok (.iload_n 3, 1) := by decide +kernel
theorem dL_law_451 : decode cL_law 451 = .ok (.iconst 1, 1) := by decide +kernel
theorem dL_law_452 : decode cL_law 452 = .ok (.iadd, 1) := by decide +kernel
theorem dL_law_453 : decode cL_law 453 = .ok (.iaload, 1) := by decide +kernel
theorem dL_law_454 : decode cL_law 454 = .ok (.aload_n 0, 1) := by decide +kernel
theorem dL_law_455 : decode cL_law 455 = .ok (.iload_n 3, 1) := by decide +kernel
theorem dL_law_456 : decode cL_law 456 = .ok (.iconst 2, 1) := by decide +kernel
theorem dL_law_457 : decode cL_law 457 = .ok (.iadd, 1) := by decide +kernel
theorem dL_law_458 : decode cL_law 458 = .ok (.iaload, 1) := by decide +kernel
theorem dL_law_459 : decode cL_law 459 = .ok (.invokevirtual 60, 3) := by decide +kernel
theorem dL_law_462 : decode cL_law 462 = .ok (.if_icmp .eq 364, 3) := by decide +kernel
theorem dL_law_465 : decode cL_law 465 = .ok (.iconst 0, 1) := by decide +kernel
theorem dL_law_466 : decode cL_law 466 = .ok (.ireturn, 1) := by decide +kernel
theorem dL_law_467 : decode cL_law 467 = .ok (.aload_n 1, 1) := by decide +kernel
theorem dL_law_468 : decode cL_law 468 = .ok (.aload_n 0, 1) := by decide +kernel
theorem dL_law_469 : decode cL_law 469 = .ok (.iload_n 3, 1) := by decide +kernel
theorem dL_law_470 : decode cL_law 470 = .ok (.iconst 1, 1) := by decide +kernel
theorem dL_law_471 : decode cL_law 471 = .ok (.iadd, 1) := by decide +kernel
theorem dL_law_472 : decode cL_law 472 = .ok (.iaload, 1) := by decide +kernel
theorem dL_law_473 : decode cL_law 473 = .ok (.aload_n 0, 1) := by decide +kernel
theorem dL_law_474 : decode cL_law 474 = .ok (.iload_n 3, 1) := by decide +kernel
theorem dL_law_475 : decode cL_law 475 = .ok (.iconst 2, 1) := by decide +kernel
theorem dL_law_476 : decode cL_law 476 = .ok (.iadd, 1) := by decide +kernel
theorem dL_law_477 : decode cL_law 477 = .ok (.iaload, 1) := by decide +kernel
theorem dL_law_478 : decode cL_law 478 = .ok (.invokevirtual 61, 3) := by decide +kernel
theorem dL_law_481 : decode cL_law 481 = .ok (.aload_n 2, 1) := by decide +kernel
theorem dL_law_482 : decode cL_law 482 = .ok (.aload_n 0, 1) := by decide +kernel
theorem dL_law_483 : decode cL_law 483 = .ok (.iload_n 3, 1) := by decide +kernel
theorem dL_law_484 : decode cL_law 484 = .ok (.iconst 1, 1) := by decide +kernel
theorem dL_law_485 : decode cL_law 485 = .ok (.iadd, 1) := by decide +kernel
theorem dL_law_486 : decode cL_law 486 = .ok (.iaload, 1) := by decide +kernel
theorem dL_law_487 : decode cL_law 487 = .ok (.aload_n 0, 1) := by decide +kernel
theorem dL_law_488 : decode cL_law 488 = .ok (.iload_n 3, 1) := by decide +kernel
theorem dL_law_489 : decode cL_law 489 = .ok (.iconst 2, 1) := by decide +kernel
theorem dL_law_490 : decode cL_law 490 = .ok (.iadd, 1) := by decide +kernel
theorem dL_law_491 : decode cL_law 491 = .ok (.iaload, 1) := by decide +kernel
theorem dL_law_492 : decode cL_law 492 = .ok (.invokevirtual 64, 3) := by decide +kernel
theorem dL_law_495 : decode cL_law 495 = .ok (.if_icmp .eq 331, 3) := by decide +kernel
theorem dL_law_498 : decode cL_law 498 = .ok (.iconst 0, 1) := by decide +kernel
theorem dL_law_499 : decode cL_law 499 = .ok (.ireturn, 1) := by decide +kernel
theorem dL_law_500 : decode cL_law 500 = .ok (.aload_n 1, 1) := by decide +kernel
theorem dL_law_501 : decode cL_law 501 = .ok (.aload_n 0, 1) := by decide +kernel
theorem dL_law_502 : decode cL_law 502 = .ok (.iload_n 3, 1) := by decide +kernel
theorem dL_law_503 : decode cL_law 503 = .ok (.iconst 1, 1) := by decide +kernel
theorem dL_law_504 : decode cL_law 504 = .ok (.iadd, 1) := by decide +kernel
theorem dL_law_505 : decode cL_law 505 = .ok (.iaload, 1) := by decide +kernel
theorem dL_law_506 : decode cL_law 506 = .ok (.aload_n 0, 1) := by decide +kernel
theorem dL_law_507 : decode cL_law 507 = .ok (.iload_n 3, 1) := by decide +kernel
theorem dL_law_508 : decode cL_law 508 = .ok (.iconst 2, 1) := by decide +kernel
theorem dL_law_509 : decode cL_law 509 = .ok (.iadd, 1) := by decide +kernel
theorem dL_law_510 : decode cL_law 510 = .ok (.iaload, 1) := by decide +kernel
theorem dL_law_511 : decode cL_law 511 = .ok (.invokevirtual 65, 3) := by decide +kernel
theorem dL_law_514 : decode cL_law 514 = .ok (.aload_n 2, 1) := by decide +kernel
theorem dL_law_515 : decode cL_law 515 = .ok (.aload_n 0, 1) := by decide +kernel
theorem dL_law_516 : decode cL_law 516 = .ok (.iload_n 3, 1) := by decide +kernel
theorem dL_law_517 : decode cL_law 517 = .ok (.iconst 1, 1) := by decide +kernel
theorem dL_law_518 : decode cL_law 518 = .ok (.iadd, 1) := by decide +kernel
theorem dL_law_519 : decode cL_law 519 = .ok (.iaload, 1) := by decide +kernel
theorem dL_law_520 : decode cL_law 520 = .ok (.aload_n 0, 1) := by decide +kernel
theorem dL_law_521 : decode cL_law 521 = .ok (.iload_n 3, 1) := by decide +kernel
theorem dL_law_522 : decode cL_law 522 = .ok (.iconst 2, 1) := by decide +kernel
theorem dL_law_523 : decode cL_law 523 = .ok (.iadd, 1) := by decide +kernel
theorem dL_law_524 : decode cL_law 524 = .ok (.iaload, 1) := by decide +kernel
theorem dL_law_525 : decode cL_law 525 = .ok (.invokevirtual 68, 3) := by decide +kernel
theorem dL_law_528 : decode cL_law 528 = .ok (.if_icmp .eq 298, 3) := by decide +kernel
theorem dL_law_531 : decode cL_law 531 = .ok (.iconst 0, 1) := by decide +kernel
theorem dL_law_532 : decode cL_law 532 = .ok (.ireturn, 1) := by decide +kernel
theorem dL_law_533 : decode cL_law 533 = .ok (.aload_n 1, 1) := by decide +kernel
theorem dL_law_534 : decode cL_law 534 = .ok (.aload_n 0, 1) := by decide +kernel
theorem dL_law_535 : decode cL_law 535 = .ok (.iload_n 3, 1) := by decide +kernel
theorem dL_law_536 : decode cL_law 536 = .ok (.iconst 1, 1) := by decide +kernel
theorem dL_law_537 : decode cL_law 537 = .ok (.iadd, 1) := by decide +kernel
theorem dL_law_538 : decode cL_law 538 = .ok (.iaload, 1) := by decide +kernel
theorem dL_law_539 : decode cL_law 539 = .ok (.invokevirtual 69, 3) := by decide +kernel
theorem dL_law_542 : decode cL_law 542 = .ok (.aload_n 2, 1) := by decide +kernel
theorem dL_law_543 : decode cL_law 543 = .ok (.aload_n 0, 1) := by decide +kernel
theorem dL_law_544 : decode cL_law 544 = .ok (.iload_n 3, 1) := by decide +kernel
theorem dL_law_545 : decode cL_law 545 = .ok (.iconst 1, 1) := by decide +kernel
theorem dL_law_546 : decode cL_law 546 = .ok (.iadd, 1) := by decide +kernel
theorem dL_law_547 : decode cL_law 547 = .ok (.iaload, 1) := by decide +kernel
theorem dL_law_548 : decode cL_law 548 = .ok (.invokevirtual 72, 3) := by decide +kernel
theorem dL_law_551 : decode cL_law 551 = .ok (.if_icmp .eq 275, 3) := by decide +kernel
theorem dL_law_554 : decode cL_law 554 = .ok (.iconst 0, 1) := by decide +kernel
theorem dL_law_555 : decode cL_law 555 = .ok (.ireturn, 1) := by decide +kernel
theorem dL_law_556 : decode cL_law 556 = .ok (.aload_n 1, 1) := by decide +kernel
theorem dL_law_557 : decode cL_law 557 = .ok (.aload_n 0, 1) := by decide +kernel
theorem dL_law_558 : decode cL_law 558 = .ok (.iload_n 3, 1) := by decide +kernel
theorem dL_law_559 : decode cL_law 559 = .ok (.iconst 1, 1) := by decide +kernel
theorem dL_law_560 : decode cL_law 560 = .ok (.iadd, 1) := by decide +kernel
theorem dL_law_561 : decode cL_law 561 = .ok (.iaload, 1) := by decide +kernel
theorem dL_law_562 : decode cL_law 562 = .ok (.aload_n 0, 1) := by decide +kernel
theorem dL_law_563 : decode cL_law 563 = .ok (.iload_n 3, 1) := by decide +kernel
theorem dL_law_564 : decode cL_law 564 = .ok (.iconst 2, 1) := by decide +kernel
theorem dL_law_565 : decode cL_law 565 = .ok (.iadd, 1) := by decide +kernel
theorem dL_law_566 : decode cL_law 566 = .ok (.iaload, 1) := by decide +kernel
theorem dL_law_567 : decode cL_law 567 = .ok (.aload_n 0, 1) := by decide +kernel
theorem dL_law_568 : decode cL_law 568 = .ok (.iload_n 3, 1) := by decide +kernel
theorem dL_law_569 : decode cL_law 569 = .ok (.iconst 3, 1) := by decide +kernel
theorem dL_law_570 : decode cL_law 570 = .ok (.iadd, 1) := by decide +kernel
theorem dL_law_571 : decode cL_law 571 = .ok (.iaload, 1) := by decide +kernel
theorem dL_law_572 : decode cL_law 572 = .ok (.aload_n 0, 1) := by decide +kernel
theorem dL_law_573 : decode cL_law 573 = .ok (.iload_n 3, 1) := by decide +kernel
theorem dL_law_574 : decode cL_law 574 = .ok (.iconst 4, 1) := by decide +kernel
theorem dL_law_575 : decode cL_law 575 = .ok (.iadd, 1) := by decide +kernel
theorem dL_law_576 : decode cL_law 576 = .ok (.iaload, 1) := by decide +kernel
theorem dL_law_577 : decode cL_law 577 = .ok (.invokevirtual 73, 3) := by decide +kernel
theorem dL_law_580 : decode cL_law 580 = .ok (.aload_n 2, 1) := by decide +kernel
theorem dL_law_581 : decode cL_law 581 = .ok (.aload_n 0, 1) := by decide +kernel
theorem dL_law_582 : decode cL_law 582 = .ok (.iload_n 3, 1) := by decide +kernel
theorem dL_law_583 : decode cL_law 583 = .ok (.iconst 1, 1) := by decide +kernel
theorem dL_law_584 : decode cL_law 584 = .ok (.iadd, 1) := by decide +kernel
theorem dL_law_585 : decode cL_law 585 = .ok (.iaload, 1) := by decide +kernel
theorem dL_law_586 : decode cL_law 586 = .ok (.aload_n 0, 1) := by decide +kernel
theorem dL_law_587 : decode cL_law 587 = .ok (.iload_n 3, 1) := by decide +kernel
theorem dL_law_588 : decode cL_law 588 = .ok (.iconst 2, 1) := by decide +kernel
theorem dL_law_589 : decode cL_law 589 = .ok (.iadd, 1) := by decide +kernel
theorem dL_law_590 : decode cL_law 590 = .ok (.iaload, 1) := by decide +kernel
theorem dL_law_591 : decode cL_law 591 = .ok (.aload_n 0, 1) := by decide +kernel
theorem dL_law_592 : decode cL_law 592 = .ok (.iload_n 3, 1) := by decide +kernel
theorem dL_law_593 : decode cL_law 593 = .ok (.iconst 3, 1) := by decide +kernel
theorem dL_law_594 : decode cL_law 594 = .ok (.iadd, 1) := by decide +kernel
theorem dL_law_595 : decode cL_law 595 = .ok (.iaload, 1) := by decide +kernel
theorem dL_law_596 : decode cL_law 596 = .ok (.aload_n 0, 1) := by decide +kernel
theorem dL_law_597 : decode cL_law 597 = .ok (.iload_n 3, 1) := by decide +kernel
theorem dL_law_598 : decode cL_law 598 = .ok (.iconst 4, 1) := by decide +kernel
theorem dL_law_599 : decode cL_law 599 = .ok (.iadd, 1) := by decide +kernel
theorem dL_law_600 : decode cL_law 600 = .ok (.iaload, 1) := by decide +kernel
theorem dL_law_601 : decode cL_law 601 = .ok (.invokevirtual 77, 3) := by decide +kernel
theorem dL_law_604 : decode cL_law 604 = .ok (.if_icmp .eq 222, 3) := by decide +kernel
theorem dL_law_607 : decode cL_law 607 = .ok (.iconst 0, 1) := by decide +kernel
theorem dL_law_608 : decode cL_law 608 = .ok (.ireturn, 1) := by decide +kernel
theorem dL_law_609 : decode cL_law 609 = .ok (.aload_n 1, 1) := by decide +kernel
theorem dL_law_610 : decode cL_law 610 = .ok (.aload_n 0, 1) := by decide +kernel
theorem dL_law_611 : decode cL_law 611 = .ok (.iload_n 3, 1) := by decide +kernel
theorem dL_law_612 : decode cL_law 612 = .ok (.iconst 1, 1) := by decide +kernel
theorem dL_law_613 : decode cL_law 613 = .ok (.iadd, 1) := by decide +kernel
theorem dL_law_614 : decode cL_law 614 = .ok (.iaload, 1) := by decide +kernel
theorem dL_law_615 : decode cL_law 615 = .ok (.invokevirtual 78, 3) := by decide +kernel
theorem dL_law_618 : decode cL_law 618 = .ok (.aload_n 2, 1) := by decide +kernel
theorem dL_law_619 : decode cL_law 619 = .ok (.aload_n 0, 1) := by decide +kernel
theorem dL_law_620 : decode cL_law 620 = .ok (.iload_n 3, 1) := by decide +kernel
theorem dL_law_621 : decode cL_law 621 = .ok (.iconst 1, 1) := by decide +kernel
theorem dL_law_622 : decode cL_law 622 = .ok (.iadd, 1) := by decide +kernel
theorem dL_law_623 : decode cL_law 623 = .ok (.iaload, 1) := by decide +kernel
theorem dL_law_624 : decode cL_law 624 = .ok (.invokevirtual 81, 3) := by decide +kernel
theorem dL_law_627 : decode cL_law 627 = .ok (.if_icmp .eq 199, 3) := by decide +kernel
theorem dL_law_630 : decode cL_law 630 = .ok (.iconst 0, 1) := by decide +kernel
theorem dL_law_631 : decode cL_law 631 = .ok (.ireturn, 1) := by decide +kernel
theorem dL_law_632 : decode cL_law 632 = .ok (.aload_n 1, 1) := by decide +kernel
theorem dL_law_633 : decode cL_law 633 = .ok (.aload_n 0, 1) := by decide +kernel
theorem dL_law_634 : decode cL_law 634 = .ok (.iload_n 3, 1) := by decide +kernel
theorem dL_law_635 : decode cL_law 635 = .ok (.iconst 1, 1) := by decide +kernel
theorem dL_law_636 : decode cL_law 636 = .ok (.iadd, 1) := by decide +kernel
theorem dL_law_637 : decode cL_law 637 = .ok (.iaload, 1) := by decide +kernel
theorem dL_law_638 : decode cL_law 638 = .ok (.invokevirtual 82, 3) := by decide +kernel
theorem dL_law_641 : decode cL_law 641 = .ok (.aload_n 2, 1) := by decide +kernel
theorem dL_law_642 : decode cL_law 642 = .ok (.aload_n 0, 1) := by decide +kernel
theorem dL_law_643 : decode cL_law 643 = .ok (.iload_n 3, 1) := by decide +kernel
theorem dL_law_644 : decode cL_law 644 = .ok (.iconst 1, 1) := by decide +kernel
theorem dL_law_645 : decode cL_law 645 = .ok (.iadd, 1) := by decide +kernel
theorem dL_law_646 : decode cL_law 646 = .ok (.iaload, 1) := by decide +kernel
theorem dL_law_647 : decode cL_law 647 = .ok (.invokevirtual 85, 3) := by decide +kernel
theorem dL_law_650 : decode cL_law 650 = .ok (.if_icmp .eq 176, 3) := by decide +kernel
theorem dL_law_653 : decode cL_law 653 = .ok (.iconst 0, 1) := by decide +kernel
theorem dL_law_654 : decode cL_law 654 = .ok (.ireturn, 1) := by decide +kernel
theorem dL_law_655 : decode cL_law 655 = .ok (.aload_n 1, 1) := by decide +kernel
theorem dL_law_656 : decode cL_law 656 = .ok (.aload_n 0, 1) := by decide +kernel
theorem dL_law_657 : decode cL_law 657 = .ok (.iload_n 3, 1) := by decide +kernel
theorem dL_law_658 : decode cL_law 658 = .ok (.iconst 1, 1) := by decide +kernel
theorem dL_law_659 : decode cL_law 659 = .ok (.iadd, 1) := by decide +kernel
theorem dL_law_660 : decode cL_law 660 = .ok (.iaload, 1) := by decide +kernel
theorem dL_law_661 : decode cL_law 661 = .ok (.aload_n 0, 1) := by decide +kernel
theorem dL_law_662 : decode cL_law 662 = .ok (.iload_n 3, 1) := by decide +kernel
theorem dL_law_663 : decode cL_law 663 = .ok (.iconst 2, 1) := by decide +kernel
theorem dL_law_664 : decode cL_law 664 = .ok (.iadd, 1) := by decide +kernel
theorem dL_law_665 : decode cL_law 665 = .ok (.iaload, 1) := by decide +kernel
theorem dL_law_666 : decode cL_law 666 = .ok (.invokevirtual 86, 3) := by decide +kernel
theorem dL_law_669 : decode cL_law 669 = .ok (.aload_n 2, 1) := by decide +kernel
theorem dL_law_670 : decode cL_law 670 = .ok (.aload_n 0, 1) := by decide +kernel
theorem dL_law_671 : decode cL_law 671 = .ok (.iload_n 3, 1) := by decide +kernel
theorem dL_law_672 : decode cL_law 672 = .ok (.iconst 1, 1) := by decide +kernel
theorem dL_law_673 : decode cL_law 673 = .ok (.iadd, 1) := by decide +kernel
theorem dL_law_674 : decode cL_law 674 = .ok (.iaload, 1) := by decide +kernel
theorem dL_law_675 : decode cL_law 675 = .ok (.aload_n 0, 1) := by decide +kernel
theorem dL_law_676 : decode cL_law 676 = .ok (.iload_n 3, 1) := by decide +kernel
theorem dL_law_677 : decode cL_law 677 = .ok (.iconst 2, 1) := by decide +kernel
theorem dL_law_678 : decode cL_law 678 = .ok (.iadd, 1) := by decide +kernel
theorem dL_law_679 : decode cL_law 679 = .ok (.iaload, 1) := by decide +kernel
theorem dL_law_680 : decode cL_law 680 = .ok (.invokevirtual 89, 3) := by decide +kernel
theorem dL_law_683 : decode cL_law 683 = .ok (.if_icmp .eq 143, 3) := by decide +kernel
theorem dL_law_686 : decode cL_law 686 = .ok (.iconst 0, 1) := by decide +kernel
theorem dL_law_687 : decode cL_law 687 = .ok (.ireturn, 1) := by decide +kernel
theorem dL_law_688 : decode cL_law 688 = .ok (.aload_n 1, 1) := by decide +kernel
theorem dL_law_689 : decode cL_law 689 = .ok (.aload_n 0, 1) := by decide +kernel
theorem dL_law_690 : decode cL_law 690 = .ok (.iload_n 3, 1) := by decide +kernel
theorem dL_law_691 : decode cL_law 691 = .ok (.iconst 1, 1) := by decide +kernel
theorem dL_law_692 : decode cL_law 692 = .ok (.iadd, 1) := by decide +kernel
theorem dL_law_693 : decode cL_law 693 = .ok (.iaload, 1) := by decide +kernel
theorem dL_law_694 : decode cL_law 694 = .ok (.i2l, 1) := by decide +kernel
theorem dL_law_695 : decode cL_law 695 = .ok (.bipush 32, 2) := by decide +kernel
theorem dL_law_697 : decode cL_law 697 = .ok (.lshl, 1) := by decide +kernel
theorem dL_law_698 : decode cL_law 698 = .ok (.aload_n 0, 1) := by decide +kernel
theorem dL_law_699 : decode cL_law 699 = .ok (.iload_n 3, 1) := by decide +kernel
theorem dL_law_700 : decode cL_law 700 = .ok (.iconst 2, 1) := by decide +kernel
theorem dL_law_701 : decode cL_law 701 = .ok (.iadd, 1) := by decide +kernel
theorem dL_law_702 : decode cL_law 702 = .ok (.iaload, 1) := by decide +kernel
theorem dL_law_703 : decode cL_law 703 = .ok (.i2l, 1) := by decide +kernel
theorem dL_law_704 : decode cL_law 704 = .ok (.ldc2_w 90, 3) := by decide +kernel
theorem dL_law_707 : decode cL_law 707 = .ok (.land, 1) := by decide +kernel
theorem dL_law_708 : decode cL_law 708 = .ok (.lor, 1) := by decide +kernel
theorem dL_law_709 : decode cL_law 709 = .ok (.invokevirtual 92, 3) := by decide +kernel
theorem dL_law_712 : decode cL_law 712 = .ok (.aload_n 2, 1) := by decide +kernel
theorem dL_law_713 : decode cL_law 713 = .ok (.aload_n 0, 1) := by decide +kernel
theorem dL_law_714 : decode cL_law 714 = .ok (.iload_n 3, 1) := by decide +kernel
theorem dL_law_715 : decode cL_law 715 = .ok (.iconst 1, 1) := by decide +kernel
theorem dL_law_716 : decode cL_law 716 = .ok (.iadd, 1) := by decide +kernel
theorem dL_law_717 : decode cL_law 717 = .ok (.iaload, 1) := by decide +kernel
theorem dL_law_718 : decode cL_law 718 = .ok (.i2l, 1) := by decide +kernel
theorem dL_law_719 : decode cL_law 719 = .ok (.bipush 32, 2) := by decide +kernel
theorem dL_law_721 : decode cL_law 721 = .ok (.lshl, 1) := by decide +kernel
theorem dL_law_722 : decode cL_law 722 = .ok (.aload_n 0, 1) := by decide +kernel
theorem dL_law_723 : decode cL_law 723 = .ok (.iload_n 3, 1) := by decide +kernel
theorem dL_law_724 : decode cL_law 724 = .ok (.iconst 2, 1) := by decide +kernel
theorem dL_law_725 : decode cL_law 725 = .ok (.iadd, 1) := by decide +kernel
theorem dL_law_726 : decode cL_law 726 = .ok (.iaload, 1) := by decide +kernel
theorem dL_law_727 : decode cL_law 727 = .ok (.i2l, 1) := by decide +kernel
theorem dL_law_728 : decode cL_law 728 = .ok (.ldc2_w 90, 3) := by decide +kernel
theorem dL_law_731 : decode cL_law 731 = .ok (.land, 1) := by decide +kernel
theorem dL_law_732 : decode cL_law 732 = .ok (.lor, 1) := by decide +kernel
theorem dL_law_733 : decode cL_law 733 = .ok (.invokevirtual 96, 3) := by decide +kernel
theorem dL_law_736 : decode cL_law 736 = .ok (.if_icmp .eq 90, 3) := by decide +kernel
theorem dL_law_739 : decode cL_law 739 = .ok (.iconst 0, 1) := by decide +kernel
theorem dL_law_740 : decode cL_law 740 = .ok (.ireturn, 1) := by decide +kernel
theorem dL_law_741 : decode cL_law 741 = .ok (.aload_n 1, 1) := by decide +kernel
theorem dL_law_742 : decode cL_law 742 = .ok (.invokevirtual 97, 3) := by decide +kernel
theorem dL_law_745 : decode cL_law 745 = .ok (.aload_n 2, 1) := by decide +kernel
theorem dL_law_746 : decode cL_law 746 = .ok (.invokevirtual 100, 3) := by decide +kernel
theorem dL_law_749 : decode cL_law 749 = .ok (.if_icmp .eq 77, 3) := by decide +kernel
theorem dL_law_752 : decode cL_law 752 = .ok (.iconst 0, 1) := by decide +kernel
theorem dL_law_753 : decode cL_law 753 = .ok (.ireturn, 1) := by decide +kernel
theorem dL_law_754 : decode cL_law 754 = .ok (.aload_n 1, 1) := by decide +kernel
theorem dL_law_755 : decode cL_law 755 = .ok (.invokevirtual 101, 3) := by decide +kernel
theorem dL_law_758 : decode cL_law 758 = .ok (.aload_n 2, 1) := by decide +kernel
theorem dL_law_759 : decode cL_law 759 = .ok (.invokevirtual 104, 3) := by decide +kernel
theorem dL_law_762 : decode cL_law 762 = .ok (.if_icmp .eq 64, 3) := by decide +kernel
theorem dL_law_765 : decode cL_law 765 = .ok (.iconst 0, 1) := by decide +kernel
theorem dL_law_766 : decode cL_law 766 = .ok (.ireturn, 1) := by decide +kernel
theorem dL_law_767 : decode cL_law 767 = .ok (.aload_n 1, 1) := by decide +kernel
theorem dL_law_768 : decode cL_law 768 = .ok (.invokevirtual 105, 3) := by decide +kernel
theorem dL_law_771 : decode cL_law 771 = .ok (.aload_n 2, 1) := by decide +kernel
theorem dL_law_772 : decode cL_law 772 = .ok (.invokevirtual 108, 3) := by decide +kernel
theorem dL_law_775 : decode cL_law 775 = .ok (.if_icmp .eq 51, 3) := by decide +kernel
theorem dL_law_778 : decode cL_law 778 = .ok (.iconst 0, 1) := by decide +kernel
theorem dL_law_779 : decode cL_law 779 = .ok (.ireturn, 1) := by decide +kernel
theorem dL_law_780 : decode cL_law 780 = .ok (.aload_n 1, 1) := by decide +kernel
theorem dL_law_781 : decode cL_law 781 = .ok (.aload_n 0, 1) := by decide +kernel
theorem dL_law_782 : decode cL_law 782 = .ok (.iload_n 3, 1) := by decide +kernel
theorem dL_law_783 : decode cL_law 783 = .ok (.iconst 1, 1) := by decide +kernel
theorem dL_law_784 : decode cL_law 784 = .ok (.iadd, 1) := by decide +kernel
theorem dL_law_785 : decode cL_law 785 = .ok (.iaload, 1) := by decide +kernel
theorem dL_law_786 : decode cL_law 786 = .ok (.invokevirtual 109, 3) := by decide +kernel
theorem dL_law_789 : decode cL_law 789 = .ok (.aload_n 2, 1) := by decide +kernel
theorem dL_law_790 : decode cL_law 790 = .ok (.aload_n 0, 1) := by decide +kernel
theorem dL_law_791 : decode cL_law 791 = .ok (.iload_n 3, 1) := by decide +kernel
theorem dL_law_792 : decode cL_law 792 = .ok (.iconst 1, 1) := by decide +kernel
theorem dL_law_793 : decode cL_law 793 = .ok (.iadd, 1) := by decide +kernel
theorem dL_law_794 : decode cL_law 794 = .ok (.iaload, 1) := by decide +kernel
theorem dL_law_795 : decode cL_law 795 = .ok (.invokevirtual 112, 3) := by decide +kernel
theorem dL_law_798 : decode cL_law 798 = .ok (.if_icmp .eq 28, 3) := by decide +kernel
theorem dL_law_801 : decode cL_law 801 = .ok (.iconst 0, 1) := by decide +kernel
theorem dL_law_802 : decode cL_law 802 = .ok (.ireturn, 1) := by decide +kernel
theorem dL_law_803 : decode cL_law 803 = .ok (.aload_n 1, 1) := by decide +kernel
theorem dL_law_804 : decode cL_law 804 = .ok (.aload_n 0, 1) := by decide +kernel
theorem dL_law_805 : decode cL_law 805 = .ok (.iload_n 3, 1) := by decide +kernel
theorem dL_law_806 : decode cL_law 806 = .ok (.iconst 1, 1) := by decide +kernel
theorem dL_law_807 : decode cL_law 807 = .ok (.iadd, 1) := by decide +kernel
theorem dL_law_808 : decode cL_law 808 = .ok (.iaload, 1) := by decide +kernel
theorem dL_law_809 : decode cL_law 809 = .ok (.invokevirtual 113, 3) := by decide +kernel
theorem dL_law_812 : decode cL_law 812 = .ok (.aload_n 2, 1) := by decide +kernel
theorem dL_law_813 : decode cL_law 813 = .ok (.aload_n 0, 1) := by decide +kernel
theorem dL_law_814 : decode cL_law 814 = .ok (.iload_n 3, 1) := by decide +kernel
theorem dL_law_815 : decode cL_law 815 = .ok (.iconst 1, 1) := by decide +kernel
theorem dL_law_816 : decode cL_law 816 = .ok (.iadd, 1) := by decide +kernel
theorem dL_law_817 : decode cL_law 817 = .ok (.iaload, 1) := by decide +kernel
theorem dL_law_818 : decode cL_law 818 = .ok (.invokevirtual 116, 3) := by decide +kernel
theorem dL_law_821 : decode cL_law 821 = .ok (.if_icmp .eq 5, 3) := by decide +kernel
theorem dL_law_824 : decode cL_law 824 = .ok (.iconst 0, 1) := by decide +kernel
theorem dL_law_825 : decode cL_law 825 = .ok (.ireturn, 1) := by decide +kernel
theorem dL_law_826 : decode cL_law 826 = .ok (.iinc 3 5, 3) := by decide +kernel
theorem dL_law_829 : decode cL_law 829 = .ok (.goto (-811), 3) := by decide +kernel
theorem dL_law_832 : decode cL_law 832 = .ok (.iconst 1, 1) := by decide +kernel
theorem dL_law_833 : decode cL_law 833 = .ok (.ireturn, 1) := by decide +kernel
end
section
/-! MY KIT: one environment EV for all methods, contracts whose world keeps its addresses (CtI, CtV), entries and calls over them -/
abbrev TYS (ca : Nat → ClassId) : List (ClassId × FieldType) := [(ca 0, .int), (ca 1, .char), (ca 2, .boolean), (ca 3, .object "PuddleMinistries$Street")]
def nst0 : Cond := .methodLinkNest RX4 18 yX1_init RX4
def nst1 : Cond := .methodLinkNest RX3 42 yX4_copy RX4
def nst2 : Cond := .methodLinkNest RX3 65 yX4_isIn RX4
def nst3 : Cond := .methodLinkNest RX3 99 yX4_placeOf RX4
def nst4 : Cond := .methodLinkNest RX3 132 yX4_placeAfter RX4
def EV (G : va_G) (ca : Nat → ClassId) (U : State) : Prop := va_K G vwCl (TYS ca) U ∧ va_Nw nst0 U ∧ va_Nw nst1 U ∧ va_Nw nst2 U ∧ va_Nw nst3 U ∧ va_Nw nst4 U
theorem EV.calling {G : va_G} {ca : Nat → ClassId} {U : State} (a : Array Value) (g : JFrame) (mk : MethodId) (h : EV G ca U) : EV G ca (U.calling g mk a) := by
  obtain ⟨h0, h1, h2, h3, h4, h5⟩ := h
  exact ⟨va_K.moved (u := U) (U := U.calling g mk a) (Vm.Alike.refl U.vm) h0, va_Nw.same rfl rfl h1, va_Nw.same rfl rfl h2, va_Nw.same rfl rfl h3, va_Nw.same rfl rfl h4, va_Nw.same rfl rfl h5⟩
theorem EV.warm {G : va_G} {ca : Nat → ClassId} {s U : State} (h : EV G ca s) (hW : s.WarmedH U.vm) : EV G ca U := by
  obtain ⟨h0, h1, h2, h3, h4, h5⟩ := h
  exact ⟨va_K.moved hW.alike h0, va_Nw.warmM hW h1, va_Nw.warmM hW h2, va_Nw.warmM hW h3, va_Nw.warmM hW h4, va_Nw.warmM hW h5⟩
theorem D_fst {A : Nat → Prop} {ws ws' : va_W} (hf : ws'.map Prod.fst = ws.map Prod.fst) (hD : va_D A ws) : va_D A ws' := by
  have key : ∀ (k : Nat) (q : Nat × va_E), ws'[k]? = some q → ∃ q0, ws[k]? = some q0 ∧ q0.1 = q.1 := by
    intro k q hk
    have h1 : (ws'.map Prod.fst)[k]? = some q.1 := by rw [List.getElem?_map, hk]; rfl
    rw [hf, List.getElem?_map] at h1
    cases h2 : ws[k]? with
    | none => rw [h2] at h1; cases h1
    | some q0 => rw [h2] at h1; exact ⟨q0, rfl, Option.some.inj h1⟩
  refine ⟨fun i j x y hi hj hxy => ?_, fun k q hk => ?_⟩
  · obtain ⟨x0, h1, h2⟩ := key i x hi
    obtain ⟨y0, h3, h4⟩ := key j y hj
    exact hD.1 i j x0 y0 h1 h3 (h2.trans (hxy.trans h4.symm))
  · obtain ⟨q0, h1, h2⟩ := key k q hk
    rw [← h2]
    exact hD.2 k q0 h1
theorem mid_at {α : Type} {L M R : List α} {k : Nat} {q : α} (h : M[k]? = some q) : (L ++ (M ++ R))[L.length + k]? = some q := by
  rw [List.getElem?_append_right (Nat.le_add_right _ _), Nat.add_sub_cancel_left, List.getElem?_append_left (List.getElem?_eq_some_iff.mp h).1]
  exact h
theorem left_at {α : Type} {L M : List α} {k : Nat} {q : α} (h : L[k]? = some q) : (L ++ M)[k]? = some q := by
  rw [List.getElem?_append_left (List.getElem?_eq_some_iff.mp h).1]
  exact h
theorem right_at {α : Type} {L M : List α} {k : Nat} {q : α} (h : M[k]? = some q) : (L ++ M)[L.length + k]? = some q := by
  rw [List.getElem?_append_right (Nat.le_add_right _ _), Nat.add_sub_cancel_left]
  exact h
theorem P_left {G : va_G} {cl : List vw_C} {L M : va_W} {H : Heap} (h : va_P G cl (L ++ M) H) : va_P G cl L H := fun k q hk => h k q (left_at hk)
theorem P_right {G : va_G} {cl : List vw_C} {L M : va_W} {H : Heap} (h : va_P G cl (L ++ M) H) : va_P G cl M H := fun k q hk => h _ q (right_at hk)
theorem D_left {A : Nat → Prop} {L M : va_W} (h : va_D A (L ++ M)) : va_D A L := ⟨fun i j p q hi hj e => h.1 i j p q (left_at hi) (left_at hj) e, fun k q hk => h.2 k q (left_at hk)⟩
theorem D_right {A : Nat → Prop} {L M : va_W} (h : va_D A (L ++ M)) : va_D A M := ⟨fun i j p q hi hj e => by have := h.1 _ _ p q (right_at hi) (right_at hj) e; omega, fun k q hk => h.2 _ q (right_at hk)⟩
theorem D_apart {A : Nat → Prop} {L M : va_W} (h : va_D A (L ++ M)) {i j : Nat} {p q : Nat × va_E} (hi : L[i]? = some p) (hj : M[j]? = some q) : p.1 ≠ q.1 := by
  intro e
  have h1 := h.1 _ _ p q (left_at hi) (right_at hj) e
  have h2 := (List.getElem?_eq_some_iff.mp hi).1
  omega
theorem P_mid {G : va_G} {cl : List vw_C} {A : Nat → Prop} {L Wc R Wc' : va_W} {H H1 : Heap} (hP : va_P G cl (L ++ (Wc ++ R)) H) (hD : va_D A (L ++ (Wc ++ R))) (hk : ∀ q : Nat, q < H.size → ¬ va_A Wc H.size q → H1[q]? = H[q]?) (hP1 : va_P G cl Wc' H1) : va_P G cl (L ++ (Wc' ++ R)) H1 := by
  refine va_P.app (fun k q hq => ?_) (va_P.app hP1 (fun k q hq => ?_))
  · have hl := (P_left hP k q hq).lt
    refine (P_left hP k q hq).kept (hk q.1 hl (fun z => ?_))
    rcases z with ⟨j, e, hj⟩ | z
    · exact D_apart hD hq (left_at hj) rfl
    · omega
  · have hl := (P_right (P_right hP) k q hq).lt
    refine (P_right (P_right hP) k q hq).kept (hk q.1 hl (fun z => ?_))
    rcases z with ⟨j, e, hj⟩ | z
    · exact D_apart (D_right hD) hj hq rfl
    · omega
theorem D_mid {A : Nat → Prop} {L Wc R Wc' : va_W} (hf : Wc'.map Prod.fst = Wc.map Prod.fst) (hD : va_D A (L ++ (Wc ++ R))) : va_D A (L ++ (Wc' ++ R)) := D_fst (by simp only [List.map_append, hf]) hD
theorem A_mid {A : Nat → Prop} {L Wc R : va_W} {H0 H : Heap} {locs : List Loc} (hD : va_D A (L ++ (Wc ++ R))) (hS : va_S A H0 H locs) (hA : ∀ q : Nat, H0.size ≤ q → A q) : ∀ q, va_A Wc H.size q → A q := by
  intro q h
  rcases h with ⟨k, e, h⟩ | h
  · exact (D_left (D_right hD)).2 k (q, e) h
  · exact hA q (Nat.le_trans hS.1 h)
/-- a contract's start: the arguments, the world, the environment -/
def pcW (G : va_G) (ca : Nat → ClassId) (Wd : va_W) (as : List Value) (sz : Nat) : Array Value → State → Prop := va_Pc as (fun U => U.heap.size = sz ∧ va_P G vwCl Wd U.heap ∧ EV G ca U ∧ va_D (fun _ => True) Wd)
def CtI (l : Launch) (y : MethodName) (ws : List Cond) (rm : Room) (as : List Value) (G : va_G) (ca : Nat → ClassId) (Wd Wd' : va_W) (r : Int32) : Prop := ∀ sz : Nat, Met l y ws rm (pcW G ca Wd as sz) (va_Qi (fun (r' : Int32) (_ : Unit) => r' = r) (fun _ t => va_P G vwCl Wd' t.heap) (va_A Wd sz)) 0 0 (va_A Wd sz)
def CtV (l : Launch) (y : MethodName) (ws : List Cond) (rm : Room) (as : List Value) (G : va_G) (ca : Nat → ClassId) (Wd Wd' : va_W) : Prop := ∀ sz : Nat, Met l y ws rm (pcW G ca Wd as sz) (va_Qv (fun (_ : Unit) => True) (fun _ t => va_P G vwCl Wd' t.heap) (va_A Wd sz)) 0 0 (va_A Wd sz)
theorem pcW_blind {G : va_G} {ca : Nat → ClassId} {Wd : va_W} {as : List Value} {sz : Nat} : FrameBlind (pcW G ca Wd as sz) := fun a _ g mk q => ⟨q.1, q.2.1, q.2.2.1, q.2.2.2.1.calling a g mk, q.2.2.2.2⟩
theorem pcW_V {G : va_G} {ca : Nat → ClassId} {A : Nat → Prop} {Wd : va_W} {s : State} {H : Heap} {b : Addr} {As : List Value} {C : String} {q0 ci : Nat} {q : vw_C} {fs : List Value} (hev : EV G ca s) (hP : va_P G vwCl Wd H) (hD : va_D A Wd) (he : Wd[q0]? = some (b, .inr (ci, fs))) (hc : vwCl[ci]? = some q) (hC : q.1 = C) : PreV s H C b (pcW G ca Wd (.ref b :: As) H.size) As :=
  ⟨pcW_blind, hC ▸ va_recv hev.1 hP hc he, fun U hU hW => ⟨rfl, by rw [hU], by rw [hU]; exact hP, hev.warm hW, hD.weaken (fun _ _ _ _ => trivial)⟩⟩
theorem pcW_S {G : va_G} {ca : Nat → ClassId} {A : Nat → Prop} {Wd : va_W} {s : State} {H : Heap} {As : List Value} (hev : EV G ca s) (hP : va_P G vwCl Wd H) (hD : va_D A Wd) : PreS s H (pcW G ca Wd As H.size) As :=
  ⟨pcW_blind, fun U hU hW => ⟨rfl, by rw [hU], by rw [hU]; exact hP, hev.warm hW, hD.weaken (fun _ _ _ _ => trivial)⟩⟩
theorem CtI.ofW {l : Launch} {y : MethodName} {ws ws' : List Cond} {rm : Room} {as : List Value} {G : va_G} {ca : Nat → ClassId} {Wd Wd' : va_W} {r : Int32} {cc : ByteArray} {maxL : Nat} {rt : FieldType} (hy : plainName y.cls = true) (hw : ws = Cond.code y cc maxL (some rt) :: ws') (hlen : (lg_sl as).length ≤ maxL) (hn : narrow rt (.int r) = .int r)
    (k : ∀ (p : Program) (e : Env) (s : State) (m : MethodId) (below : List Frame) (meth : Method) (c : Code) (A : Nat → Prop) (ls : Array Slot) (Q : State → Prop) (H : Heap), p.tables.exec = Jvm.exec → c.code = cc → c.maxLocals = maxL → (∀ w ∈ ws, w.before as.toArray s = true) → s.vm.findClass y.cls = some m.cls → EV G ca s → va_P G vwCl Wd H → va_D A Wd → (∀ q : Nat, s.heap.size ≤ q → A q) → va_S A s.heap H [] → lv_has ls maxL (lv_args 0 as) →
      (∀ (H : Heap) (locs : List Loc) (pc : Nat) (ls' : Array Slot), va_P G vwCl Wd' H → va_S A s.heap H locs → decode cc pc = .ok (.ireturn, 1) → W p l e rm s m as.toArray below meth c H locs 0 0 Q (F0 m pc ls' [.int r])) →
      W p l e rm s m as.toArray below meth c H [] 0 0 Q (F0 m 0 ls [])) : CtI l y ws rm as G ca Wd Wd' r := by
  intro sz
  refine Met.ofW (cc := cc) (maxL := maxL) (ret := some rt) hy hw ?_
  intro p e s m args below meth c s₁ B hml hv
  obtain ⟨rfl, hsz, hP, hK, hD0⟩ := hv
  have hlocks := B.notSynchronized
  have hr := B.returns
  subst hsz
  rw [lg_entry_eq]
  exact k p e s m below meth c (va_A Wd s.heap.size) _ _ s.heap B.exec B.bytes hml (atoms_spec (ws := ws) B.pre) (findClass_of_methodNamed B.named) hK hP (hD0.self (sz := s.heap.size)) (fun q h => Or.inr h) va_S.rf (lv_entry as hlen) (fun H locs pc ls' h1 h2 h3 => W.zret B.exec B.bytes hr hn (fun t ht _ => ⟨⟨r, (), rfl, rfl, by rw [← ht] at h1; exact h1⟩, h2.F ht⟩) h2.2.2 h3 hlocks)
theorem CtV.ofW {l : Launch} {y : MethodName} {ws ws' : List Cond} {rm : Room} {as : List Value} {G : va_G} {ca : Nat → ClassId} {Wd Wd' : va_W} {cc : ByteArray} {maxL : Nat} (hy : plainName y.cls = true) (hw : ws = Cond.code y cc maxL none :: ws') (hlen : (lg_sl as).length ≤ maxL)
    (k : ∀ (p : Program) (e : Env) (s : State) (m : MethodId) (below : List Frame) (meth : Method) (c : Code) (A : Nat → Prop) (ls : Array Slot) (Q : State → Prop) (H : Heap), p.tables.exec = Jvm.exec → c.code = cc → c.maxLocals = maxL → (∀ w ∈ ws, w.before as.toArray s = true) → s.vm.findClass y.cls = some m.cls → EV G ca s → va_P G vwCl Wd H → va_D A Wd → (∀ q : Nat, s.heap.size ≤ q → A q) → va_S A s.heap H [] → lv_has ls maxL (lv_args 0 as) →
      (∀ (H : Heap) (locs : List Loc) (pc : Nat) (ls' : Array Slot), va_P G vwCl Wd' H → va_S A s.heap H locs → decode cc pc = .ok (.return_, 1) → W p l e rm s m as.toArray below meth c H locs 0 0 Q (F0 m pc ls' [])) →
      W p l e rm s m as.toArray below meth c H [] 0 0 Q (F0 m 0 ls [])) : CtV l y ws rm as G ca Wd Wd' := by
  intro sz
  refine Met.ofW (cc := cc) (maxL := maxL) (ret := none) hy hw ?_
  intro p e s m args below meth c s₁ B hml hv
  obtain ⟨rfl, hsz, hP, hK, hD0⟩ := hv
  have hlocks := B.notSynchronized
  have hr := B.returns
  subst hsz
  rw [lg_entry_eq]
  exact k p e s m below meth c (va_A Wd s.heap.size) _ _ s.heap B.exec B.bytes hml (atoms_spec (ws := ws) B.pre) (findClass_of_methodNamed B.named) hK hP (hD0.self (sz := s.heap.size)) (fun q h => Or.inr h) va_S.rf (lv_entry as hlen) (fun H locs pc ls' h1 h2 h3 => W.vret B.exec B.bytes hr (fun t ht _ => ⟨⟨(), rfl, trivial, by rw [← ht] at h1; exact h1⟩, h2.F ht⟩) h2.2.2 h3 hlocks)
section MYC
variable {p : Program} {l : Launch} {e : Env} {R : Room} {s : State} {m : MethodId} {args : Array Value} {below : List Frame} {meth : Method} {c : Code} {H : Heap} {locs : List Loc} {cells slots : Nat} {Q : State → Prop}
variable {cc : ByteArray} {pc : Nat} {ls : Array Slot} {rest st0 : List Value} {a : Array Value} {A : Nat → Prop} {H0 : Heap} {G : va_G} {Lw Wc Wc' Rw : va_W} {r : Int32}
theorem goI (hr : va_Run p l e R s m args below meth c H locs cells slots 0 0 (F0 m pc ls st0) rest (va_Qi (fun (r' : Int32) (_ : Unit) => r' = r) (fun _ t => va_P G vwCl Wc' t.heap) (va_A Wc H.size) a) (va_A Wc H.size)) (hP : va_P G vwCl (Lw ++ (Wc ++ Rw)) H) (hD : va_D A (Lw ++ (Wc ++ Rw))) (hS : va_S A H0 H locs) (hA : ∀ q : Nat, H0.size ≤ q → A q) (hf : Wc'.map Prod.fst = Wc.map Prod.fst)
    (kk : ∀ (H1 : Heap) (locs1 : List Loc), va_P G vwCl (Lw ++ (Wc' ++ Rw)) H1 → va_D A (Lw ++ (Wc' ++ Rw)) → va_S A H0 H1 locs1 → W p l e R s m args below meth c H1 locs1 cells slots Q (F0 m (pc + 3) ls (.int r :: rest))) : W p l e R s m args below meth c H locs cells slots Q (F0 m pc ls st0) := by
  have hF := A_mid hD hS hA
  refine va_calli hr hS (fun q _ h => hF q h) hF (fun r' u t H1 locs1 ht _ hw hB _ hk1 hS1 => ?_)
  subst hw
  rw [ht] at hB
  exact kk H1 locs1 (P_mid hP hD hk1 hB) (D_mid hf hD) hS1
theorem goIw (hr : va_Run p l e R s m args below meth c H locs cells slots 0 0 (F0 m pc ls st0) rest (va_Qi (fun (r' : Int32) (_ : Unit) => r' = r) (fun _ t => va_P G vwCl Wc' t.heap) (va_A Wc H.size) a) (va_A Wc H.size)) (hD : va_D A Wc) (hS : va_S A H0 H locs) (hA : ∀ q : Nat, H0.size ≤ q → A q) (hf : Wc'.map Prod.fst = Wc.map Prod.fst)
    (kk : ∀ (H1 : Heap) (locs1 : List Loc), va_P G vwCl Wc' H1 → va_D A Wc' → va_S A H0 H1 locs1 → W p l e R s m args below meth c H1 locs1 cells slots Q (F0 m (pc + 3) ls (.int r :: rest))) : W p l e R s m args below meth c H locs cells slots Q (F0 m pc ls st0) := by
  have hF := A_mid (L := []) (R := []) (by rw [List.append_nil]; exact hD) hS hA
  refine va_calli hr hS (fun q _ h => hF q h) hF (fun r' u t H1 locs1 ht _ hw hB _ hk1 hS1 => ?_)
  subst hw
  rw [ht] at hB
  exact kk H1 locs1 hB (D_fst hf hD) hS1
/-- a call that touches no world: the caller's stays as it is -/
theorem goI0 {Wd : va_W} (hr : va_Run p l e R s m args below meth c H locs cells slots 0 0 (F0 m pc ls st0) rest (va_Qi (fun (r' : Int32) (_ : Unit) => r' = r) (fun _ t => va_P G vwCl [] t.heap) (va_A [] H.size) a) (va_A [] H.size)) (hP : va_P G vwCl Wd H) (hS : va_S A H0 H locs) (hA : ∀ q : Nat, H0.size ≤ q → A q)
    (kk : ∀ (H1 : Heap) (locs1 : List Loc), va_P G vwCl Wd H1 → va_S A H0 H1 locs1 → W p l e R s m args below meth c H1 locs1 cells slots Q (F0 m (pc + 3) ls (.int r :: rest))) : W p l e R s m args below meth c H locs cells slots Q (F0 m pc ls st0) := by
  have hF : ∀ q, va_A [] H.size q → A q := by
    intro q h
    rcases h with ⟨k, e, h⟩ | h
    · simp at h
    · exact hA q (Nat.le_trans hS.1 h)
  refine va_calli hr hS (fun q _ h => hF q h) hF (fun r' u t H1 locs1 ht _ hw hB _ hk1 hS1 => ?_)
  subst hw
  refine kk H1 locs1 (hP.kept (fun k q hq => hk1 q.1 (hP k q hq).lt (fun z => ?_))) hS1
  rcases z with ⟨k, e, h⟩ | h
  · simp at h
  · have := (hP k q hq).lt
    omega
theorem goV (hr : va_Run p l e R s m args below meth c H locs cells slots 0 0 (F0 m pc ls st0) rest (va_Qv (fun (_ : Unit) => True) (fun _ t => va_P G vwCl Wc' t.heap) (va_A Wc H.size) a) (va_A Wc H.size)) (hP : va_P G vwCl (Lw ++ (Wc ++ Rw)) H) (hD : va_D A (Lw ++ (Wc ++ Rw))) (hS : va_S A H0 H locs) (hA : ∀ q : Nat, H0.size ≤ q → A q) (hf : Wc'.map Prod.fst = Wc.map Prod.fst)
    (kk : ∀ (H1 : Heap) (locs1 : List Loc), va_P G vwCl (Lw ++ (Wc' ++ Rw)) H1 → va_D A (Lw ++ (Wc' ++ Rw)) → va_S A H0 H1 locs1 → W p l e R s m args below meth c H1 locs1 cells slots Q (F0 m (pc + 3) ls rest)) : W p l e R s m args below meth c H locs cells slots Q (F0 m pc ls st0) := by
  have hF := A_mid hD hS hA
  refine va_callv hr hS (fun q _ h => hF q h) hF (fun u t H1 locs1 ht _ hw hB _ hk1 hS1 => ?_)
  rw [ht] at hB
  exact kk H1 locs1 (P_mid hP hD hk1 hB) (D_mid hf hD) hS1
theorem goVw (hr : va_Run p l e R s m args below meth c H locs cells slots 0 0 (F0 m pc ls st0) rest (va_Qv (fun (_ : Unit) => True) (fun _ t => va_P G vwCl Wc' t.heap) (va_A Wc H.size) a) (va_A Wc H.size)) (hD : va_D A Wc) (hS : va_S A H0 H locs) (hA : ∀ q : Nat, H0.size ≤ q → A q) (hf : Wc'.map Prod.fst = Wc.map Prod.fst)
    (kk : ∀ (H1 : Heap) (locs1 : List Loc), va_P G vwCl Wc' H1 → va_D A Wc' → va_S A H0 H1 locs1 → W p l e R s m args below meth c H1 locs1 cells slots Q (F0 m (pc + 3) ls rest)) : W p l e R s m args below meth c H locs cells slots Q (F0 m pc ls st0) := by
  have hF := A_mid (L := []) (R := []) (by rw [List.append_nil]; exact hD) hS hA
  refine va_callv hr hS (fun q _ h => hF q h) hF (fun u t H1 locs1 ht _ hw hB _ hk1 hS1 => ?_)
  rw [ht] at hB
  exact kk H1 locs1 hB (D_fst hf hD) hS1
/-- the number on top, said otherwise -/
theorem lv_eqi {x y : Int32} (h : x = y) (k : W p l e R s m args below meth c H locs cells slots Q (F0 m pc ls (.int y :: rest))) : W p l e R s m args below meth c H locs cells slots Q (F0 m pc ls (.int x :: rest)) := h ▸ k
theorem lv_eql {x y : Int64} (h : x = y) (k : W p l e R s m args below meth c H locs cells slots Q (F0 m pc ls (.long y :: rest))) : W p l e R s m args below meth c H locs cells slots Q (F0 m pc ls (.long x :: rest)) := h ▸ k
theorem b_iald {cl : List vw_C} {tys : List (ClassId × FieldType)} {ws : va_W} {o : Nat} (hexec : p.tables.exec = Jvm.exec) (hb : c.code = cc) (hK : va_K G cl tys s) (hP : va_P G cl ws H) (q0 : Nat) {cA : ClassId} {n : Nat} {f : Nat → Int32} (ha : ws[q0]? = some (o, .inl (cA, n, .inl f))) (ht : tys[0]? = some (cA, .int)) {j : Nat} (hj : j < n) (hn : n < 2 ^ 31) (hdg : decode cc pc = .ok (.iaload, 1))
    (kk : W p l e R s m args below meth c H locs cells slots Q (F0 m (pc + 1) ls (.int (f j) :: rest))) : W p l e R s m args below meth c H locs cells slots Q (F0 m pc ls (.int (nI j) :: .ref o :: rest)) := by
  refine va_iald hexec hb hK hP q0 0 ha ht (vp_in_nI hj hn) hdg ?_
  rw [nI_clamp (Nat.lt_trans hj hn)]
  exact kk
theorem b_cald {cl : List vw_C} {tys : List (ClassId × FieldType)} {ws : va_W} {o : Nat} (hexec : p.tables.exec = Jvm.exec) (hb : c.code = cc) (hK : va_K G cl tys s) (hP : va_P G cl ws H) (q0 : Nat) {cA : ClassId} {n : Nat} {f : Nat → Int32} (ha : ws[q0]? = some (o, .inl (cA, n, .inl f))) (ht : tys[1]? = some (cA, .char)) {j : Nat} (hj : j < n) (hn : n < 2 ^ 31) (hdg : decode cc pc = .ok (.caload, 1))
    (kk : W p l e R s m args below meth c H locs cells slots Q (F0 m (pc + 1) ls (.int (f j) :: rest))) : W p l e R s m args below meth c H locs cells slots Q (F0 m pc ls (.int (nI j) :: .ref o :: rest)) := by
  refine va_cald hexec hb hK hP q0 1 ha ht (vp_in_nI hj hn) hdg ?_
  rw [nI_clamp (Nat.lt_trans hj hn)]
  exact kk
theorem b_zald {cl : List vw_C} {tys : List (ClassId × FieldType)} {ws : va_W} {o : Nat} (hexec : p.tables.exec = Jvm.exec) (hb : c.code = cc) (hK : va_K G cl tys s) (hP : va_P G cl ws H) (q0 : Nat) {cA : ClassId} {n : Nat} {f : Nat → Int32} (ha : ws[q0]? = some (o, .inl (cA, n, .inl f))) (ht : tys[2]? = some (cA, .boolean)) {j : Nat} (hj : j < n) (hn : n < 2 ^ 31) (hdg : decode cc pc = .ok (.baload, 1))
    (kk : W p l e R s m args below meth c H locs cells slots Q (F0 m (pc + 1) ls (.int (f j) :: rest))) : W p l e R s m args below meth c H locs cells slots Q (F0 m pc ls (.int (nI j) :: .ref o :: rest)) := by
  refine va_zald hexec hb hK hP q0 2 ha ht (vp_in_nI hj hn) hdg ?_
  rw [nI_clamp (Nat.lt_trans hj hn)]
  exact kk
theorem b_iast {cl : List vw_C} {tys : List (ClassId × FieldType)} {ws : va_W} {o : Nat} (hexec : p.tables.exec = Jvm.exec) (hb : c.code = cc) (hK : va_K G cl tys s) (hP : va_P G cl ws H) (hD : va_D A ws) (hS : va_S A H0 H locs) (q0 : Nat) {cA : ClassId} {n : Nat} {f : Nat → Int32} (ha : ws[q0]? = some (o, .inl (cA, n, .inl f))) (ht : tys[0]? = some (cA, .int)) {j : Nat} {x : Int32} (hj : j < n) (hn : n < 2 ^ 31) (hdg : decode cc pc = .ok (.iastore, 1))
    (kk : ∀ (H1 : Heap) (locs1 : List Loc), va_P G cl (ws.set q0 (o, .inl (cA, n, .inl (upd f j x)))) H1 → va_D A (ws.set q0 (o, .inl (cA, n, .inl (upd f j x)))) → va_S A H0 H1 locs1 → W p l e R s m args below meth c H1 locs1 cells slots Q (F0 m (pc + 1) ls rest)) : W p l e R s m args below meth c H locs cells slots Q (F0 m pc ls (.int x :: .int (nI j) :: .ref o :: rest)) := by
  refine va_iast hexec hb hK hP hD hS q0 0 ha ht (vp_in_nI hj hn) hdg ?_
  rw [nI_clamp (Nat.lt_trans hj hn)]
  exact kk
theorem b_cast {cl : List vw_C} {tys : List (ClassId × FieldType)} {ws : va_W} {o : Nat} (hexec : p.tables.exec = Jvm.exec) (hb : c.code = cc) (hK : va_K G cl tys s) (hP : va_P G cl ws H) (hD : va_D A ws) (hS : va_S A H0 H locs) (q0 : Nat) {cA : ClassId} {n : Nat} {f : Nat → Int32} (ha : ws[q0]? = some (o, .inl (cA, n, .inl f))) (ht : tys[1]? = some (cA, .char)) {j : Nat} {x : Int32} (hj : j < n) (hn : n < 2 ^ 31) (hdg : decode cc pc = .ok (.castore, 1))
    (kk : ∀ (H1 : Heap) (locs1 : List Loc), va_P G cl (ws.set q0 (o, .inl (cA, n, .inl (upd f j (vp_nar .char x))))) H1 → va_D A (ws.set q0 (o, .inl (cA, n, .inl (upd f j (vp_nar .char x))))) → va_S A H0 H1 locs1 → W p l e R s m args below meth c H1 locs1 cells slots Q (F0 m (pc + 1) ls rest)) : W p l e R s m args below meth c H locs cells slots Q (F0 m pc ls (.int x :: .int (nI j) :: .ref o :: rest)) := by
  refine va_cast hexec hb hK hP hD hS q0 1 ha ht (vp_in_nI hj hn) hdg ?_
  rw [nI_clamp (Nat.lt_trans hj hn)]
  exact kk
theorem b_zast {cl : List vw_C} {tys : List (ClassId × FieldType)} {ws : va_W} {o : Nat} (hexec : p.tables.exec = Jvm.exec) (hb : c.code = cc) (hK : va_K G cl tys s) (hP : va_P G cl ws H) (hD : va_D A ws) (hS : va_S A H0 H locs) (q0 : Nat) {cA : ClassId} {n : Nat} {f : Nat → Int32} (ha : ws[q0]? = some (o, .inl (cA, n, .inl f))) (ht : tys[2]? = some (cA, .boolean)) {j : Nat} {x : Int32} (hj : j < n) (hn : n < 2 ^ 31) (hdg : decode cc pc = .ok (.bastore, 1))
    (kk : ∀ (H1 : Heap) (locs1 : List Loc), va_P G cl (ws.set q0 (o, .inl (cA, n, .inl (upd f j (vp_nar .boolean x))))) H1 → va_D A (ws.set q0 (o, .inl (cA, n, .inl (upd f j (vp_nar .boolean x))))) → va_S A H0 H1 locs1 → W p l e R s m args below meth c H1 locs1 cells slots Q (F0 m (pc + 1) ls rest)) : W p l e R s m args below meth c H locs cells slots Q (F0 m pc ls (.int x :: .int (nI j) :: .ref o :: rest)) := by
  refine va_zast hexec hb hK hP hD hS q0 2 ha ht (vp_in_nI hj hn) hdg ?_
  rw [nI_clamp (Nat.lt_trans hj hn)]
  exact kk
end MYC
end
section
/-! THE WORLDS: a street (SS), the other class (MM), a pad (PP): what they hold as a tuple, and their cells -/
abbrev SS : Type := (Nat → Int32) × (Nat → Int32) × (Nat → Int32) × (Nat → Int32) × (Nat → Int32) × (Nat → Int32) × (Nat → Int32) × (Nat → Int32) × (Nat → Int32) × Int32 × Int32 × Int32 × Int32 × Int32 × Int32
abbrev s_se (S : SS) : Nat → Int32 := S.1
abbrev s_br (S : SS) : Nat → Int32 := S.2.1
abbrev s_wa (S : SS) : Nat → Int32 := S.2.2.1
abbrev s_cr (S : SS) : Nat → Int32 := S.2.2.2.1
abbrev s_sh (S : SS) : Nat → Int32 := S.2.2.2.2.1
abbrev s_ow (S : SS) : Nat → Int32 := S.2.2.2.2.2.1
abbrev s_pa (S : SS) : Nat → Int32 := S.2.2.2.2.2.2.1
abbrev s_cb (S : SS) : Nat → Int32 := S.2.2.2.2.2.2.2.1
abbrev s_pd (S : SS) : Nat → Int32 := S.2.2.2.2.2.2.2.2.1
abbrev s_fz (S : SS) : Int32 := S.2.2.2.2.2.2.2.2.2.1
abbrev s_dk (S : SS) : Int32 := S.2.2.2.2.2.2.2.2.2.2.1
abbrev s_dy (S : SS) : Int32 := S.2.2.2.2.2.2.2.2.2.2.2.1
abbrev s_fe (S : SS) : Int32 := S.2.2.2.2.2.2.2.2.2.2.2.2.1
abbrev s_dr (S : SS) : Int32 := S.2.2.2.2.2.2.2.2.2.2.2.2.2.1
abbrev s_dn (S : SS) : Int32 := S.2.2.2.2.2.2.2.2.2.2.2.2.2.2
abbrev stT (ca : Nat → ClassId) (h : Nat) (a : Nat → Nat) (S : SS) : va_W := [(h, .inr (3, [.ref (a 0), .ref (a 1), .ref (a 2), .ref (a 3), .ref (a 4), .ref (a 5), .ref (a 6), .ref (a 7), .ref (a 8), .int (s_fz S), .int (s_dk S), .int (s_dy S), .int (s_fe S), .int (s_dr S), .int (s_dn S)])), (a 0, .inl (ca 0, 4, .inl (s_se S))), (a 1, .inl (ca 0, 12, .inl (s_br S))), (a 2, .inl (ca 0, 12, .inl (s_wa S))), (a 3, .inl (ca 0, 12, .inl (s_cr S))), (a 4, .inl (ca 0, 6, .inl (s_sh S))), (a 5, .inl (ca 0, 6, .inl (s_ow S))), (a 6, .inl (ca 0, 6, .inl (s_pa S))), (a 7, .inl (ca 0, 6, .inl (s_cb S))), (a 8, .inl (ca 0, 72, .inl (s_pd S)))]
abbrev MM : Type := (Nat → Int32) × (Nat → Int32) × Int32 × (Nat → Int32) × (Nat → Int32) × (Nat → Int32) × Int32 × Int32 × (Nat → Int32) × Int32
abbrev m_z (M : MM) : Nat → Int32 := M.1
abbrev m_past (M : MM) : Nat → Int32 := M.2.1
abbrev m_states (M : MM) : Int32 := M.2.2.1
abbrev m_slots (M : MM) : Nat → Int32 := M.2.2.2.1
abbrev m_isSaved (M : MM) : Nat → Int32 := M.2.2.2.2.1
abbrev m_pad (M : MM) : Nat → Int32 := M.2.2.2.2.2.1
abbrev m_typed (M : MM) : Int32 := M.2.2.2.2.2.2.1
abbrev m_spot (M : MM) : Int32 := M.2.2.2.2.2.2.2.1
abbrev m_told (M : MM) : Nat → Int32 := M.2.2.2.2.2.2.2.2.1
abbrev m_toldMany (M : MM) : Int32 := M.2.2.2.2.2.2.2.2.2
abbrev moT (ca : Nat → ClassId) (h : Nat) (a : Nat → Nat) (M : MM) : va_W := [(h, .inr (5, [.ref (a 0), .ref (a 1), .int (m_states M), .ref (a 2), .ref (a 3), .ref (a 4), .int (m_typed M), .int (m_spot M), .ref (a 5), .int (m_toldMany M)])), (a 0, .inl (ca 0, 164, .inl (m_z M))), (a 1, .inl (ca 0, 984, .inl (m_past M))), (a 2, .inl (ca 0, 328, .inl (m_slots M))), (a 3, .inl (ca 2, 2, .inl (m_isSaved M))), (a 4, .inl (ca 0, 60, .inl (m_pad M))), (a 5, .inl (ca 0, 60, .inl (m_told M)))]
abbrev PP : Type := (Nat → Int32) × Int32
abbrev p_sg (P : PP) : Nat → Int32 := P.1
abbrev p_len (P : PP) : Int32 := P.2
abbrev paT (ca : Nat → ClassId) (h a : Nat) (P : PP) : va_W := [(h, .inr (1, [.ref a, .int (p_len P)])), (a, .inl (ca 1, 60, .inl (p_sg P)))]
abbrev xoT (h hs hp hh hl : Nat) : va_W := [(h, .inr (4, [.ref hs, .ref hp, .ref hh, .ref hl]))]
theorem P_nil {G : va_G} {cl : List vw_C} {H : Heap} : va_P G cl [] H := fun k q h => by simp at h
theorem D_nil {A : Nat → Prop} : va_D A [] := ⟨fun i j p q h => by simp at h, fun k q h => by simp at h⟩
theorem CtI.use {l : Launch} {y : MethodName} {ws : List Cond} {rm : Room} {as : List Value} {G : va_G} {ca : Nat → ClassId} {Wd Wd1 : va_W} {r : Int32} (h : CtI l y ws rm as G ca Wd Wd1 r) (sz : Nat) : Met l y ws rm (pcW G ca Wd as sz) (va_Qi (fun (r1 : Int32) (_ : Unit) => r1 = r) (fun _ t => va_P G vwCl Wd1 t.heap) (va_A Wd sz)) 0 0 (va_A Wd sz) := h sz
theorem CtV.use {l : Launch} {y : MethodName} {ws : List Cond} {rm : Room} {as : List Value} {G : va_G} {ca : Nat → ClassId} {Wd Wd1 : va_W} (h : CtV l y ws rm as G ca Wd Wd1) (sz : Nat) : Met l y ws rm (pcW G ca Wd as sz) (va_Qv (fun (_ : Unit) => True) (fun _ t => va_P G vwCl Wd1 t.heap) (va_A Wd sz)) 0 0 (va_A Wd sz) := h sz
theorem D_of {A : Nat → Prop} {ws ws1 : va_W} (hD : va_D A ws) (hf : ws1.map Prod.fst = ws.map Prod.fst) : va_D A ws1 := D_fst hf hD
theorem stF {ca : Nat → ClassId} {h : Nat} {a : Nat → Nat} {S T : SS} : (stT ca h a S).map Prod.fst = (stT ca h a T).map Prod.fst := rfl
theorem moF {ca : Nat → ClassId} {h : Nat} {a : Nat → Nat} {S T : MM} : (moT ca h a S).map Prod.fst = (moT ca h a T).map Prod.fst := rfl
theorem paF {ca : Nat → ClassId} {h a : Nat} {S T : PP} : (paT ca h a S).map Prod.fst = (paT ca h a T).map Prod.fst := rfl
theorem app_F {a a1 b b1 : va_W} (h1 : a1.map Prod.fst = a.map Prod.fst) (h2 : b1.map Prod.fst = b.map Prod.fst) : (a1 ++ b1).map Prod.fst = (a ++ b).map Prod.fst := by rw [List.map_append, List.map_append, h1, h2]
end
section
/-! class Street and the static helpers: leaves -/
def bt1 (b : Int32) (p : Nat) : Int32 := if ((b >>> (nI p &&& 31)) &&& 1) = 1 then 1 else 0
theorem bt1_nar (b : Int32) (p : Nat) : narrow .boolean (.int (bt1 b p)) = .int (bt1 b p) := by unfold bt1; split <;> rfl
set_option maxHeartbeats 4000000 in
set_option maxRecDepth 100000 in
theorem c_X4_isIn (l : Launch) (G : va_G) (ca : Nat → ClassId) (b : Int32) (p : Nat) : CtI l yX4_isIn wsX4_isIn ({ frames := 0, cells := 0, slots := 0, locals := 0 }) [.int b, .int (nI p)] G ca ([]) ([]) (bt1 b p) := by
  refine CtI.ofW (cc := cX4_isIn) (maxL := 2) (rt := .boolean) (by decide) rfl (Nat.le_of_ble_eq_true rfl) (bt1_nar b p) ?_
  intro pr en s m be me c A ls Q H hx hb hml hts hown hev hP hD hA hS hl hret
  have hown : s.vm.findClass RX4 = some m.cls := hown
  have hl : lv_has ls 2 [(0, .int b), (1, .int (nI p))] := hl
  refine lv_iload_n hx hb dX4_isIn_0 rfl (lv_at hl 0 rfl) ?_
  refine lv_iload_n hx hb dX4_isIn_1 rfl (lv_at hl 1 rfl) ?_
  refine lv_ishr hx hb dX4_isIn_2 ?_
  refine lv_iconst (v := 1) hx hb dX4_isIn_3 (by decide) ?_
  refine lv_iand hx hb dX4_isIn_4 ?_
  refine lv_iconst (v := 1) hx hb dX4_isIn_5 (by decide) ?_
  refine lv_icmp_ne (tgt := 13) hx hb dX4_isIn_6 (by decide) (fun c_1 => ?_) (fun c_1 => ?_)
  · skip
    refine lv_iconst (v := 0) hx hb dX4_isIn_13 (by decide) ?_
    refine lv_eqi (y := bt1 b p) (by first | exact (if_pos c_1).symm | exact (if_neg c_1).symm) ?_
    exact hret _ _ _ _ hP hS dX4_isIn_14
  · skip
    refine lv_iconst (v := 1) hx hb dX4_isIn_9 (by decide) ?_
    refine lv_goto (tgt := 14) hx hb dX4_isIn_10 (by decide) ?_
    refine lv_eqi (y := bt1 b p) (by first | exact (if_pos c_1).symm | exact (if_neg c_1).symm) ?_
    exact hret _ _ _ _ hP hS dX4_isIn_14
set_option maxHeartbeats 4000000 in
set_option maxRecDepth 100000 in
theorem c_X4_placeOf (l : Launch) (G : va_G) (ca : Nat → ClassId) (w : Nat) (p : Nat) : CtI l yX4_placeOf wsX4_placeOf ({ frames := 0, cells := 0, slots := 0, locals := 0 }) [.int (nI w), .int (nI p)] G ca ([]) ([]) (nI (w * 12 + p)) := by
  refine CtI.ofW (cc := cX4_placeOf) (maxL := 2) (rt := .int) (by decide) rfl (Nat.le_of_ble_eq_true rfl) rfl ?_
  intro pr en s m be me c A ls Q H hx hb hml hts hown hev hP hD hA hS hl hret
  have hown : s.vm.findClass RX4 = some m.cls := hown
  have hl : lv_has ls 2 [(0, .int (nI w)), (1, .int (nI p))] := hl
  refine lv_iload_n hx hb dX4_placeOf_0 rfl (lv_at hl 0 rfl) ?_
  refine lv_bipush (v := nI 12) hx hb dX4_placeOf_1 (by decide) ?_
  refine lv_imul hx hb dX4_placeOf_3 ?_
  refine lv_eqi (pk_mul _ _) ?_
  refine lv_iload_n hx hb dX4_placeOf_4 rfl (lv_at hl 1 rfl) ?_
  refine lv_iadd hx hb dX4_placeOf_5 ?_
  refine lv_eqi (nI_add _ _) ?_
  refine lv_eqi (y := nI (w * 12 + p)) rfl ?_
  exact hret _ _ _ _ hP hS dX4_placeOf_6
set_option maxHeartbeats 4000000 in
set_option maxRecDepth 100000 in
theorem c_X3_depth (l : Launch) (G : va_G) (ca : Nat → ClassId) (h : Nat) (a : Nat → Nat) (S : SS) (p : Nat) (hp : p < 12) : CtI l yX3_depth wsX3_depth ({ frames := 0, cells := 0, slots := 0, locals := 0 }) [.ref h, .int (nI p)] G ca (stT ca h a S) (stT ca h a S) (s_wa S p / 5) := by
  refine CtI.ofW (cc := cX3_depth) (maxL := 2) (rt := .int) (by decide) rfl (Nat.le_of_ble_eq_true rfl) rfl ?_
  intro pr en s m be me c A ls Q H hx hb hml hts hown hev hP hD hA hS hl hret
  have hown : s.vm.findClass RX3 = some m.cls := hown
  have hl : lv_has ls 2 [(0, .ref h), (1, .int (nI p))] := hl
  have in_wsX30 : ∀ w ∈ wsX30, w ∈ wsX3_depth := fun _ h => List.mem_cons_of_mem _ (List.mem_append_right _ h)
  refine lv_aload_n hx hb dX3_depth_0 rfl (lv_at hl 0 rfl) ?_
  refine va_get (D := G) (ci := 3) (v := .ref (a 2)) (C := RX3) (T := TX3) (N := 15) hx hb hts in_wsX30 hown hev.1 hP 0 rfl rfl 2 (by decide) (hts (.fieldLink RX3 18 "PuddleMinistries$Street" "waters" "[I") (List.mem_of_getElem? (i := 1) rfl)) (fun _ h9 => h9) rfl dX3_depth_1 ?_
  refine lv_iload_n hx hb dX3_depth_4 rfl (lv_at hl 1 rfl) ?_
  refine b_iald hx hb hev.1 hP 3 rfl rfl (j := p) (by omega) (by decide) dX3_depth_5 ?_
  refine lv_iconst (v := 5) hx hb dX3_depth_6 (by decide) ?_
  refine lv_idiv hx hb dX3_depth_7 (by decide) ?_
  refine lv_eqi (y := s_wa S p / 5) rfl ?_
  exact hret _ _ _ _ hP hS dX3_depth_8
set_option maxHeartbeats 4000000 in
set_option maxRecDepth 100000 in
theorem c_X3_isFrozen (l : Launch) (G : va_G) (ca : Nat → ClassId) (h : Nat) (a : Nat → Nat) (S : SS) (p : Nat) : CtI l yX3_isFrozen wsX3_isFrozen ({ frames := 1, cells := 0, slots := 0, locals := 21 }) [.ref h, .int (nI p)] G ca (stT ca h a S) (stT ca h a S) (bt1 (s_fz S) p) := by
  refine CtI.ofW (cc := cX3_isFrozen) (maxL := 2) (rt := .boolean) (by decide) rfl (Nat.le_of_ble_eq_true rfl) (bt1_nar _ _) ?_
  intro pr en s m be me c A ls Q H hx hb hml hts hown hev hP hD hA hS hl hret
  have hown : s.vm.findClass RX3 = some m.cls := hown
  have hl : lv_has ls 2 [(0, .ref h), (1, .int (nI p))] := hl
  have in_wsX30 : ∀ w ∈ wsX30, w ∈ wsX3_isFrozen := fun _ h => List.mem_cons_of_mem _ (List.mem_append_right _ h)
  refine lv_aload_n hx hb dX3_isFrozen_0 rfl (lv_at hl 0 rfl) ?_
  refine va_get (D := G) (ci := 3) (v := .int (s_fz S)) (C := RX3) (T := TX3) (N := 15) hx hb hts in_wsX30 hown hev.1 hP 0 rfl rfl 9 (by decide) (hts (.fieldLink RX3 46 "PuddleMinistries$Street" "frozenSet" "I") (List.mem_of_getElem? (i := 1) rfl)) (fun _ h9 => h9) rfl dX3_isFrozen_1 ?_
  refine lv_iload_n hx hb dX3_isFrozen_4 rfl (lv_at hl 1 rfl) ?_
  refine goI0 (va_runSN (As := [.int (s_fz S), .int (nI p)]) (rest := []) ⟨hx, hb, hml, hown, hts⟩ (CtI.use (c_X4_isIn l G ca (s_fz S) p) H.size) ⟨va_cnB 2 hts gX3_isFrozen_X4_isIn_n65 rfl rfl rfl hev.2.2.2.1 (hts (.initialized RX4) (List.mem_of_getElem? (i := 3) rfl)) (by decide +kernel) ⟨Nat.le_of_ble_eq_true rfl, Nat.le_of_ble_eq_true rfl⟩, hts (.static yX4_isIn) (List.mem_of_getElem? (i := 2) rfl), trivial⟩ (pcW_S hev P_nil (D_nil (A := A))) rfl rfl hl.1 rfl (lv_room (Nat.le_of_ble_eq_true rfl)) dX3_isFrozen_5 ⟨Nat.zero_le _, Nat.zero_le _⟩) hP hS hA (fun H locs hP hS => ?_)
  exact hret _ _ _ _ hP hS dX3_isFrozen_8
set_option maxHeartbeats 4000000 in
set_option maxRecDepth 100000 in
theorem c_X3_hasDucks (l : Launch) (G : va_G) (ca : Nat → ClassId) (h : Nat) (a : Nat → Nat) (S : SS) (p : Nat) : CtI l yX3_hasDucks wsX3_hasDucks ({ frames := 1, cells := 0, slots := 0, locals := 21 }) [.ref h, .int (nI p)] G ca (stT ca h a S) (stT ca h a S) (bt1 (s_dk S) p) := by
  refine CtI.ofW (cc := cX3_hasDucks) (maxL := 2) (rt := .boolean) (by decide) rfl (Nat.le_of_ble_eq_true rfl) (bt1_nar _ _) ?_
  intro pr en s m be me c A ls Q H hx hb hml hts hown hev hP hD hA hS hl hret
  have hown : s.vm.findClass RX3 = some m.cls := hown
  have hl : lv_has ls 2 [(0, .ref h), (1, .int (nI p))] := hl
  have in_wsX30 : ∀ w ∈ wsX30, w ∈ wsX3_hasDucks := fun _ h => List.mem_cons_of_mem _ (List.mem_append_right _ h)
  refine lv_aload_n hx hb dX3_hasDucks_0 rfl (lv_at hl 0 rfl) ?_
  refine va_get (D := G) (ci := 3) (v := .int (s_dk S)) (C := RX3) (T := TX3) (N := 15) hx hb hts in_wsX30 hown hev.1 hP 0 rfl rfl 10 (by decide) (hts (.fieldLink RX3 50 "PuddleMinistries$Street" "ducksSet" "I") (List.mem_of_getElem? (i := 1) rfl)) (fun _ h9 => h9) rfl dX3_hasDucks_1 ?_
  refine lv_iload_n hx hb dX3_hasDucks_4 rfl (lv_at hl 1 rfl) ?_
  refine goI0 (va_runSN (As := [.int (s_dk S), .int (nI p)]) (rest := []) ⟨hx, hb, hml, hown, hts⟩ (CtI.use (c_X4_isIn l G ca (s_dk S) p) H.size) ⟨va_cnB 2 hts gX3_hasDucks_X4_isIn_n65 rfl rfl rfl hev.2.2.2.1 (hts (.initialized RX4) (List.mem_of_getElem? (i := 3) rfl)) (by decide +kernel) ⟨Nat.le_of_ble_eq_true rfl, Nat.le_of_ble_eq_true rfl⟩, hts (.static yX4_isIn) (List.mem_of_getElem? (i := 2) rfl), trivial⟩ (pcW_S hev P_nil (D_nil (A := A))) rfl rfl hl.1 rfl (lv_room (Nat.le_of_ble_eq_true rfl)) dX3_hasDucks_5 ⟨Nat.zero_le _, Nat.zero_le _⟩) hP hS hA (fun H locs hP hS => ?_)
  exact hret _ _ _ _ hP hS dX3_hasDucks_8
def u_fz (S : SS) (x : Int32) : SS := (s_se S, s_br S, s_wa S, s_cr S, s_sh S, s_ow S, s_pa S, s_cb S, s_pd S, x, s_dk S, s_dy S, s_fe S, s_dr S, s_dn S)
def thaw1 (b : Int32) (p : Nat) : Int32 := b &&& ((1 <<< (nI p &&& 31)) ^^^ (-1))
set_option maxHeartbeats 4000000 in
set_option maxRecDepth 100000 in
theorem c_X3_thaw (l : Launch) (G : va_G) (ca : Nat → ClassId) (h : Nat) (a : Nat → Nat) (S : SS) (p : Nat) : CtV l yX3_thaw wsX3_thaw ({ frames := 0, cells := 0, slots := 0, locals := 0 }) [.ref h, .int (nI p)] G ca (stT ca h a S) (stT ca h a (u_fz S (thaw1 (s_fz S) p))) := by
  refine CtV.ofW (cc := cX3_thaw) (maxL := 2) (by decide) rfl (Nat.le_of_ble_eq_true rfl) ?_
  intro pr en s m be me c A ls Q H hx hb hml hts hown hev hP hD hA hS hl hret
  have hown : s.vm.findClass RX3 = some m.cls := hown
  have hl : lv_has ls 2 [(0, .ref h), (1, .int (nI p))] := hl
  have in_wsX30 : ∀ w ∈ wsX30, w ∈ wsX3_thaw := fun _ h => List.mem_cons_of_mem _ (List.mem_append_right _ h)
  refine lv_aload_n hx hb dX3_thaw_0 rfl (lv_at hl 0 rfl) ?_
  refine lv_dup hx hb dX3_thaw_1 rfl ?_
  refine va_get (D := G) (ci := 3) (v := .int (s_fz S)) (C := RX3) (T := TX3) (N := 15) hx hb hts in_wsX30 hown hev.1 hP 0 rfl rfl 9 (by decide) (hts (.fieldLink RX3 46 "PuddleMinistries$Street" "frozenSet" "I") (List.mem_of_getElem? (i := 1) rfl)) (fun _ h9 => h9) rfl dX3_thaw_2 ?_
  refine lv_iconst (v := 1) hx hb dX3_thaw_5 (by decide) ?_
  refine lv_iload_n hx hb dX3_thaw_6 rfl (lv_at hl 1 rfl) ?_
  refine lv_ishl hx hb dX3_thaw_7 ?_
  refine lv_iconst (v := (-1)) hx hb dX3_thaw_8 (by decide) ?_
  refine lv_ixor hx hb dX3_thaw_9 ?_
  refine lv_iand hx hb dX3_thaw_10 ?_
  refine va_put (D := G) (ci := 3) (v := .int ((s_fz S) &&& ((1 <<< ((nI p) &&& 31)) ^^^ (-1)))) (ty := .int) (C := RX3) (T := TX3) (N := 15) hx hb hts in_wsX30 tyX3 tyX3_ok nmX3 hown hev.1 hP hD hS 0 rfl rfl 9 (by decide) (hts (.fieldLink RX3 46 "PuddleMinistries$Street" "frozenSet" "I") (List.mem_of_getElem? (i := 1) rfl)) (fun _ h9 => h9) rfl (by decide +kernel) rfl rfl (Nat.le_of_ble_eq_true rfl) dX3_thaw_11 (fun H locs hP hD hS => ?_)
  have hP : va_P G vwCl (stT ca h a (s_se S, s_br S, s_wa S, s_cr S, s_sh S, s_ow S, s_pa S, s_cb S, s_pd S, (s_fz S) &&& ((1 <<< ((nI p) &&& 31)) ^^^ (-1)), s_dk S, s_dy S, s_fe S, s_dr S, s_dn S)) H := hP
  have hD : va_D A (stT ca h a (s_se S, s_br S, s_wa S, s_cr S, s_sh S, s_ow S, s_pa S, s_cb S, s_pd S, (s_fz S) &&& ((1 <<< ((nI p) &&& 31)) ^^^ (-1)), s_dk S, s_dy S, s_fe S, s_dr S, s_dn S)) := hD
  exact hret _ _ _ _ hP hS dX3_thaw_14
end
section
/-! class Street: weather, permits, reasons -/
def hasP (S : SS) (w p : Nat) : Int32 := if s_pd S (w * 12 + p) ≤ 0 then 0 else 1
def smD (d : Nat → Int32) : Nat → Int32 | 0 => 0 | i + 1 => smD d i + d i
def mkD (g : Nat → Int32) : Nat → Int32 | 0 => 0 | i + 1 => if g i = 0 then mkD g i else mkD g i ||| ((1 : Int32) <<< (nI i &&& 31))
theorem mkD_s (g : Nat → Int32) (i : Nat) : mkD g (i + 1) = if g i = 0 then mkD g i else mkD g i ||| ((1 : Int32) <<< (nI i &&& 31)) := rfl
theorem bool_nar {c : Prop} [Decidable c] : narrow .boolean (.int (if c then (1 : Int32) else 0)) = .int (if c then (1 : Int32) else 0) := by split <;> rfl
theorem bool_nar2 {c : Prop} [Decidable c] : narrow .boolean (.int (if c then (0 : Int32) else 1)) = .int (if c then (0 : Int32) else 1) := by split <;> rfl
set_option maxHeartbeats 4000000 in
set_option maxRecDepth 100000 in
theorem c_X3_hasPermit (l : Launch) (G : va_G) (ca : Nat → ClassId) (h : Nat) (a : Nat → Nat) (S : SS) (w : Nat) (p : Nat) (hw : w < 6) (hp : p < 12) : CtI l yX3_hasPermit wsX3_hasPermit ({ frames := 1, cells := 0, slots := 0, locals := 21 }) [.ref h, .int (nI w), .int (nI p)] G ca (stT ca h a S) (stT ca h a S) (hasP S w p) := by
  refine CtI.ofW (cc := cX3_hasPermit) (maxL := 3) (rt := .boolean) (by decide) rfl (Nat.le_of_ble_eq_true rfl) bool_nar2 ?_
  intro pr en s m be me c A ls Q H hx hb hml hts hown hev hP hD hA hS hl hret
  have hown : s.vm.findClass RX3 = some m.cls := hown
  have hl : lv_has ls 3 [(0, .ref h), (1, .int (nI w)), (2, .int (nI p))] := hl
  have in_wsX30 : ∀ w ∈ wsX30, w ∈ wsX3_hasPermit := fun _ h => List.mem_cons_of_mem _ (List.mem_append_right _ h)
  refine lv_aload_n hx hb dX3_hasPermit_0 rfl (lv_at hl 0 rfl) ?_
  refine va_get (D := G) (ci := 3) (v := .ref (a 8)) (C := RX3) (T := TX3) (N := 15) hx hb hts in_wsX30 hown hev.1 hP 0 rfl rfl 8 (by decide) (hts (.fieldLink RX3 36 "PuddleMinistries$Street" "permitDays" "[I") (List.mem_of_getElem? (i := 1) rfl)) (fun _ h9 => h9) rfl dX3_hasPermit_1 ?_
  refine lv_iload_n hx hb dX3_hasPermit_4 rfl (lv_at hl 1 rfl) ?_
  refine lv_iload_n hx hb dX3_hasPermit_5 rfl (lv_at hl 2 rfl) ?_
  refine goI0 (va_runSN (As := [.int (nI w), .int (nI p)]) (rest := [.ref (a 8)]) ⟨hx, hb, hml, hown, hts⟩ (CtI.use (c_X4_placeOf l G ca w p) H.size) ⟨va_cnB 2 hts gX3_hasPermit_X4_placeOf_n99 rfl rfl rfl hev.2.2.2.2.1 (hts (.initialized RX4) (List.mem_of_getElem? (i := 3) rfl)) (by decide +kernel) ⟨Nat.le_of_ble_eq_true rfl, Nat.le_of_ble_eq_true rfl⟩, hts (.static yX4_placeOf) (List.mem_of_getElem? (i := 2) rfl), trivial⟩ (pcW_S hev P_nil (D_nil (A := A))) rfl rfl hl.1 rfl (lv_room (Nat.le_of_ble_eq_true rfl)) dX3_hasPermit_6 ⟨Nat.zero_le _, Nat.zero_le _⟩) hP hS hA (fun H locs hP hS => ?_)
  refine b_iald hx hb hev.1 hP 9 rfl rfl (j := (w * 12 + p)) (by omega) (by decide) dX3_hasPermit_9 ?_
  refine lv_if_le (tgt := 17) hx hb dX3_hasPermit_10 (by decide) (fun c_1 => ?_) (fun c_1 => ?_)
  · skip
    refine lv_iconst (v := 0) hx hb dX3_hasPermit_17 (by decide) ?_
    refine lv_eqi (y := hasP S w p) (by rw [hasP, if_pos c_1]) ?_
    exact hret _ _ _ _ hP hS dX3_hasPermit_18
  · skip
    refine lv_iconst (v := 1) hx hb dX3_hasPermit_13 (by decide) ?_
    refine lv_goto (tgt := 18) hx hb dX3_hasPermit_14 (by decide) ?_
    refine lv_eqi (y := hasP S w p) (by rw [hasP, if_neg c_1]) ?_
    exact hret _ _ _ _ hP hS dX3_hasPermit_18
set_option maxHeartbeats 4000000 in
set_option maxRecDepth 100000 in
theorem c_X3_permitsOf (l : Launch) (G : va_G) (ca : Nat → ClassId) (h : Nat) (a : Nat → Nat) (S : SS) (w : Nat) (hw : w < 6) : CtI l yX3_permitsOf wsX3_permitsOf ({ frames := 2, cells := 0, slots := 0, locals := 43 }) [.ref h, .int (nI w)] G ca (stT ca h a S) (stT ca h a S) (mkD (hasP S w) 12) := by
  refine CtI.ofW (cc := cX3_permitsOf) (maxL := 4) (rt := .int) (by decide) rfl (Nat.le_of_ble_eq_true rfl) rfl ?_
  intro pr en s m be me c A ls Q H hx hb hml hts hown hev hP hD hA hS hl hret
  have hown : s.vm.findClass RX3 = some m.cls := hown
  have hl : lv_has ls 4 [(0, .ref h), (1, .int (nI w))] := hl
  have in_wsX30 : ∀ w ∈ wsX30, w ∈ wsX3_permitsOf := fun _ h => List.mem_cons_of_mem _ (List.mem_append_right _ h)
  refine lv_iconst (v := 0) hx hb dX3_permitsOf_0 (by decide) ?_
  refine lv_istore_n (lv' := [(2, .int 0), (0, .ref h), (1, .int (nI w))]) hx hb dX3_permitsOf_1 rfl hl (by decide) rfl (fun ls hl => ?_)
  refine lv_iconst (v := nI 0) hx hb dX3_permitsOf_2 (by decide) ?_
  refine lv_istore_n (lv' := [(3, .int (nI 0)), (2, .int 0), (0, .ref h), (1, .int (nI w))]) hx hb dX3_permitsOf_3 rfl hl (by decide) rfl (fun ls hl => ?_)
  have loop_4 : ∀ (n i : Nat), i + n = 12 → ∀ (H : Heap) (locs : List Loc) (ls : Array Slot), va_P G vwCl (stT ca h a S) H → va_D A (stT ca h a S) → va_S A s.heap H locs → lv_has ls 4 [(0, .ref h), (1, .int (nI w)), (2, .int (mkD (hasP S w) i)), (3, .int (nI i))] → W pr l en ({ frames := 2, cells := 0, slots := 0, locals := 43 } : Room) s m ([.ref h, .int (nI w)] : List Value).toArray be me c H locs 0 0 Q (F0 m 4 ls []) := by
    intro n
    induction n with
    | zero =>
      intro i hi H locs ls hP hD hS hl
      obtain rfl : i = 12 := by omega
      refine lv_iload_n hx hb dX3_permitsOf_4 rfl (lv_at hl 3 rfl) ?_
      refine lv_bipush (v := nI 12) hx hb dX3_permitsOf_5 (by decide) ?_
      refine lv_icmp_ge (tgt := 31) hx hb dX3_permitsOf_7 (by decide) (fun c_1 => ?_) (fun c_1 => ?_)
      · skip
        refine lv_iload_n hx hb dX3_permitsOf_31 rfl (lv_at hl 2 rfl) ?_
        exact hret _ _ _ _ hP hS dX3_permitsOf_32
      · skip
        exact absurd (nI_le (by omega) (by omega)) c_1
    | succ n ih =>
      intro i hi H locs ls hP hD hS hl
      have hlt : i < 12 := by omega
      refine lv_iload_n hx hb dX3_permitsOf_4 rfl (lv_at hl 3 rfl) ?_
      refine lv_bipush (v := nI 12) hx hb dX3_permitsOf_5 (by decide) ?_
      refine lv_icmp_ge (tgt := 31) hx hb dX3_permitsOf_7 (by decide) (fun c_2 => ?_) (fun c_2 => ?_)
      · skip
        exact absurd c_2 (nI_ge (by omega) (by omega))
      · skip
        refine lv_aload_n hx hb dX3_permitsOf_10 rfl (lv_at hl 0 rfl) ?_
        refine lv_iload_n hx hb dX3_permitsOf_11 rfl (lv_at hl 1 rfl) ?_
        refine lv_iload_n hx hb dX3_permitsOf_12 rfl (lv_at hl 3 rfl) ?_
        refine goIw (va_runV (As := [.int (nI w), .int (nI i)]) (rest := []) ⟨hx, hb, hml, hown, hts⟩ (CtI.use (c_X3_hasPermit l G ca h a S w i (by omega) (by omega)) H.size) (cwV 2 hts gX3_permitsOf_X3_hasPermit rfl rfl rfl (by decide +kernel) ⟨Nat.le_of_ble_eq_true rfl, Nat.le_of_ble_eq_true rfl⟩) (pcW_V hev hP hD (q0 := 0) rfl rfl rfl) rfl rfl hl.1 rfl (lv_room (Nat.le_of_ble_eq_true rfl)) dX3_permitsOf_13 ⟨Nat.zero_le _, Nat.zero_le _⟩) hD hS hA stF (fun H locs hP hD hS => ?_)
        refine lv_if_eq (tgt := 25) hx hb dX3_permitsOf_16 (by decide) (fun c_3 => ?_) (fun c_3 => ?_)
        · skip
          refine lv_iinc (v := nI (i + 1)) (lv' := [(3, .int (nI (i + 1))), (0, .ref h), (1, .int (nI w)), (2, .int (mkD (hasP S w) i))]) hx hb dX3_permitsOf_25 hl (k := 3) rfl (nI_1 _) (by decide) rfl (fun ls hl => ?_)
          refine lv_goto (tgt := 4) hx hb dX3_permitsOf_28 (by decide) ?_
          exact ih (i + 1) (by omega) _ _ _ hP (D_of hD stF) hS (by rw [show (mkD (hasP S w) (i + 1)) = (mkD (hasP S w) i) from by rw [mkD_s, if_pos c_3]]; exact lv_sub hl [1, 2, 3, 0] rfl)
        · skip
          refine lv_iload_n hx hb dX3_permitsOf_19 rfl (lv_at hl 2 rfl) ?_
          refine lv_iconst (v := 1) hx hb dX3_permitsOf_20 (by decide) ?_
          refine lv_iload_n hx hb dX3_permitsOf_21 rfl (lv_at hl 3 rfl) ?_
          refine lv_ishl hx hb dX3_permitsOf_22 ?_
          refine lv_ior hx hb dX3_permitsOf_23 ?_
          refine lv_istore_n (lv' := [(2, .int ((mkD (hasP S w) i) ||| (1 <<< ((nI i) &&& 31)))), (0, .ref h), (1, .int (nI w)), (3, .int (nI i))]) hx hb dX3_permitsOf_24 rfl hl (by decide) rfl (fun ls hl => ?_)
          refine lv_iinc (v := nI (i + 1)) (lv' := [(3, .int (nI (i + 1))), (2, .int ((mkD (hasP S w) i) ||| (1 <<< ((nI i) &&& 31)))), (0, .ref h), (1, .int (nI w))]) hx hb dX3_permitsOf_25 hl (k := 3) rfl (nI_1 _) (by decide) rfl (fun ls hl => ?_)
          refine lv_goto (tgt := 4) hx hb dX3_permitsOf_28 (by decide) ?_
          exact ih (i + 1) (by omega) _ _ _ hP (D_of hD stF) hS (by rw [show (mkD (hasP S w) (i + 1)) = ((mkD (hasP S w) i) ||| (1 <<< ((nI i) &&& 31))) from by rw [mkD_s, if_neg c_3]]; exact lv_sub hl [2, 3, 1, 0] rfl)
  exact loop_4 12 0 (by omega) _ _ _ hP (D_of hD stF) hS (lv_sub hl [2, 3, 1, 0] rfl)
set_option maxHeartbeats 4000000 in
set_option maxRecDepth 100000 in
theorem c_X3_permitHoldersAt (l : Launch) (G : va_G) (ca : Nat → ClassId) (h : Nat) (a : Nat → Nat) (S : SS) (p : Nat) (hp : p < 12) : CtI l yX3_permitHoldersAt wsX3_permitHoldersAt ({ frames := 2, cells := 0, slots := 0, locals := 43 }) [.ref h, .int (nI p)] G ca (stT ca h a S) (stT ca h a S) (mkD (fun w => hasP S w p) 6) := by
  refine CtI.ofW (cc := cX3_permitHoldersAt) (maxL := 4) (rt := .int) (by decide) rfl (Nat.le_of_ble_eq_true rfl) rfl ?_
  intro pr en s m be me c A ls Q H hx hb hml hts hown hev hP hD hA hS hl hret
  have hown : s.vm.findClass RX3 = some m.cls := hown
  have hl : lv_has ls 4 [(0, .ref h), (1, .int (nI p))] := hl
  have in_wsX30 : ∀ w ∈ wsX30, w ∈ wsX3_permitHoldersAt := fun _ h => List.mem_cons_of_mem _ (List.mem_append_right _ h)
  refine lv_iconst (v := 0) hx hb dX3_permitHoldersAt_0 (by decide) ?_
  refine lv_istore_n (lv' := [(2, .int 0), (0, .ref h), (1, .int (nI p))]) hx hb dX3_permitHoldersAt_1 rfl hl (by decide) rfl (fun ls hl => ?_)
  refine lv_iconst (v := nI 0) hx hb dX3_permitHoldersAt_2 (by decide) ?_
  refine lv_istore_n (lv' := [(3, .int (nI 0)), (2, .int 0), (0, .ref h), (1, .int (nI p))]) hx hb dX3_permitHoldersAt_3 rfl hl (by decide) rfl (fun ls hl => ?_)
  have loop_4 : ∀ (n i : Nat), i + n = 6 → ∀ (H : Heap) (locs : List Loc) (ls : Array Slot), va_P G vwCl (stT ca h a S) H → va_D A (stT ca h a S) → va_S A s.heap H locs → lv_has ls 4 [(0, .ref h), (1, .int (nI p)), (2, .int (mkD (fun w => hasP S w p) i)), (3, .int (nI i))] → W pr l en ({ frames := 2, cells := 0, slots := 0, locals := 43 } : Room) s m ([.ref h, .int (nI p)] : List Value).toArray be me c H locs 0 0 Q (F0 m 4 ls []) := by
    intro n
    induction n with
    | zero =>
      intro i hi H locs ls hP hD hS hl
      obtain rfl : i = 6 := by omega
      refine lv_iload_n hx hb dX3_permitHoldersAt_4 rfl (lv_at hl 3 rfl) ?_
      refine lv_bipush (v := nI 6) hx hb dX3_permitHoldersAt_5 (by decide) ?_
      refine lv_icmp_ge (tgt := 31) hx hb dX3_permitHoldersAt_7 (by decide) (fun c_1 => ?_) (fun c_1 => ?_)
      · skip
        refine lv_iload_n hx hb dX3_permitHoldersAt_31 rfl (lv_at hl 2 rfl) ?_
        exact hret _ _ _ _ hP hS dX3_permitHoldersAt_32
      · skip
        exact absurd (nI_le (by omega) (by omega)) c_1
    | succ n ih =>
      intro i hi H locs ls hP hD hS hl
      have hlt : i < 6 := by omega
      refine lv_iload_n hx hb dX3_permitHoldersAt_4 rfl (lv_at hl 3 rfl) ?_
      refine lv_bipush (v := nI 6) hx hb dX3_permitHoldersAt_5 (by decide) ?_
      refine lv_icmp_ge (tgt := 31) hx hb dX3_permitHoldersAt_7 (by decide) (fun c_2 => ?_) (fun c_2 => ?_)
      · skip
        exact absurd c_2 (nI_ge (by omega) (by omega))
      · skip
        refine lv_aload_n hx hb dX3_permitHoldersAt_10 rfl (lv_at hl 0 rfl) ?_
        refine lv_iload_n hx hb dX3_permitHoldersAt_11 rfl (lv_at hl 3 rfl) ?_
        refine lv_iload_n hx hb dX3_permitHoldersAt_12 rfl (lv_at hl 1 rfl) ?_
        refine goIw (va_runV (As := [.int (nI i), .int (nI p)]) (rest := []) ⟨hx, hb, hml, hown, hts⟩ (CtI.use (c_X3_hasPermit l G ca h a S i p (by omega) (by omega)) H.size) (cwV 2 hts gX3_permitHoldersAt_X3_hasPermit rfl rfl rfl (by decide +kernel) ⟨Nat.le_of_ble_eq_true rfl, Nat.le_of_ble_eq_true rfl⟩) (pcW_V hev hP hD (q0 := 0) rfl rfl rfl) rfl rfl hl.1 rfl (lv_room (Nat.le_of_ble_eq_true rfl)) dX3_permitHoldersAt_13 ⟨Nat.zero_le _, Nat.zero_le _⟩) hD hS hA stF (fun H locs hP hD hS => ?_)
        refine lv_if_eq (tgt := 25) hx hb dX3_permitHoldersAt_16 (by decide) (fun c_3 => ?_) (fun c_3 => ?_)
        · skip
          refine lv_iinc (v := nI (i + 1)) (lv' := [(3, .int (nI (i + 1))), (0, .ref h), (1, .int (nI p)), (2, .int (mkD (fun w => hasP S w p) i))]) hx hb dX3_permitHoldersAt_25 hl (k := 3) rfl (nI_1 _) (by decide) rfl (fun ls hl => ?_)
          refine lv_goto (tgt := 4) hx hb dX3_permitHoldersAt_28 (by decide) ?_
          exact ih (i + 1) (by omega) _ _ _ hP (D_of hD stF) hS (by rw [show (mkD (fun w => hasP S w p) (i + 1)) = (mkD (fun w => hasP S w p) i) from by rw [mkD_s, if_pos c_3]]; exact lv_sub hl [1, 2, 3, 0] rfl)
        · skip
          refine lv_iload_n hx hb dX3_permitHoldersAt_19 rfl (lv_at hl 2 rfl) ?_
          refine lv_iconst (v := 1) hx hb dX3_permitHoldersAt_20 (by decide) ?_
          refine lv_iload_n hx hb dX3_permitHoldersAt_21 rfl (lv_at hl 3 rfl) ?_
          refine lv_ishl hx hb dX3_permitHoldersAt_22 ?_
          refine lv_ior hx hb dX3_permitHoldersAt_23 ?_
          refine lv_istore_n (lv' := [(2, .int ((mkD (fun w => hasP S w p) i) ||| (1 <<< ((nI i) &&& 31)))), (0, .ref h), (1, .int (nI p)), (3, .int (nI i))]) hx hb dX3_permitHoldersAt_24 rfl hl (by decide) rfl (fun ls hl => ?_)
          refine lv_iinc (v := nI (i + 1)) (lv' := [(3, .int (nI (i + 1))), (2, .int ((mkD (fun w => hasP S w p) i) ||| (1 <<< ((nI i) &&& 31)))), (0, .ref h), (1, .int (nI p))]) hx hb dX3_permitHoldersAt_25 hl (k := 3) rfl (nI_1 _) (by decide) rfl (fun ls hl => ?_)
          refine lv_goto (tgt := 4) hx hb dX3_permitHoldersAt_28 (by decide) ?_
          exact ih (i + 1) (by omega) _ _ _ hP (D_of hD stF) hS (by rw [show (mkD (fun w => hasP S w p) (i + 1)) = ((mkD (fun w => hasP S w p) i) ||| (1 <<< ((nI i) &&& 31))) from by rw [mkD_s, if_neg c_3]]; exact lv_sub hl [2, 3, 1, 0] rfl)
  exact loop_4 6 0 (by omega) _ _ _ hP (D_of hD stF) hS (lv_sub hl [2, 3, 1, 0] rfl)
def bc1 (x : Int32) : Int32 := x - (((x.toUInt32 >>> ((1 : Int32).toUInt32 &&& Int32.toUInt32 31)).toInt32) &&& 1431655765)
def bc2 (x : Int32) : Int32 := (x &&& 858993459) + (((x.toUInt32 >>> ((2 : Int32).toUInt32 &&& Int32.toUInt32 31)).toInt32) &&& 858993459)
def bc3 (x : Int32) : Int32 := (x + ((x.toUInt32 >>> ((4 : Int32).toUInt32 &&& Int32.toUInt32 31)).toInt32)) &&& 252645135
def bc4 (x : Int32) : Int32 := x + ((x.toUInt32 >>> ((8 : Int32).toUInt32 &&& Int32.toUInt32 31)).toInt32)
def bc5 (x : Int32) : Int32 := x + ((x.toUInt32 >>> ((16 : Int32).toUInt32 &&& Int32.toUInt32 31)).toInt32)
def bcN (x : Int32) : Int32 := bc5 (bc4 (bc3 (bc2 (bc1 x)))) &&& 63
set_option maxHeartbeats 4000000 in
set_option maxRecDepth 100000 in
theorem c_J6_bitCount_0f7a4 (l : Launch) (G : va_G) (ca : Nat → ClassId) (x : Int32) : CtI l yJ6_bitCount_0f7a4 wsJ6_bitCount_0f7a4 ({ frames := 0, cells := 0, slots := 0, locals := 0 }) [.int x] G ca ([]) ([]) (bcN x) := by
  refine CtI.ofW (cc := cJ6_bitCount_0f7a4) (maxL := 1) (rt := .int) (by decide) rfl (Nat.le_of_ble_eq_true rfl) rfl ?_
  intro pr en s m be me c A ls Q H hx hb hml hts hown hev hP hD hA hS hl hret
  have hown : s.vm.findClass RJ6 = some m.cls := hown
  have hl : lv_has ls 1 [(0, .int x)] := hl
  refine lv_iload_n hx hb dJ6_bitCount_0f7a4_0 rfl (lv_at hl 0 rfl) ?_
  refine lv_iload_n hx hb dJ6_bitCount_0f7a4_1 rfl (lv_at hl 0 rfl) ?_
  refine lv_iconst (v := 1) hx hb dJ6_bitCount_0f7a4_2 (by decide) ?_
  refine lv_iushr (v := (x.toUInt32 >>> ((1 : Int32).toUInt32 &&& Int32.toUInt32 31)).toInt32) hx hb dJ6_bitCount_0f7a4_3 rfl ?_
  refine lv_ldcw hx hb hown (hts (.constant RJ6 265 (1431655765)) (List.mem_of_getElem? (i := 1) rfl)) dJ6_bitCount_0f7a4_4 ?_
  refine lv_iand hx hb dJ6_bitCount_0f7a4_7 ?_
  refine lv_isub hx hb dJ6_bitCount_0f7a4_8 ?_
  refine lv_eqi (y := bc1 x) rfl ?_
  refine lv_istore_n (lv' := [(0, .int (bc1 x))]) hx hb dJ6_bitCount_0f7a4_9 rfl hl (by decide) rfl (fun ls hl => ?_)
  refine lv_iload_n hx hb dJ6_bitCount_0f7a4_10 rfl (lv_at hl 0 rfl) ?_
  refine lv_ldcw hx hb hown (hts (.constant RJ6 266 (858993459)) (List.mem_of_getElem? (i := 2) rfl)) dJ6_bitCount_0f7a4_11 ?_
  refine lv_iand hx hb dJ6_bitCount_0f7a4_14 ?_
  refine lv_iload_n hx hb dJ6_bitCount_0f7a4_15 rfl (lv_at hl 0 rfl) ?_
  refine lv_iconst (v := 2) hx hb dJ6_bitCount_0f7a4_16 (by decide) ?_
  refine lv_iushr (v := ((bc1 x).toUInt32 >>> ((2 : Int32).toUInt32 &&& Int32.toUInt32 31)).toInt32) hx hb dJ6_bitCount_0f7a4_17 rfl ?_
  refine lv_ldcw hx hb hown (hts (.constant RJ6 266 (858993459)) (List.mem_of_getElem? (i := 2) rfl)) dJ6_bitCount_0f7a4_18 ?_
  refine lv_iand hx hb dJ6_bitCount_0f7a4_21 ?_
  refine lv_iadd hx hb dJ6_bitCount_0f7a4_22 ?_
  refine lv_eqi (y := bc2 (bc1 x)) rfl ?_
  refine lv_istore_n (lv' := [(0, .int (bc2 (bc1 x)))]) hx hb dJ6_bitCount_0f7a4_23 rfl hl (by decide) rfl (fun ls hl => ?_)
  refine lv_iload_n hx hb dJ6_bitCount_0f7a4_24 rfl (lv_at hl 0 rfl) ?_
  refine lv_iload_n hx hb dJ6_bitCount_0f7a4_25 rfl (lv_at hl 0 rfl) ?_
  refine lv_iconst (v := 4) hx hb dJ6_bitCount_0f7a4_26 (by decide) ?_
  refine lv_iushr (v := ((bc2 (bc1 x)).toUInt32 >>> ((4 : Int32).toUInt32 &&& Int32.toUInt32 31)).toInt32) hx hb dJ6_bitCount_0f7a4_27 rfl ?_
  refine lv_iadd hx hb dJ6_bitCount_0f7a4_28 ?_
  refine lv_ldcw hx hb hown (hts (.constant RJ6 267 (252645135)) (List.mem_of_getElem? (i := 3) rfl)) dJ6_bitCount_0f7a4_29 ?_
  refine lv_iand hx hb dJ6_bitCount_0f7a4_32 ?_
  refine lv_eqi (y := bc3 (bc2 (bc1 x))) rfl ?_
  refine lv_istore_n (lv' := [(0, .int (bc3 (bc2 (bc1 x))))]) hx hb dJ6_bitCount_0f7a4_33 rfl hl (by decide) rfl (fun ls hl => ?_)
  refine lv_iload_n hx hb dJ6_bitCount_0f7a4_34 rfl (lv_at hl 0 rfl) ?_
  refine lv_iload_n hx hb dJ6_bitCount_0f7a4_35 rfl (lv_at hl 0 rfl) ?_
  refine lv_bipush (v := 8) hx hb dJ6_bitCount_0f7a4_36 (by decide) ?_
  refine lv_iushr (v := ((bc3 (bc2 (bc1 x))).toUInt32 >>> ((8 : Int32).toUInt32 &&& Int32.toUInt32 31)).toInt32) hx hb dJ6_bitCount_0f7a4_38 rfl ?_
  refine lv_iadd hx hb dJ6_bitCount_0f7a4_39 ?_
  refine lv_eqi (y := bc4 (bc3 (bc2 (bc1 x)))) rfl ?_
  refine lv_istore_n (lv' := [(0, .int (bc4 (bc3 (bc2 (bc1 x)))))]) hx hb dJ6_bitCount_0f7a4_40 rfl hl (by decide) rfl (fun ls hl => ?_)
  refine lv_iload_n hx hb dJ6_bitCount_0f7a4_41 rfl (lv_at hl 0 rfl) ?_
  refine lv_iload_n hx hb dJ6_bitCount_0f7a4_42 rfl (lv_at hl 0 rfl) ?_
  refine lv_bipush (v := 16) hx hb dJ6_bitCount_0f7a4_43 (by decide) ?_
  refine lv_iushr (v := ((bc4 (bc3 (bc2 (bc1 x)))).toUInt32 >>> ((16 : Int32).toUInt32 &&& Int32.toUInt32 31)).toInt32) hx hb dJ6_bitCount_0f7a4_45 rfl ?_
  refine lv_iadd hx hb dJ6_bitCount_0f7a4_46 ?_
  refine lv_eqi (y := bc5 (bc4 (bc3 (bc2 (bc1 x))))) rfl ?_
  refine lv_istore_n (lv' := [(0, .int (bc5 (bc4 (bc3 (bc2 (bc1 x))))))]) hx hb dJ6_bitCount_0f7a4_47 rfl hl (by decide) rfl (fun ls hl => ?_)
  refine lv_iload_n hx hb dJ6_bitCount_0f7a4_48 rfl (lv_at hl 0 rfl) ?_
  refine lv_bipush (v := 63) hx hb dJ6_bitCount_0f7a4_49 (by decide) ?_
  refine lv_iand hx hb dJ6_bitCount_0f7a4_51 ?_
  refine lv_eqi (y := bcN x) rfl ?_
  exact hret _ _ _ _ hP hS dJ6_bitCount_0f7a4_52
set_option maxHeartbeats 4000000 in
set_option maxRecDepth 100000 in
theorem c_X3_allPermits (l : Launch) (G : va_G) (ca : Nat → ClassId) (h : Nat) (a : Nat → Nat) (S : SS) : CtI l yX3_allPermits wsX3_allPermits ({ frames := 3, cells := 0, slots := 0, locals := 66 }) [.ref h] G ca (stT ca h a S) (stT ca h a S) (smD (fun w => bcN (mkD (hasP S w) 12)) 6) := by
  refine CtI.ofW (cc := cX3_allPermits) (maxL := 3) (rt := .int) (by decide) rfl (Nat.le_of_ble_eq_true rfl) rfl ?_
  intro pr en s m be me c A ls Q H hx hb hml hts hown hev hP hD hA hS hl hret
  have hown : s.vm.findClass RX3 = some m.cls := hown
  have hl : lv_has ls 3 [(0, .ref h)] := hl
  have in_wsX30 : ∀ w ∈ wsX30, w ∈ wsX3_allPermits := fun _ h => List.mem_cons_of_mem _ (List.mem_append_right _ h)
  refine lv_iconst (v := 0) hx hb dX3_allPermits_0 (by decide) ?_
  refine lv_istore_n (lv' := [(1, .int 0), (0, .ref h)]) hx hb dX3_allPermits_1 rfl hl (by decide) rfl (fun ls hl => ?_)
  refine lv_iconst (v := nI 0) hx hb dX3_allPermits_2 (by decide) ?_
  refine lv_istore_n (lv' := [(2, .int (nI 0)), (1, .int 0), (0, .ref h)]) hx hb dX3_allPermits_3 rfl hl (by decide) rfl (fun ls hl => ?_)
  have loop_4 : ∀ (n i : Nat), i + n = 6 → ∀ (H : Heap) (locs : List Loc) (ls : Array Slot), va_P G vwCl (stT ca h a S) H → va_D A (stT ca h a S) → va_S A s.heap H locs → lv_has ls 3 [(0, .ref h), (1, .int (smD (fun w => bcN (mkD (hasP S w) 12)) i)), (2, .int (nI i))] → W pr l en ({ frames := 3, cells := 0, slots := 0, locals := 66 } : Room) s m ([.ref h] : List Value).toArray be me c H locs 0 0 Q (F0 m 4 ls []) := by
    intro n
    induction n with
    | zero =>
      intro i hi H locs ls hP hD hS hl
      obtain rfl : i = 6 := by omega
      refine lv_iload_n hx hb dX3_allPermits_4 rfl (lv_at hl 2 rfl) ?_
      refine lv_bipush (v := nI 6) hx hb dX3_allPermits_5 (by decide) ?_
      refine lv_icmp_ge (tgt := 27) hx hb dX3_allPermits_7 (by decide) (fun c_1 => ?_) (fun c_1 => ?_)
      · skip
        refine lv_iload_n hx hb dX3_allPermits_27 rfl (lv_at hl 1 rfl) ?_
        exact hret _ _ _ _ hP hS dX3_allPermits_28
      · skip
        exact absurd (nI_le (by omega) (by omega)) c_1
    | succ n ih =>
      intro i hi H locs ls hP hD hS hl
      have hlt : i < 6 := by omega
      refine lv_iload_n hx hb dX3_allPermits_4 rfl (lv_at hl 2 rfl) ?_
      refine lv_bipush (v := nI 6) hx hb dX3_allPermits_5 (by decide) ?_
      refine lv_icmp_ge (tgt := 27) hx hb dX3_allPermits_7 (by decide) (fun c_2 => ?_) (fun c_2 => ?_)
      · skip
        exact absurd c_2 (nI_ge (by omega) (by omega))
      · skip
        refine lv_iload_n hx hb dX3_allPermits_10 rfl (lv_at hl 1 rfl) ?_
        refine lv_aload_n hx hb dX3_allPermits_11 rfl (lv_at hl 0 rfl) ?_
        refine lv_iload_n hx hb dX3_allPermits_12 rfl (lv_at hl 2 rfl) ?_
        refine goIw (va_runV (As := [.int (nI i)]) (rest := [.int (smD (fun w => bcN (mkD (hasP S w) 12)) i)]) ⟨hx, hb, hml, hown, hts⟩ (CtI.use (c_X3_permitsOf l G ca h a S i (by omega)) H.size) (cwV 1 hts gX3_allPermits_X3_permitsOf rfl rfl rfl (by decide +kernel) ⟨Nat.le_of_ble_eq_true rfl, Nat.le_of_ble_eq_true rfl⟩) (pcW_V hev hP hD (q0 := 0) rfl rfl rfl) rfl rfl hl.1 rfl (lv_room (Nat.le_of_ble_eq_true rfl)) dX3_allPermits_13 ⟨Nat.zero_le _, Nat.zero_le _⟩) hD hS hA stF (fun H locs hP hD hS => ?_)
        refine goI0 (va_runS (As := [.int (mkD (hasP S i) 12)]) (rest := [.int (smD (fun w => bcN (mkD (hasP S w) 12)) i)]) ⟨hx, hb, hml, hown, hts⟩ (CtI.use (c_J6_bitCount_0f7a4 l G ca (mkD (hasP S i) 12)) H.size) (va_cwS 1 hts gX3_allPermits_J6_bitCount_0f7a4 rfl rfl rfl (by decide +kernel) ⟨Nat.le_of_ble_eq_true rfl, Nat.le_of_ble_eq_true rfl⟩) (pcW_S hev P_nil (D_nil (A := A))) rfl rfl hl.1 rfl (lv_room (Nat.le_of_ble_eq_true rfl)) dX3_allPermits_16 ⟨Nat.zero_le _, Nat.zero_le _⟩) hP hS hA (fun H locs hP hS => ?_)
        refine lv_iadd hx hb dX3_allPermits_19 ?_
        refine lv_istore_n (lv' := [(1, .int ((smD (fun w => bcN (mkD (hasP S w) 12)) i) + (bcN (mkD (hasP S i) 12)))), (0, .ref h), (2, .int (nI i))]) hx hb dX3_allPermits_20 rfl hl (by decide) rfl (fun ls hl => ?_)
        refine lv_iinc (v := nI (i + 1)) (lv' := [(2, .int (nI (i + 1))), (1, .int ((smD (fun w => bcN (mkD (hasP S w) 12)) i) + (bcN (mkD (hasP S i) 12)))), (0, .ref h)]) hx hb dX3_allPermits_21 hl (k := 2) rfl (nI_1 _) (by decide) rfl (fun ls hl => ?_)
        refine lv_goto (tgt := 4) hx hb dX3_allPermits_24 (by decide) ?_
        exact ih (i + 1) (by omega) _ _ _ hP (D_of hD stF) hS (lv_sub hl [2, 1, 0] rfl)
  exact loop_4 6 0 (by omega) _ _ _ hP (D_of hD stF) hS (lv_sub hl [2, 1, 0] rfl)
def rsnA (S : SS) (w p : Nat) (sh : Int32) : Int32 := if bt1 (s_dk S) p = 0 then (if hasP S w p = 0 then (if bt1 (s_fz S) p = 0 then (if s_wa S p / 5 ≤ 1 + 2 * sh then 0 else 2) else (if s_wa S p / 5 < 1 then 0 else 3)) else 0) else 1
def mayC (S : SS) (w p : Nat) : Int32 := if rsnA S w p (s_sh S w) = 0 then 1 else 0
def dutyA (S : SS) (p : Nat) : Int32 := if bt1 (s_fz S) p = 0 then s_se S 0 * (s_wa S p / 5) else 0
set_option maxHeartbeats 4000000 in
set_option maxRecDepth 100000 in
theorem c_X3_depthKeptOut (l : Launch) (G : va_G) (ca : Nat → ClassId) (x : Int32) : CtI l yX3_depthKeptOut wsX3_depthKeptOut ({ frames := 0, cells := 0, slots := 0, locals := 0 }) [.int x] G ca ([]) ([]) (1 + 2 * x) := by
  refine CtI.ofW (cc := cX3_depthKeptOut) (maxL := 1) (rt := .int) (by decide) rfl (Nat.le_of_ble_eq_true rfl) rfl ?_
  intro pr en s m be me c A ls Q H hx hb hml hts hown hev hP hD hA hS hl hret
  have hown : s.vm.findClass RX3 = some m.cls := hown
  have hl : lv_has ls 1 [(0, .int x)] := hl
  refine lv_iconst (v := 1) hx hb dX3_depthKeptOut_0 (by decide) ?_
  refine lv_iconst (v := 2) hx hb dX3_depthKeptOut_1 (by decide) ?_
  refine lv_iload_n hx hb dX3_depthKeptOut_2 rfl (lv_at hl 0 rfl) ?_
  refine lv_imul hx hb dX3_depthKeptOut_3 ?_
  refine lv_iadd hx hb dX3_depthKeptOut_4 ?_
  refine lv_eqi (y := 1 + 2 * x) rfl ?_
  exact hret _ _ _ _ hP hS dX3_depthKeptOut_5
set_option maxHeartbeats 4000000 in
set_option maxRecDepth 100000 in
theorem c_X3_reasonAgainst (l : Launch) (G : va_G) (ca : Nat → ClassId) (h : Nat) (a : Nat → Nat) (S : SS) (w : Nat) (p : Nat) (x : Int32) (hw : w < 6) (hp : p < 12) : CtI l yX3_reasonAgainst wsX3_reasonAgainst ({ frames := 2, cells := 0, slots := 0, locals := 43 }) [.ref h, .int (nI w), .int (nI p), .int x] G ca (stT ca h a S) (stT ca h a S) (rsnA S w p x) := by
  refine CtI.ofW (cc := cX3_reasonAgainst) (maxL := 5) (rt := .int) (by decide) rfl (Nat.le_of_ble_eq_true rfl) rfl ?_
  intro pr en s m be me c A ls Q H hx hb hml hts hown hev hP hD hA hS hl hret
  have hown : s.vm.findClass RX3 = some m.cls := hown
  have hl : lv_has ls 5 [(0, .ref h), (1, .int (nI w)), (2, .int (nI p)), (3, .int x)] := hl
  have in_wsX30 : ∀ w ∈ wsX30, w ∈ wsX3_reasonAgainst := fun _ h => List.mem_cons_of_mem _ (List.mem_append_right _ h)
  refine lv_aload_n hx hb dX3_reasonAgainst_0 rfl (lv_at hl 0 rfl) ?_
  refine lv_iload_n hx hb dX3_reasonAgainst_1 rfl (lv_at hl 2 rfl) ?_
  refine goIw (va_runV (As := [.int (nI p)]) (rest := []) ⟨hx, hb, hml, hown, hts⟩ (CtI.use (c_X3_hasDucks l G ca h a S p) H.size) (cwV 1 hts gX3_reasonAgainst_X3_hasDucks rfl rfl rfl (by decide +kernel) ⟨Nat.le_of_ble_eq_true rfl, Nat.le_of_ble_eq_true rfl⟩) (pcW_V hev hP hD (q0 := 0) rfl rfl rfl) rfl rfl hl.1 rfl (lv_room (Nat.le_of_ble_eq_true rfl)) dX3_reasonAgainst_2 ⟨Nat.zero_le _, Nat.zero_le _⟩) hD hS hA stF (fun H locs hP hD hS => ?_)
  refine lv_if_eq (tgt := 10) hx hb dX3_reasonAgainst_5 (by decide) (fun c_1 => ?_) (fun c_1 => ?_)
  · skip
    refine lv_aload_n hx hb dX3_reasonAgainst_10 rfl (lv_at hl 0 rfl) ?_
    refine lv_iload_n hx hb dX3_reasonAgainst_11 rfl (lv_at hl 1 rfl) ?_
    refine lv_iload_n hx hb dX3_reasonAgainst_12 rfl (lv_at hl 2 rfl) ?_
    refine goIw (va_runV (As := [.int (nI w), .int (nI p)]) (rest := []) ⟨hx, hb, hml, hown, hts⟩ (CtI.use (c_X3_hasPermit l G ca h a S w p (by omega) (by omega)) H.size) (cwV 2 hts gX3_reasonAgainst_X3_hasPermit rfl rfl rfl (by decide +kernel) ⟨Nat.le_of_ble_eq_true rfl, Nat.le_of_ble_eq_true rfl⟩) (pcW_V hev hP hD (q0 := 0) rfl rfl rfl) rfl rfl hl.1 rfl (lv_room (Nat.le_of_ble_eq_true rfl)) dX3_reasonAgainst_13 ⟨Nat.zero_le _, Nat.zero_le _⟩) hD hS hA stF (fun H locs hP hD hS => ?_)
    refine lv_if_eq (tgt := 21) hx hb dX3_reasonAgainst_16 (by decide) (fun c_2 => ?_) (fun c_2 => ?_)
    · skip
      refine lv_aload_n hx hb dX3_reasonAgainst_21 rfl (lv_at hl 0 rfl) ?_
      refine lv_iload_n hx hb dX3_reasonAgainst_22 rfl (lv_at hl 2 rfl) ?_
      refine goIw (va_runV (As := [.int (nI p)]) (rest := []) ⟨hx, hb, hml, hown, hts⟩ (CtI.use (c_X3_depth l G ca h a S p (by omega)) H.size) (cwV 1 hts gX3_reasonAgainst_X3_depth rfl rfl rfl (by decide +kernel) ⟨Nat.le_of_ble_eq_true rfl, Nat.le_of_ble_eq_true rfl⟩) (pcW_V hev hP hD (q0 := 0) rfl rfl rfl) rfl rfl hl.1 rfl (lv_room (Nat.le_of_ble_eq_true rfl)) dX3_reasonAgainst_23 ⟨Nat.zero_le _, Nat.zero_le _⟩) hD hS hA stF (fun H locs hP hD hS => ?_)
      refine lv_eqi (y := (s_wa S) p / 5) rfl ?_
      refine lv_istore (lv' := [(4, .int ((s_wa S) p / 5)), (0, .ref h), (1, .int (nI w)), (2, .int (nI p)), (3, .int x)]) hx hb dX3_reasonAgainst_26 hl (by decide) rfl (fun ls hl => ?_)
      refine lv_aload_n hx hb dX3_reasonAgainst_28 rfl (lv_at hl 1 rfl) ?_
      refine lv_iload_n hx hb dX3_reasonAgainst_29 rfl (lv_at hl 3 rfl) ?_
      refine goIw (va_runV (As := [.int (nI p)]) (rest := []) ⟨hx, hb, hml, hown, hts⟩ (CtI.use (c_X3_isFrozen l G ca h a S p) H.size) (cwV 1 hts gX3_reasonAgainst_X3_isFrozen rfl rfl rfl (by decide +kernel) ⟨Nat.le_of_ble_eq_true rfl, Nat.le_of_ble_eq_true rfl⟩) (pcW_V hev hP hD (q0 := 0) rfl rfl rfl) rfl rfl hl.1 rfl (lv_room (Nat.le_of_ble_eq_true rfl)) dX3_reasonAgainst_30 ⟨Nat.zero_le _, Nat.zero_le _⟩) hD hS hA stF (fun H locs hP hD hS => ?_)
      refine lv_if_eq (tgt := 48) hx hb dX3_reasonAgainst_33 (by decide) (fun c_3 => ?_) (fun c_3 => ?_)
      · skip
        refine lv_iload hx hb dX3_reasonAgainst_48 (lv_at hl 0 rfl) ?_
        refine lv_iload_n hx hb dX3_reasonAgainst_50 rfl (lv_at hl 4 rfl) ?_
        refine goI0 (va_runS (As := [.int x]) (rest := [.int ((s_wa S) p / 5)]) ⟨hx, hb, hml, hown, hts⟩ (CtI.use (c_X3_depthKeptOut l G ca x) H.size) (va_cwS 1 hts gX3_reasonAgainst_X3_depthKeptOut rfl rfl rfl (by decide +kernel) ⟨Nat.le_of_ble_eq_true rfl, Nat.le_of_ble_eq_true rfl⟩) (pcW_S hev P_nil (D_nil (A := A))) rfl rfl hl.1 rfl (lv_room (Nat.le_of_ble_eq_true rfl)) dX3_reasonAgainst_51 ⟨Nat.zero_le _, Nat.zero_le _⟩) hP hS hA (fun H locs hP hS => ?_)
        refine lv_icmp_le (tgt := 61) hx hb dX3_reasonAgainst_54 (by decide) (fun c_4 => ?_) (fun c_4 => ?_)
        · skip
          refine lv_iconst (v := 0) hx hb dX3_reasonAgainst_61 (by decide) ?_
          refine lv_eqi (y := rsnA S w p x) (by rw [rsnA, if_pos c_1, if_pos c_2, if_pos c_3, if_pos c_4]) ?_
          exact hret _ _ _ _ hP hS dX3_reasonAgainst_62
        · skip
          refine lv_iconst (v := 2) hx hb dX3_reasonAgainst_57 (by decide) ?_
          refine lv_goto (tgt := 62) hx hb dX3_reasonAgainst_58 (by decide) ?_
          refine lv_eqi (y := rsnA S w p x) (by rw [rsnA, if_pos c_1, if_pos c_2, if_pos c_3, if_neg c_4]) ?_
          exact hret _ _ _ _ hP hS dX3_reasonAgainst_62
      · skip
        refine lv_iload hx hb dX3_reasonAgainst_36 (lv_at hl 0 rfl) ?_
        refine lv_iconst (v := 1) hx hb dX3_reasonAgainst_38 (by decide) ?_
        refine lv_icmp_lt (tgt := 46) hx hb dX3_reasonAgainst_39 (by decide) (fun c_5 => ?_) (fun c_5 => ?_)
        · skip
          refine lv_iconst (v := 0) hx hb dX3_reasonAgainst_46 (by decide) ?_
          refine lv_eqi (y := rsnA S w p x) (by rw [rsnA, if_pos c_1, if_pos c_2, if_neg c_3, if_pos c_5]) ?_
          exact hret _ _ _ _ hP hS dX3_reasonAgainst_47
        · skip
          refine lv_iconst (v := 3) hx hb dX3_reasonAgainst_42 (by decide) ?_
          refine lv_goto (tgt := 47) hx hb dX3_reasonAgainst_43 (by decide) ?_
          refine lv_eqi (y := rsnA S w p x) (by rw [rsnA, if_pos c_1, if_pos c_2, if_neg c_3, if_neg c_5]) ?_
          exact hret _ _ _ _ hP hS dX3_reasonAgainst_47
    · skip
      refine lv_iconst (v := 0) hx hb dX3_reasonAgainst_19 (by decide) ?_
      refine lv_eqi (y := rsnA S w p x) (by rw [rsnA, if_pos c_1, if_neg c_2]) ?_
      exact hret _ _ _ _ hP hS dX3_reasonAgainst_20
  · skip
    refine lv_iconst (v := 1) hx hb dX3_reasonAgainst_8 (by decide) ?_
    refine lv_eqi (y := rsnA S w p x) (by rw [rsnA, if_neg c_1]) ?_
    exact hret _ _ _ _ hP hS dX3_reasonAgainst_9
set_option maxHeartbeats 4000000 in
set_option maxRecDepth 100000 in
theorem c_X3_mayCross (l : Launch) (G : va_G) (ca : Nat → ClassId) (h : Nat) (a : Nat → Nat) (S : SS) (w : Nat) (p : Nat) (hw : w < 6) (hp : p < 12) : CtI l yX3_mayCross wsX3_mayCross ({ frames := 3, cells := 0, slots := 0, locals := 67 }) [.ref h, .int (nI w), .int (nI p)] G ca (stT ca h a S) (stT ca h a S) (mayC S w p) := by
  refine CtI.ofW (cc := cX3_mayCross) (maxL := 3) (rt := .boolean) (by decide) rfl (Nat.le_of_ble_eq_true rfl) bool_nar ?_
  intro pr en s m be me c A ls Q H hx hb hml hts hown hev hP hD hA hS hl hret
  have hown : s.vm.findClass RX3 = some m.cls := hown
  have hl : lv_has ls 3 [(0, .ref h), (1, .int (nI w)), (2, .int (nI p))] := hl
  have in_wsX30 : ∀ w ∈ wsX30, w ∈ wsX3_mayCross := fun _ h => List.mem_cons_of_mem _ (List.mem_append_right _ h)
  refine lv_aload_n hx hb dX3_mayCross_0 rfl (lv_at hl 0 rfl) ?_
  refine lv_iload_n hx hb dX3_mayCross_1 rfl (lv_at hl 1 rfl) ?_
  refine lv_iload_n hx hb dX3_mayCross_2 rfl (lv_at hl 2 rfl) ?_
  refine lv_aload_n hx hb dX3_mayCross_3 rfl (lv_at hl 0 rfl) ?_
  refine va_get (D := G) (ci := 3) (v := .ref (a 4)) (C := RX3) (T := TX3) (N := 15) hx hb hts in_wsX30 hown hev.1 hP 0 rfl rfl 4 (by decide) (hts (.fieldLink RX3 24 "PuddleMinistries$Street" "shoesOf" "[I") (List.mem_of_getElem? (i := 1) rfl)) (fun _ h9 => h9) rfl dX3_mayCross_4 ?_
  refine lv_iload_n hx hb dX3_mayCross_7 rfl (lv_at hl 1 rfl) ?_
  refine b_iald hx hb hev.1 hP 5 rfl rfl (j := w) (by omega) (by decide) dX3_mayCross_8 ?_
  refine goIw (va_runV (As := [.int (nI w), .int (nI p), .int ((s_sh S) w)]) (rest := []) ⟨hx, hb, hml, hown, hts⟩ (CtI.use (c_X3_reasonAgainst l G ca h a S w p ((s_sh S) w) (by omega) (by omega)) H.size) (cwV 3 hts gX3_mayCross_X3_reasonAgainst rfl rfl rfl (by decide +kernel) ⟨Nat.le_of_ble_eq_true rfl, Nat.le_of_ble_eq_true rfl⟩) (pcW_V hev hP hD (q0 := 0) rfl rfl rfl) rfl rfl hl.1 rfl (lv_room (Nat.le_of_ble_eq_true rfl)) dX3_mayCross_9 ⟨Nat.zero_le _, Nat.zero_le _⟩) hD hS hA stF (fun H locs hP hD hS => ?_)
  refine lv_if_ne (tgt := 19) hx hb dX3_mayCross_12 (by decide) (fun c_1 => ?_) (fun c_1 => ?_)
  · skip
    refine lv_iconst (v := 0) hx hb dX3_mayCross_19 (by decide) ?_
    refine lv_eqi (y := mayC S w p) (by rw [mayC, if_neg c_1]) ?_
    exact hret _ _ _ _ hP hS dX3_mayCross_20
  · skip
    refine lv_iconst (v := 1) hx hb dX3_mayCross_15 (by decide) ?_
    refine lv_goto (tgt := 20) hx hb dX3_mayCross_16 (by decide) ?_
    refine lv_eqi (y := mayC S w p) (by rw [mayC, if_pos c_1]) ?_
    exact hret _ _ _ _ hP hS dX3_mayCross_20
set_option maxHeartbeats 4000000 in
set_option maxRecDepth 100000 in
theorem c_X3_allowedFor (l : Launch) (G : va_G) (ca : Nat → ClassId) (h : Nat) (a : Nat → Nat) (S : SS) (w : Nat) (hw : w < 6) : CtI l yX3_allowedFor wsX3_allowedFor ({ frames := 4, cells := 0, slots := 0, locals := 89 }) [.ref h, .int (nI w)] G ca (stT ca h a S) (stT ca h a S) (mkD (mayC S w) 12) := by
  refine CtI.ofW (cc := cX3_allowedFor) (maxL := 4) (rt := .int) (by decide) rfl (Nat.le_of_ble_eq_true rfl) rfl ?_
  intro pr en s m be me c A ls Q H hx hb hml hts hown hev hP hD hA hS hl hret
  have hown : s.vm.findClass RX3 = some m.cls := hown
  have hl : lv_has ls 4 [(0, .ref h), (1, .int (nI w))] := hl
  have in_wsX30 : ∀ w ∈ wsX30, w ∈ wsX3_allowedFor := fun _ h => List.mem_cons_of_mem _ (List.mem_append_right _ h)
  refine lv_iconst (v := 0) hx hb dX3_allowedFor_0 (by decide) ?_
  refine lv_istore_n (lv' := [(2, .int 0), (0, .ref h), (1, .int (nI w))]) hx hb dX3_allowedFor_1 rfl hl (by decide) rfl (fun ls hl => ?_)
  refine lv_iconst (v := nI 0) hx hb dX3_allowedFor_2 (by decide) ?_
  refine lv_istore_n (lv' := [(3, .int (nI 0)), (2, .int 0), (0, .ref h), (1, .int (nI w))]) hx hb dX3_allowedFor_3 rfl hl (by decide) rfl (fun ls hl => ?_)
  have loop_4 : ∀ (n i : Nat), i + n = 12 → ∀ (H : Heap) (locs : List Loc) (ls : Array Slot), va_P G vwCl (stT ca h a S) H → va_D A (stT ca h a S) → va_S A s.heap H locs → lv_has ls 4 [(0, .ref h), (1, .int (nI w)), (2, .int (mkD (mayC S w) i)), (3, .int (nI i))] → W pr l en ({ frames := 4, cells := 0, slots := 0, locals := 89 } : Room) s m ([.ref h, .int (nI w)] : List Value).toArray be me c H locs 0 0 Q (F0 m 4 ls []) := by
    intro n
    induction n with
    | zero =>
      intro i hi H locs ls hP hD hS hl
      obtain rfl : i = 12 := by omega
      refine lv_iload_n hx hb dX3_allowedFor_4 rfl (lv_at hl 3 rfl) ?_
      refine lv_bipush (v := nI 12) hx hb dX3_allowedFor_5 (by decide) ?_
      refine lv_icmp_ge (tgt := 31) hx hb dX3_allowedFor_7 (by decide) (fun c_1 => ?_) (fun c_1 => ?_)
      · skip
        refine lv_iload_n hx hb dX3_allowedFor_31 rfl (lv_at hl 2 rfl) ?_
        exact hret _ _ _ _ hP hS dX3_allowedFor_32
      · skip
        exact absurd (nI_le (by omega) (by omega)) c_1
    | succ n ih =>
      intro i hi H locs ls hP hD hS hl
      have hlt : i < 12 := by omega
      refine lv_iload_n hx hb dX3_allowedFor_4 rfl (lv_at hl 3 rfl) ?_
      refine lv_bipush (v := nI 12) hx hb dX3_allowedFor_5 (by decide) ?_
      refine lv_icmp_ge (tgt := 31) hx hb dX3_allowedFor_7 (by decide) (fun c_2 => ?_) (fun c_2 => ?_)
      · skip
        exact absurd c_2 (nI_ge (by omega) (by omega))
      · skip
        refine lv_aload_n hx hb dX3_allowedFor_10 rfl (lv_at hl 0 rfl) ?_
        refine lv_iload_n hx hb dX3_allowedFor_11 rfl (lv_at hl 1 rfl) ?_
        refine lv_iload_n hx hb dX3_allowedFor_12 rfl (lv_at hl 3 rfl) ?_
        refine goIw (va_runV (As := [.int (nI w), .int (nI i)]) (rest := []) ⟨hx, hb, hml, hown, hts⟩ (CtI.use (c_X3_mayCross l G ca h a S w i (by omega) (by omega)) H.size) (cwV 2 hts gX3_allowedFor_X3_mayCross rfl rfl rfl (by decide +kernel) ⟨Nat.le_of_ble_eq_true rfl, Nat.le_of_ble_eq_true rfl⟩) (pcW_V hev hP hD (q0 := 0) rfl rfl rfl) rfl rfl hl.1 rfl (lv_room (Nat.le_of_ble_eq_true rfl)) dX3_allowedFor_13 ⟨Nat.zero_le _, Nat.zero_le _⟩) hD hS hA stF (fun H locs hP hD hS => ?_)
        refine lv_if_eq (tgt := 25) hx hb dX3_allowedFor_16 (by decide) (fun c_3 => ?_) (fun c_3 => ?_)
        · skip
          refine lv_iinc (v := nI (i + 1)) (lv' := [(3, .int (nI (i + 1))), (0, .ref h), (1, .int (nI w)), (2, .int (mkD (mayC S w) i))]) hx hb dX3_allowedFor_25 hl (k := 3) rfl (nI_1 _) (by decide) rfl (fun ls hl => ?_)
          refine lv_goto (tgt := 4) hx hb dX3_allowedFor_28 (by decide) ?_
          exact ih (i + 1) (by omega) _ _ _ hP (D_of hD stF) hS (by rw [show (mkD (mayC S w) (i + 1)) = (mkD (mayC S w) i) from by rw [mkD_s, if_pos c_3]]; exact lv_sub hl [1, 2, 3, 0] rfl)
        · skip
          refine lv_iload_n hx hb dX3_allowedFor_19 rfl (lv_at hl 2 rfl) ?_
          refine lv_iconst (v := 1) hx hb dX3_allowedFor_20 (by decide) ?_
          refine lv_iload_n hx hb dX3_allowedFor_21 rfl (lv_at hl 3 rfl) ?_
          refine lv_ishl hx hb dX3_allowedFor_22 ?_
          refine lv_ior hx hb dX3_allowedFor_23 ?_
          refine lv_istore_n (lv' := [(2, .int ((mkD (mayC S w) i) ||| (1 <<< ((nI i) &&& 31)))), (0, .ref h), (1, .int (nI w)), (3, .int (nI i))]) hx hb dX3_allowedFor_24 rfl hl (by decide) rfl (fun ls hl => ?_)
          refine lv_iinc (v := nI (i + 1)) (lv' := [(3, .int (nI (i + 1))), (2, .int ((mkD (mayC S w) i) ||| (1 <<< ((nI i) &&& 31)))), (0, .ref h), (1, .int (nI w))]) hx hb dX3_allowedFor_25 hl (k := 3) rfl (nI_1 _) (by decide) rfl (fun ls hl => ?_)
          refine lv_goto (tgt := 4) hx hb dX3_allowedFor_28 (by decide) ?_
          exact ih (i + 1) (by omega) _ _ _ hP (D_of hD stF) hS (by rw [show (mkD (mayC S w) (i + 1)) = ((mkD (mayC S w) i) ||| (1 <<< ((nI i) &&& 31))) from by rw [mkD_s, if_neg c_3]]; exact lv_sub hl [2, 3, 1, 0] rfl)
  exact loop_4 12 0 (by omega) _ _ _ hP (D_of hD stF) hS (lv_sub hl [2, 3, 1, 0] rfl)
def allZ (g : Nat → Int32) : Nat → Nat → Int32 | 0, _ => 1 | n + 1, i => if g i = 0 then allZ g n (i + 1) else 0
theorem allZ_s (g : Nat → Int32) (n i : Nat) : allZ g (n + 1) i = if g i = 0 then allZ g n (i + 1) else 0 := rfl
theorem allZ_nar (g : Nat → Int32) (n : Nat) : ∀ i, narrow .boolean (.int (allZ g n i)) = .int (allZ g n i) := by
  induction n with
  | zero => intro i; show narrow .boolean (.int 1) = .int 1; rfl
  | succ n ih =>
    intro i
    rw [allZ_s]
    split
    · exact ih (i + 1)
    · rfl
set_option maxHeartbeats 4000000 in
set_option maxRecDepth 100000 in
theorem c_X3_allowsAllWith (l : Launch) (G : va_G) (ca : Nat → ClassId) (h : Nat) (a : Nat → Nat) (S : SS) (w : Nat) (x : Int32) (hw : w < 6) : CtI l yX3_allowsAllWith wsX3_allowsAllWith ({ frames := 3, cells := 0, slots := 0, locals := 67 }) [.ref h, .int (nI w), .int x] G ca (stT ca h a S) (stT ca h a S) (allZ (fun p => rsnA S w p x) 12 0) := by
  refine CtI.ofW (cc := cX3_allowsAllWith) (maxL := 4) (rt := .boolean) (by decide) rfl (Nat.le_of_ble_eq_true rfl) (allZ_nar _ _ _) ?_
  intro pr en s m be me c A ls Q H hx hb hml hts hown hev hP hD hA hS hl hret
  have hown : s.vm.findClass RX3 = some m.cls := hown
  have hl : lv_has ls 4 [(0, .ref h), (1, .int (nI w)), (2, .int x)] := hl
  have in_wsX30 : ∀ w ∈ wsX30, w ∈ wsX3_allowsAllWith := fun _ h => List.mem_cons_of_mem _ (List.mem_append_right _ h)
  refine lv_iconst (v := nI 0) hx hb dX3_allowsAllWith_0 (by decide) ?_
  refine lv_istore_n (lv' := [(3, .int (nI 0)), (0, .ref h), (1, .int (nI w)), (2, .int x)]) hx hb dX3_allowsAllWith_1 rfl hl (by decide) rfl (fun ls hl => ?_)
  have loop_2 : ∀ (n i : Nat), i + n = 12 → allZ (fun p => rsnA S w p x) n i = allZ (fun p => rsnA S w p x) 12 0 → ∀ (H : Heap) (locs : List Loc) (ls : Array Slot), va_P G vwCl (stT ca h a S) H → va_D A (stT ca h a S) → va_S A s.heap H locs → lv_has ls 4 [(0, .ref h), (1, .int (nI w)), (2, .int x), (3, .int (nI i))] → W pr l en ({ frames := 3, cells := 0, slots := 0, locals := 67 } : Room) s m ([.ref h, .int (nI w), .int x] : List Value).toArray be me c H locs 0 0 Q (F0 m 2 ls []) := by
    intro n
    induction n with
    | zero =>
      intro i hi hr H locs ls hP hD hS hl
      obtain rfl : i = 12 := by omega
      refine lv_iload_n hx hb dX3_allowsAllWith_2 rfl (lv_at hl 3 rfl) ?_
      refine lv_bipush (v := nI 12) hx hb dX3_allowsAllWith_3 (by decide) ?_
      refine lv_icmp_ge (tgt := 26) hx hb dX3_allowsAllWith_5 (by decide) (fun c_1 => ?_) (fun c_1 => ?_)
      · skip
        refine lv_iconst (v := 1) hx hb dX3_allowsAllWith_26 (by decide) ?_
        refine lv_eqi (y := allZ (fun p => rsnA S w p x) 12 0) (by rw [← hr]; rfl) ?_
        exact hret _ _ _ _ hP hS dX3_allowsAllWith_27
      · skip
        exact absurd (nI_le (by omega) (by omega)) c_1
    | succ n ih =>
      intro i hi hr H locs ls hP hD hS hl
      have hlt : i < 12 := by omega
      refine lv_iload_n hx hb dX3_allowsAllWith_2 rfl (lv_at hl 3 rfl) ?_
      refine lv_bipush (v := nI 12) hx hb dX3_allowsAllWith_3 (by decide) ?_
      refine lv_icmp_ge (tgt := 26) hx hb dX3_allowsAllWith_5 (by decide) (fun c_2 => ?_) (fun c_2 => ?_)
      · skip
        exact absurd c_2 (nI_ge (by omega) (by omega))
      · skip
        refine lv_aload_n hx hb dX3_allowsAllWith_8 rfl (lv_at hl 0 rfl) ?_
        refine lv_iload_n hx hb dX3_allowsAllWith_9 rfl (lv_at hl 1 rfl) ?_
        refine lv_iload_n hx hb dX3_allowsAllWith_10 rfl (lv_at hl 3 rfl) ?_
        refine lv_iload_n hx hb dX3_allowsAllWith_11 rfl (lv_at hl 2 rfl) ?_
        refine goIw (va_runV (As := [.int (nI w), .int (nI i), .int x]) (rest := []) ⟨hx, hb, hml, hown, hts⟩ (CtI.use (c_X3_reasonAgainst l G ca h a S w i x (by omega) (by omega)) H.size) (cwV 3 hts gX3_allowsAllWith_X3_reasonAgainst rfl rfl rfl (by decide +kernel) ⟨Nat.le_of_ble_eq_true rfl, Nat.le_of_ble_eq_true rfl⟩) (pcW_V hev hP hD (q0 := 0) rfl rfl rfl) rfl rfl hl.1 rfl (lv_room (Nat.le_of_ble_eq_true rfl)) dX3_allowsAllWith_12 ⟨Nat.zero_le _, Nat.zero_le _⟩) hD hS hA stF (fun H locs hP hD hS => ?_)
        refine lv_if_eq (tgt := 20) hx hb dX3_allowsAllWith_15 (by decide) (fun c_3 => ?_) (fun c_3 => ?_)
        · skip
          refine lv_iinc (v := nI (i + 1)) (lv' := [(3, .int (nI (i + 1))), (0, .ref h), (1, .int (nI w)), (2, .int x)]) hx hb dX3_allowsAllWith_20 hl (k := 3) rfl (nI_1 _) (by decide) rfl (fun ls hl => ?_)
          refine lv_goto (tgt := 2) hx hb dX3_allowsAllWith_23 (by decide) ?_
          exact ih (i + 1) (by omega) (by rw [← hr, allZ_s, if_pos c_3]) _ _ _ hP (D_of hD stF) hS (lv_sub hl [1, 2, 3, 0] rfl)
        · skip
          refine lv_iconst (v := 0) hx hb dX3_allowsAllWith_18 (by decide) ?_
          refine lv_eqi (y := allZ (fun p => rsnA S w p x) 12 0) (by rw [← hr, allZ_s, if_neg c_3]) ?_
          exact hret _ _ _ _ hP hS dX3_allowsAllWith_19
  exact loop_2 12 0 (by omega) (by rfl) _ _ _ hP (D_of hD stF) hS (lv_sub hl [1, 2, 3, 0] rfl)
set_option maxHeartbeats 4000000 in
set_option maxRecDepth 100000 in
theorem c_X3_dutyAt (l : Launch) (G : va_G) (ca : Nat → ClassId) (h : Nat) (a : Nat → Nat) (S : SS) (p : Nat) (hp : p < 12) : CtI l yX3_dutyAt wsX3_dutyAt ({ frames := 2, cells := 0, slots := 0, locals := 42 }) [.ref h, .int (nI p)] G ca (stT ca h a S) (stT ca h a S) (dutyA S p) := by
  refine CtI.ofW (cc := cX3_dutyAt) (maxL := 2) (rt := .int) (by decide) rfl (Nat.le_of_ble_eq_true rfl) rfl ?_
  intro pr en s m be me c A ls Q H hx hb hml hts hown hev hP hD hA hS hl hret
  have hown : s.vm.findClass RX3 = some m.cls := hown
  have hl : lv_has ls 2 [(0, .ref h), (1, .int (nI p))] := hl
  have in_wsX30 : ∀ w ∈ wsX30, w ∈ wsX3_dutyAt := fun _ h => List.mem_cons_of_mem _ (List.mem_append_right _ h)
  refine lv_aload_n hx hb dX3_dutyAt_0 rfl (lv_at hl 0 rfl) ?_
  refine lv_iload_n hx hb dX3_dutyAt_1 rfl (lv_at hl 1 rfl) ?_
  refine goIw (va_runV (As := [.int (nI p)]) (rest := []) ⟨hx, hb, hml, hown, hts⟩ (CtI.use (c_X3_isFrozen l G ca h a S p) H.size) (cwV 1 hts gX3_dutyAt_X3_isFrozen rfl rfl rfl (by decide +kernel) ⟨Nat.le_of_ble_eq_true rfl, Nat.le_of_ble_eq_true rfl⟩) (pcW_V hev hP hD (q0 := 0) rfl rfl rfl) rfl rfl hl.1 rfl (lv_room (Nat.le_of_ble_eq_true rfl)) dX3_dutyAt_2 ⟨Nat.zero_le _, Nat.zero_le _⟩) hD hS hA stF (fun H locs hP hD hS => ?_)
  refine lv_if_eq (tgt := 12) hx hb dX3_dutyAt_5 (by decide) (fun c_1 => ?_) (fun c_1 => ?_)
  · skip
    refine lv_aload_n hx hb dX3_dutyAt_12 rfl (lv_at hl 0 rfl) ?_
    refine va_get (D := G) (ci := 3) (v := .ref (a 0)) (C := RX3) (T := TX3) (N := 15) hx hb hts in_wsX30 hown hev.1 hP 0 rfl rfl 0 (by decide) (hts (.fieldLink RX3 9 "PuddleMinistries$Street" "settings" "[I") (List.mem_of_getElem? (i := 1) rfl)) (fun _ h9 => h9) rfl dX3_dutyAt_13 ?_
    refine lv_iconst (v := nI 0) hx hb dX3_dutyAt_16 (by decide) ?_
    refine b_iald hx hb hev.1 hP 1 rfl rfl (j := 0) (by omega) (by decide) dX3_dutyAt_17 ?_
    refine lv_aload_n hx hb dX3_dutyAt_18 rfl (lv_at hl 0 rfl) ?_
    refine lv_iload_n hx hb dX3_dutyAt_19 rfl (lv_at hl 1 rfl) ?_
    refine goIw (va_runV (As := [.int (nI p)]) (rest := [.int ((s_se S) 0)]) ⟨hx, hb, hml, hown, hts⟩ (CtI.use (c_X3_depth l G ca h a S p (by omega)) H.size) (cwV 1 hts gX3_dutyAt_X3_depth rfl rfl rfl (by decide +kernel) ⟨Nat.le_of_ble_eq_true rfl, Nat.le_of_ble_eq_true rfl⟩) (pcW_V hev hP hD (q0 := 0) rfl rfl rfl) rfl rfl hl.1 rfl (lv_room (Nat.le_of_ble_eq_true rfl)) dX3_dutyAt_20 ⟨Nat.zero_le _, Nat.zero_le _⟩) hD hS hA stF (fun H locs hP hD hS => ?_)
    refine lv_eqi (y := (s_wa S) p / 5) rfl ?_
    refine lv_imul hx hb dX3_dutyAt_23 ?_
    refine lv_eqi (y := dutyA S p) (by rw [dutyA, if_pos c_1]) ?_
    exact hret _ _ _ _ hP hS dX3_dutyAt_24
  · skip
    refine lv_iconst (v := 0) hx hb dX3_dutyAt_8 (by decide) ?_
    refine lv_goto (tgt := 24) hx hb dX3_dutyAt_9 (by decide) ?_
    refine lv_eqi (y := dutyA S p) (by rw [dutyA, if_neg c_1]) ?_
    exact hret _ _ _ _ hP hS dX3_dutyAt_24
def dnWa (S : SS) (p : Nat) (x : Int32) : Nat → Int32 := if 0 < s_wa S p - x then upd (s_wa S) p x else s_wa S
def dnDn (S : SS) (p : Nat) (x : Int32) : Int32 := if 0 < s_wa S p - x then s_dn S + (s_wa S p - x) else s_dn S
set_option maxHeartbeats 4000000 in
set_option maxRecDepth 100000 in
theorem c_X3_drainDownTo (l : Launch) (G : va_G) (ca : Nat → ClassId) (h : Nat) (a : Nat → Nat) (S : SS) (p : Nat) (x : Int32) (hp : p < 12) : CtV l yX3_drainDownTo wsX3_drainDownTo ({ frames := 0, cells := 0, slots := 0, locals := 0 }) [.ref h, .int (nI p), .int x] G ca (stT ca h a S) (stT ca h a (s_se S, s_br S, dnWa S p x, s_cr S, s_sh S, s_ow S, s_pa S, s_cb S, s_pd S, s_fz S, s_dk S, s_dy S, s_fe S, s_dr S, dnDn S p x)) := by
  refine CtV.ofW (cc := cX3_drainDownTo) (maxL := 4) (by decide) rfl (Nat.le_of_ble_eq_true rfl) ?_
  intro pr en s m be me c A ls Q H hx hb hml hts hown hev hP hD hA hS hl hret
  have hown : s.vm.findClass RX3 = some m.cls := hown
  have hl : lv_has ls 4 [(0, .ref h), (1, .int (nI p)), (2, .int x)] := hl
  have in_wsX30 : ∀ w ∈ wsX30, w ∈ wsX3_drainDownTo := fun _ h => List.mem_cons_of_mem _ (List.mem_append_right _ h)
  refine lv_aload_n hx hb dX3_drainDownTo_0 rfl (lv_at hl 0 rfl) ?_
  refine va_get (D := G) (ci := 3) (v := .ref (a 2)) (C := RX3) (T := TX3) (N := 15) hx hb hts in_wsX30 hown hev.1 hP 0 rfl rfl 2 (by decide) (hts (.fieldLink RX3 18 "PuddleMinistries$Street" "waters" "[I") (List.mem_of_getElem? (i := 1) rfl)) (fun _ h9 => h9) rfl dX3_drainDownTo_1 ?_
  refine lv_iload_n hx hb dX3_drainDownTo_4 rfl (lv_at hl 1 rfl) ?_
  refine b_iald hx hb hev.1 hP 3 rfl rfl (j := p) (by omega) (by decide) dX3_drainDownTo_5 ?_
  refine lv_iload_n hx hb dX3_drainDownTo_6 rfl (lv_at hl 2 rfl) ?_
  refine lv_isub hx hb dX3_drainDownTo_7 ?_
  refine lv_istore_n (lv' := [(3, .int (((s_wa S) p) - x)), (0, .ref h), (1, .int (nI p)), (2, .int x)]) hx hb dX3_drainDownTo_8 rfl hl (by decide) rfl (fun ls hl => ?_)
  refine lv_iload_n hx hb dX3_drainDownTo_9 rfl (lv_at hl 0 rfl) ?_
  refine lv_if_gt (tgt := 14) hx hb dX3_drainDownTo_10 (by decide) (fun c_1 => ?_) (fun c_1 => ?_)
  · skip
    refine lv_aload_n hx hb dX3_drainDownTo_14 rfl (lv_at hl 1 rfl) ?_
    refine va_get (D := G) (ci := 3) (v := .ref (a 2)) (C := RX3) (T := TX3) (N := 15) hx hb hts in_wsX30 hown hev.1 hP 0 rfl rfl 2 (by decide) (hts (.fieldLink RX3 18 "PuddleMinistries$Street" "waters" "[I") (List.mem_of_getElem? (i := 1) rfl)) (fun _ h9 => h9) rfl dX3_drainDownTo_15 ?_
    refine lv_iload_n hx hb dX3_drainDownTo_18 rfl (lv_at hl 2 rfl) ?_
    refine lv_iload_n hx hb dX3_drainDownTo_19 rfl (lv_at hl 3 rfl) ?_
    refine b_iast hx hb hev.1 hP hD hS 3 rfl rfl (j := p) (by omega) (by decide) dX3_drainDownTo_20 (fun H locs hP hD hS => ?_)
    have hP : va_P G vwCl (stT ca h a (s_se S, s_br S, upd (s_wa S) p x, s_cr S, s_sh S, s_ow S, s_pa S, s_cb S, s_pd S, s_fz S, s_dk S, s_dy S, s_fe S, s_dr S, s_dn S)) H := hP
    have hD : va_D A (stT ca h a (s_se S, s_br S, upd (s_wa S) p x, s_cr S, s_sh S, s_ow S, s_pa S, s_cb S, s_pd S, s_fz S, s_dk S, s_dy S, s_fe S, s_dr S, s_dn S)) := hD
    refine lv_aload_n hx hb dX3_drainDownTo_21 rfl (lv_at hl 1 rfl) ?_
    refine lv_dup hx hb dX3_drainDownTo_22 rfl ?_
    refine va_get (D := G) (ci := 3) (v := .int (s_dn S)) (C := RX3) (T := TX3) (N := 15) hx hb hts in_wsX30 hown hev.1 hP 0 rfl rfl 14 (by decide) (hts (.fieldLink RX3 62 "PuddleMinistries$Street" "drained" "I") (List.mem_of_getElem? (i := 2) rfl)) (fun _ h9 => h9) rfl dX3_drainDownTo_23 ?_
    refine lv_iload_n hx hb dX3_drainDownTo_26 rfl (lv_at hl 0 rfl) ?_
    refine lv_iadd hx hb dX3_drainDownTo_27 ?_
    refine va_put (D := G) (ci := 3) (v := .int ((s_dn S) + (((s_wa S) p) - x))) (ty := .int) (C := RX3) (T := TX3) (N := 15) hx hb hts in_wsX30 tyX3 tyX3_ok nmX3 hown hev.1 hP hD hS 0 rfl rfl 14 (by decide) (hts (.fieldLink RX3 62 "PuddleMinistries$Street" "drained" "I") (List.mem_of_getElem? (i := 2) rfl)) (fun _ h9 => h9) rfl (by decide +kernel) rfl rfl (Nat.le_of_ble_eq_true rfl) dX3_drainDownTo_28 (fun H locs hP hD hS => ?_)
    have hP : va_P G vwCl (stT ca h a (s_se S, s_br S, upd (s_wa S) p x, s_cr S, s_sh S, s_ow S, s_pa S, s_cb S, s_pd S, s_fz S, s_dk S, s_dy S, s_fe S, s_dr S, (s_dn S) + (((s_wa S) p) - x))) H := hP
    have hD : va_D A (stT ca h a (s_se S, s_br S, upd (s_wa S) p x, s_cr S, s_sh S, s_ow S, s_pa S, s_cb S, s_pd S, s_fz S, s_dk S, s_dy S, s_fe S, s_dr S, (s_dn S) + (((s_wa S) p) - x))) := hD
    have e_2 : (dnWa S p x) = (upd (s_wa S) p x) := by first | rw [dnWa, if_pos c_1] | rw [dnDn, if_pos c_1]
    have e_3 : (dnDn S p x) = ((s_dn S) + (((s_wa S) p) - x)) := by first | rw [dnWa, if_pos c_1] | rw [dnDn, if_pos c_1]
    exact hret _ _ _ _ (by rw [e_2]; rw [e_3]; exact hP) hS dX3_drainDownTo_31
  · skip
    have e_4 : (dnWa S p x) = (s_wa S) := by first | rw [dnWa, if_neg c_1] | rw [dnDn, if_neg c_1]
    have e_5 : (dnDn S p x) = (s_dn S) := by first | rw [dnWa, if_neg c_1] | rw [dnDn, if_neg c_1]
    exact hret _ _ _ _ (by rw [e_4]; rw [e_5]; exact hP) hS dX3_drainDownTo_13
set_option maxHeartbeats 4000000 in
set_option maxRecDepth 100000 in
theorem c_X3_cross (l : Launch) (G : va_G) (ca : Nat → ClassId) (h : Nat) (a : Nat → Nat) (S : SS) (w : Nat) (p : Nat) (hw : w < 6) (hp : p < 12) : CtV l yX3_cross wsX3_cross ({ frames := 3, cells := 0, slots := 0, locals := 63 }) [.ref h, .int (nI w), .int (nI p)] G ca (stT ca h a S) (stT ca h a (s_se S, s_br S, s_wa S, upd (s_cr S) p (s_cr S p + 1), s_sh S, upd (s_ow S) w (s_ow S w + dutyA S p), s_pa S, upd (s_cb S) w (s_cb S w + 1), s_pd S, s_fz S, s_dk S, s_dy S, s_fe S, s_dr S, s_dn S)) := by
  refine CtV.ofW (cc := cX3_cross) (maxL := 3) (by decide) rfl (Nat.le_of_ble_eq_true rfl) ?_
  intro pr en s m be me c A ls Q H hx hb hml hts hown hev hP hD hA hS hl hret
  have hown : s.vm.findClass RX3 = some m.cls := hown
  have hl : lv_has ls 3 [(0, .ref h), (1, .int (nI w)), (2, .int (nI p))] := hl
  have in_wsX30 : ∀ w ∈ wsX30, w ∈ wsX3_cross := fun _ h => List.mem_cons_of_mem _ (List.mem_append_right _ h)
  refine lv_aload_n hx hb dX3_cross_0 rfl (lv_at hl 0 rfl) ?_
  refine va_get (D := G) (ci := 3) (v := .ref (a 5)) (C := RX3) (T := TX3) (N := 15) hx hb hts in_wsX30 hown hev.1 hP 0 rfl rfl 5 (by decide) (hts (.fieldLink RX3 27 "PuddleMinistries$Street" "owedBy" "[I") (List.mem_of_getElem? (i := 1) rfl)) (fun _ h9 => h9) rfl dX3_cross_1 ?_
  refine lv_iload_n hx hb dX3_cross_4 rfl (lv_at hl 1 rfl) ?_
  refine lv_dup2_11 hx hb dX3_cross_5 rfl rfl ?_
  refine b_iald hx hb hev.1 hP 6 rfl rfl (j := w) (by omega) (by decide) dX3_cross_6 ?_
  refine lv_aload_n hx hb dX3_cross_7 rfl (lv_at hl 0 rfl) ?_
  refine lv_iload_n hx hb dX3_cross_8 rfl (lv_at hl 2 rfl) ?_
  refine goIw (va_runV (As := [.int (nI p)]) (rest := [.int ((s_ow S) w), .int (nI w), .ref (a 5)]) ⟨hx, hb, hml, hown, hts⟩ (CtI.use (c_X3_dutyAt l G ca h a S p (by omega)) H.size) (cwV 1 hts gX3_cross_X3_dutyAt rfl rfl rfl (by decide +kernel) ⟨Nat.le_of_ble_eq_true rfl, Nat.le_of_ble_eq_true rfl⟩) (pcW_V hev hP hD (q0 := 0) rfl rfl rfl) rfl rfl hl.1 rfl (lv_room (Nat.le_of_ble_eq_true rfl)) dX3_cross_9 ⟨Nat.zero_le _, Nat.zero_le _⟩) hD hS hA stF (fun H locs hP hD hS => ?_)
  refine lv_iadd hx hb dX3_cross_12 ?_
  refine b_iast hx hb hev.1 hP hD hS 6 rfl rfl (j := w) (by omega) (by decide) dX3_cross_13 (fun H locs hP hD hS => ?_)
  have hP : va_P G vwCl (stT ca h a (s_se S, s_br S, s_wa S, s_cr S, s_sh S, upd (s_ow S) w (((s_ow S) w) + (dutyA S p)), s_pa S, s_cb S, s_pd S, s_fz S, s_dk S, s_dy S, s_fe S, s_dr S, s_dn S)) H := hP
  have hD : va_D A (stT ca h a (s_se S, s_br S, s_wa S, s_cr S, s_sh S, upd (s_ow S) w (((s_ow S) w) + (dutyA S p)), s_pa S, s_cb S, s_pd S, s_fz S, s_dk S, s_dy S, s_fe S, s_dr S, s_dn S)) := hD
  refine lv_aload_n hx hb dX3_cross_14 rfl (lv_at hl 0 rfl) ?_
  refine va_get (D := G) (ci := 3) (v := .ref (a 7)) (C := RX3) (T := TX3) (N := 15) hx hb hts in_wsX30 hown hev.1 hP 0 rfl rfl 7 (by decide) (hts (.fieldLink RX3 33 "PuddleMinistries$Street" "crossedBy" "[I") (List.mem_of_getElem? (i := 2) rfl)) (fun _ h9 => h9) rfl dX3_cross_15 ?_
  refine lv_iload_n hx hb dX3_cross_18 rfl (lv_at hl 1 rfl) ?_
  refine lv_dup2_11 hx hb dX3_cross_19 rfl rfl ?_
  refine b_iald hx hb hev.1 hP 8 rfl rfl (j := w) (by omega) (by decide) dX3_cross_20 ?_
  refine lv_iconst (v := 1) hx hb dX3_cross_21 (by decide) ?_
  refine lv_iadd hx hb dX3_cross_22 ?_
  refine b_iast hx hb hev.1 hP hD hS 8 rfl rfl (j := w) (by omega) (by decide) dX3_cross_23 (fun H locs hP hD hS => ?_)
  have hP : va_P G vwCl (stT ca h a (s_se S, s_br S, s_wa S, s_cr S, s_sh S, upd (s_ow S) w (((s_ow S) w) + (dutyA S p)), s_pa S, upd (s_cb S) w (((s_cb S) w) + 1), s_pd S, s_fz S, s_dk S, s_dy S, s_fe S, s_dr S, s_dn S)) H := hP
  have hD : va_D A (stT ca h a (s_se S, s_br S, s_wa S, s_cr S, s_sh S, upd (s_ow S) w (((s_ow S) w) + (dutyA S p)), s_pa S, upd (s_cb S) w (((s_cb S) w) + 1), s_pd S, s_fz S, s_dk S, s_dy S, s_fe S, s_dr S, s_dn S)) := hD
  refine lv_aload_n hx hb dX3_cross_24 rfl (lv_at hl 0 rfl) ?_
  refine va_get (D := G) (ci := 3) (v := .ref (a 3)) (C := RX3) (T := TX3) (N := 15) hx hb hts in_wsX30 hown hev.1 hP 0 rfl rfl 3 (by decide) (hts (.fieldLink RX3 21 "PuddleMinistries$Street" "crossingsOf" "[I") (List.mem_of_getElem? (i := 3) rfl)) (fun _ h9 => h9) rfl dX3_cross_25 ?_
  refine lv_iload_n hx hb dX3_cross_28 rfl (lv_at hl 2 rfl) ?_
  refine lv_dup2_11 hx hb dX3_cross_29 rfl rfl ?_
  refine b_iald hx hb hev.1 hP 4 rfl rfl (j := p) (by omega) (by decide) dX3_cross_30 ?_
  refine lv_iconst (v := 1) hx hb dX3_cross_31 (by decide) ?_
  refine lv_iadd hx hb dX3_cross_32 ?_
  refine b_iast hx hb hev.1 hP hD hS 4 rfl rfl (j := p) (by omega) (by decide) dX3_cross_33 (fun H locs hP hD hS => ?_)
  have hP : va_P G vwCl (stT ca h a (s_se S, s_br S, s_wa S, upd (s_cr S) p (((s_cr S) p) + 1), s_sh S, upd (s_ow S) w (((s_ow S) w) + (dutyA S p)), s_pa S, upd (s_cb S) w (((s_cb S) w) + 1), s_pd S, s_fz S, s_dk S, s_dy S, s_fe S, s_dr S, s_dn S)) H := hP
  have hD : va_D A (stT ca h a (s_se S, s_br S, s_wa S, upd (s_cr S) p (((s_cr S) p) + 1), s_sh S, upd (s_ow S) w (((s_ow S) w) + (dutyA S p)), s_pa S, upd (s_cb S) w (((s_cb S) w) + 1), s_pd S, s_fz S, s_dk S, s_dy S, s_fe S, s_dr S, s_dn S)) := hD
  exact hret _ _ _ _ hP hS dX3_cross_34
end
section
/-! class Street: walks, costs, weather; sum and copy over any world -/
def plc (k f t : Nat) : Nat := if f ≤ t then f + k else f - k
theorem plc_lt (k f t : Nat) (hf : f < 12) (ht : t < 12) (hk : k ≤ t - f + (f - t)) : plc k f t < 12 := by unfold plc; split <;> omega
theorem abs_dst (t f : Nat) (ht : t < 12) (hf : f < 12) : (if (0 : Int32) ≤ nI t - nI f then nI t - nI f else 0 - (nI t - nI f)) = nI (t - f + (f - t)) := by
  have h : ∀ t, t < 12 → ∀ f, f < 12 → (if (0 : Int32) ≤ nI t - nI f then nI t - nI f else 0 - (nI t - nI f)) = nI (t - f + (f - t)) := by decide +kernel
  exact h t ht f hf
def stp (g : Nat → Int32) : Nat → Nat → Nat | 0, i => i | n + 1, i => if g i = 0 then i else stp g n (i + 1)
theorem stp_s (g : Nat → Int32) (n i : Nat) : stp g (n + 1) i = if g i = 0 then i else stp g n (i + 1) := rfl
theorem stp_le (g : Nat → Int32) (n : Nat) : ∀ i, stp g n i ≤ i + n := by
  induction n with
  | zero => intro i; exact Nat.le_refl _
  | succ n ih =>
    intro i
    rw [stp_s]
    split
    · omega
    · have := ih (i + 1); omega
def stU (S : SS) (w f t : Nat) : Nat := stp (fun k => mayC S w (plc k f t)) (t - f + (f - t) + 1) 0
theorem stU_le (S : SS) (w f t : Nat) : stU S w f t ≤ t - f + (f - t) + 1 := by
  have := stp_le (fun k => mayC S w (plc k f t)) (t - f + (f - t) + 1) 0
  unfold stU; omega
set_option maxHeartbeats 4000000 in
set_option maxRecDepth 100000 in
theorem c_X4_placeAfter (l : Launch) (G : va_G) (ca : Nat → ClassId) (k : Nat) (f : Nat) (t : Nat) (hf : f < 12) (ht : t < 12) (hk : k ≤ t - f + (f - t)) : CtI l yX4_placeAfter wsX4_placeAfter ({ frames := 0, cells := 0, slots := 0, locals := 0 }) [.int (nI k), .int (nI f), .int (nI t)] G ca ([]) ([]) (nI (plc k f t)) := by
  refine CtI.ofW (cc := cX4_placeAfter) (maxL := 3) (rt := .int) (by decide) rfl (Nat.le_of_ble_eq_true rfl) rfl ?_
  intro pr en s m be me c A ls Q H hx hb hml hts hown hev hP hD hA hS hl hret
  have hown : s.vm.findClass RX4 = some m.cls := hown
  have hl : lv_has ls 3 [(0, .int (nI k)), (1, .int (nI f)), (2, .int (nI t))] := hl
  refine lv_iload_n hx hb dX4_placeAfter_0 rfl (lv_at hl 1 rfl) ?_
  refine lv_iload_n hx hb dX4_placeAfter_1 rfl (lv_at hl 2 rfl) ?_
  refine lv_icmp_gt (tgt := 11) hx hb dX4_placeAfter_2 (by decide) (fun c_1 => ?_) (fun c_1 => ?_)
  · skip
    have nc_1 : t < f := (nI_ltI (a := t) (b := f) (by omega) (by omega)).mp c_1
    refine lv_iload_n hx hb dX4_placeAfter_11 rfl (lv_at hl 1 rfl) ?_
    refine lv_iload_n hx hb dX4_placeAfter_12 rfl (lv_at hl 0 rfl) ?_
    refine lv_isub hx hb dX4_placeAfter_13 ?_
    refine lv_eqi (pk_sub (by omega)) ?_
    refine lv_eqi (y := nI (plc k f t)) (by first | rw [plc, if_pos (by omega)] | rw [plc, if_neg (by omega)]) ?_
    exact hret _ _ _ _ hP hS dX4_placeAfter_14
  · skip
    have nc_1 : ¬ t < f := fun q => c_1 ((nI_ltI (a := t) (b := f) (by omega) (by omega)).mpr q)
    refine lv_iload_n hx hb dX4_placeAfter_5 rfl (lv_at hl 1 rfl) ?_
    refine lv_iload_n hx hb dX4_placeAfter_6 rfl (lv_at hl 0 rfl) ?_
    refine lv_iadd hx hb dX4_placeAfter_7 ?_
    refine lv_eqi (nI_add _ _) ?_
    refine lv_goto (tgt := 14) hx hb dX4_placeAfter_8 (by decide) ?_
    refine lv_eqi (y := nI (plc k f t)) (by first | rw [plc, if_pos (by omega)] | rw [plc, if_neg (by omega)]) ?_
    exact hret _ _ _ _ hP hS dX4_placeAfter_14
set_option maxHeartbeats 4000000 in
set_option maxRecDepth 100000 in
theorem c_X3_stepsUntilBlocked (l : Launch) (G : va_G) (ca : Nat → ClassId) (h : Nat) (a : Nat → Nat) (S : SS) (w : Nat) (f : Nat) (t : Nat) (hw : w < 6) (hf : f < 12) (ht : t < 12) : CtI l yX3_stepsUntilBlocked wsX3_stepsUntilBlocked ({ frames := 4, cells := 0, slots := 0, locals := 89 }) [.ref h, .int (nI w), .int (nI f), .int (nI t)] G ca (stT ca h a S) (stT ca h a S) (nI (stU S w f t)) := by
  refine CtI.ofW (cc := cX3_stepsUntilBlocked) (maxL := 6) (rt := .int) (by decide) rfl (Nat.le_of_ble_eq_true rfl) rfl ?_
  intro pr en s m be me c A ls Q H hx hb hml hts hown hev hP hD hA hS hl hret
  have hown : s.vm.findClass RX3 = some m.cls := hown
  have hl : lv_has ls 6 [(0, .ref h), (1, .int (nI w)), (2, .int (nI f)), (3, .int (nI t))] := hl
  have in_wsX30 : ∀ w ∈ wsX30, w ∈ wsX3_stepsUntilBlocked := fun _ h => List.mem_cons_of_mem _ (List.mem_append_right _ h)
  refine lv_iload_n hx hb dX3_stepsUntilBlocked_0 rfl (lv_at hl 3 rfl) ?_
  refine lv_iload_n hx hb dX3_stepsUntilBlocked_1 rfl (lv_at hl 2 rfl) ?_
  refine lv_isub hx hb dX3_stepsUntilBlocked_2 ?_
  refine va_mabs hx hb (hml.trans hl.1.symm) hown (hts (.methodLink RX3 129 Lib.Math.abs.name) (List.mem_of_getElem? (i := 1) rfl)) (hts (.static Lib.Math.abs.name) (List.mem_of_getElem? (i := 2) rfl)) (hts (.initialized "java/lang/Math") (List.mem_of_getElem? (i := 3) rfl)) (hts (.code Lib.Math.abs.name Lib.Math.abs.code 1 (some .int)) (List.mem_of_getElem? (i := 4) rfl)) (Nat.le_of_ble_eq_true rfl) (Nat.le_of_ble_eq_true rfl) (Nat.zero_le _) (Nat.zero_le _) dX3_stepsUntilBlocked_3 ?_
  refine lv_eqi (y := nI (t - f + (f - t))) (by exact abs_dst _ _ (by omega) (by omega)) ?_
  refine lv_iconst (v := nI 1) hx hb dX3_stepsUntilBlocked_6 (by decide) ?_
  refine lv_iadd hx hb dX3_stepsUntilBlocked_7 ?_
  refine lv_eqi (nI_add _ _) ?_
  refine lv_istore (lv' := [(4, .int (nI ((t - f + (f - t)) + 1))), (0, .ref h), (1, .int (nI w)), (2, .int (nI f)), (3, .int (nI t))]) hx hb dX3_stepsUntilBlocked_8 hl (by decide) rfl (fun ls hl => ?_)
  refine lv_iconst (v := nI 0) hx hb dX3_stepsUntilBlocked_10 (by decide) ?_
  refine lv_istore (lv' := [(5, .int (nI 0)), (4, .int (nI ((t - f + (f - t)) + 1))), (0, .ref h), (1, .int (nI w)), (2, .int (nI f)), (3, .int (nI t))]) hx hb dX3_stepsUntilBlocked_11 hl (by decide) rfl (fun ls hl => ?_)
  have loop_13 : ∀ (n i : Nat), i + n = t - f + (f - t) + 1 → stp (fun k => mayC S w (plc k f t)) n i = stU S w f t → ∀ (H : Heap) (locs : List Loc) (ls : Array Slot), va_P G vwCl (stT ca h a S) H → va_D A (stT ca h a S) → va_S A s.heap H locs → lv_has ls 6 [(0, .ref h), (1, .int (nI w)), (2, .int (nI f)), (3, .int (nI t)), (4, .int (nI ((t - f + (f - t)) + 1))), (5, .int (nI i))] → W pr l en ({ frames := 4, cells := 0, slots := 0, locals := 89 } : Room) s m ([.ref h, .int (nI w), .int (nI f), .int (nI t)] : List Value).toArray be me c H locs 0 0 Q (F0 m 13 ls []) := by
    intro n
    induction n with
    | zero =>
      intro i hi hr H locs ls hP hD hS hl
      obtain rfl : i = t - f + (f - t) + 1 := by omega
      refine lv_iload hx hb dX3_stepsUntilBlocked_13 (lv_at hl 5 rfl) ?_
      refine lv_iload hx hb dX3_stepsUntilBlocked_15 (lv_at hl 4 rfl) ?_
      refine lv_icmp_ge (tgt := 44) hx hb dX3_stepsUntilBlocked_17 (by decide) (fun c_1 => ?_) (fun c_1 => ?_)
      · skip
        refine lv_iload hx hb dX3_stepsUntilBlocked_44 (lv_at hl 4 rfl) ?_
        refine lv_eqi (y := nI (stU S w f t)) (by rw [← hr]; rfl) ?_
        exact hret _ _ _ _ hP hS dX3_stepsUntilBlocked_46
      · skip
        exact absurd (nI_le (by omega) (by omega)) c_1
    | succ n ih =>
      intro i hi hr H locs ls hP hD hS hl
      have hlt : i < t - f + (f - t) + 1 := by omega
      refine lv_iload hx hb dX3_stepsUntilBlocked_13 (lv_at hl 5 rfl) ?_
      refine lv_iload hx hb dX3_stepsUntilBlocked_15 (lv_at hl 4 rfl) ?_
      refine lv_icmp_ge (tgt := 44) hx hb dX3_stepsUntilBlocked_17 (by decide) (fun c_2 => ?_) (fun c_2 => ?_)
      · skip
        exact absurd c_2 (nI_ge (by omega) (by omega))
      · skip
        refine lv_aload_n hx hb dX3_stepsUntilBlocked_20 rfl (lv_at hl 0 rfl) ?_
        refine lv_iload_n hx hb dX3_stepsUntilBlocked_21 rfl (lv_at hl 1 rfl) ?_
        refine lv_iload hx hb dX3_stepsUntilBlocked_22 (lv_at hl 5 rfl) ?_
        refine lv_iload_n hx hb dX3_stepsUntilBlocked_24 rfl (lv_at hl 2 rfl) ?_
        refine lv_iload_n hx hb dX3_stepsUntilBlocked_25 rfl (lv_at hl 3 rfl) ?_
        refine goI0 (va_runSN (As := [.int (nI i), .int (nI f), .int (nI t)]) (rest := [.int (nI w), .ref h]) ⟨hx, hb, hml, hown, hts⟩ (CtI.use (c_X4_placeAfter l G ca i f t (by omega) (by omega) (by omega)) H.size) ⟨va_cnB 3 hts gX3_stepsUntilBlocked_X4_placeAfter_n132 rfl rfl rfl hev.2.2.2.2.2 (hts (.initialized RX4) (List.mem_of_getElem? (i := 6) rfl)) (by decide +kernel) ⟨Nat.le_of_ble_eq_true rfl, Nat.le_of_ble_eq_true rfl⟩, hts (.static yX4_placeAfter) (List.mem_of_getElem? (i := 5) rfl), trivial⟩ (pcW_S hev P_nil (D_nil (A := A))) rfl rfl hl.1 rfl (lv_room (Nat.le_of_ble_eq_true rfl)) dX3_stepsUntilBlocked_26 ⟨Nat.zero_le _, Nat.zero_le _⟩) hP hS hA (fun H locs hP hS => ?_)
        refine goIw (va_runV (As := [.int (nI w), .int (nI (plc i f t))]) (rest := []) ⟨hx, hb, hml, hown, hts⟩ (CtI.use (c_X3_mayCross l G ca h a S w (plc i f t) (by omega) (plc_lt _ _ _ (by omega) (by omega) (by omega))) H.size) (cwV 2 hts gX3_stepsUntilBlocked_X3_mayCross rfl rfl rfl (by decide +kernel) ⟨Nat.le_of_ble_eq_true rfl, Nat.le_of_ble_eq_true rfl⟩) (pcW_V hev hP hD (q0 := 0) rfl rfl rfl) rfl rfl hl.1 rfl (lv_room (Nat.le_of_ble_eq_true rfl)) dX3_stepsUntilBlocked_29 ⟨Nat.zero_le _, Nat.zero_le _⟩) hD hS hA stF (fun H locs hP hD hS => ?_)
        refine lv_if_ne (tgt := 38) hx hb dX3_stepsUntilBlocked_32 (by decide) (fun c_3 => ?_) (fun c_3 => ?_)
        · skip
          refine lv_iinc (v := nI (i + 1)) (lv' := [(5, .int (nI (i + 1))), (0, .ref h), (1, .int (nI w)), (2, .int (nI f)), (3, .int (nI t)), (4, .int (nI ((t - f + (f - t)) + 1)))]) hx hb dX3_stepsUntilBlocked_38 hl (k := 5) rfl (nI_1 _) (by decide) rfl (fun ls hl => ?_)
          refine lv_goto (tgt := 13) hx hb dX3_stepsUntilBlocked_41 (by decide) ?_
          exact ih (i + 1) (by omega) (by rw [← hr, stp_s, if_neg c_3]) _ _ _ hP (D_of hD stF) hS (lv_sub hl [1, 2, 3, 4, 5, 0] rfl)
        · skip
          refine lv_iload hx hb dX3_stepsUntilBlocked_35 (lv_at hl 5 rfl) ?_
          refine lv_eqi (y := nI (stU S w f t)) (by rw [← hr, stp_s, if_pos c_3]) ?_
          exact hret _ _ _ _ hP hS dX3_stepsUntilBlocked_37
  exact loop_13 (t - f + (f - t) + 1) 0 (by omega) (by rfl) _ _ _ hP (D_of hD stF) hS (lv_sub hl [2, 3, 4, 5, 1, 0] rfl)
set_option maxHeartbeats 4000000 in
set_option maxRecDepth 100000 in
theorem c_X3_costBySteps (l : Launch) (G : va_G) (ca : Nat → ClassId) (h : Nat) (a : Nat → Nat) (S : SS) (w : Nat) (f : Nat) (t : Nat) (hw : w < 6) (hf : f < 12) (ht : t < 12) : CtI l yX3_costBySteps wsX3_costBySteps ({ frames := 4, cells := 0, slots := 0, locals := 89 }) [.ref h, .int (nI w), .int (nI f), .int (nI t)] G ca (stT ca h a S) (stT ca h a S) (smD (fun k => dutyA S (plc k f t)) (stU S w f t)) := by
  refine CtI.ofW (cc := cX3_costBySteps) (maxL := 8) (rt := .int) (by decide) rfl (Nat.le_of_ble_eq_true rfl) rfl ?_
  intro pr en s m be me c A ls Q H hx hb hml hts hown hev hP hD hA hS hl hret
  have hown : s.vm.findClass RX3 = some m.cls := hown
  have hl : lv_has ls 8 [(0, .ref h), (1, .int (nI w)), (2, .int (nI f)), (3, .int (nI t))] := hl
  have in_wsX30 : ∀ w ∈ wsX30, w ∈ wsX3_costBySteps := fun _ h => List.mem_cons_of_mem _ (List.mem_append_right _ h)
  refine lv_iload_n hx hb dX3_costBySteps_0 rfl (lv_at hl 3 rfl) ?_
  refine lv_iload_n hx hb dX3_costBySteps_1 rfl (lv_at hl 2 rfl) ?_
  refine lv_isub hx hb dX3_costBySteps_2 ?_
  refine va_mabs hx hb (hml.trans hl.1.symm) hown (hts (.methodLink RX3 129 Lib.Math.abs.name) (List.mem_of_getElem? (i := 1) rfl)) (hts (.static Lib.Math.abs.name) (List.mem_of_getElem? (i := 2) rfl)) (hts (.initialized "java/lang/Math") (List.mem_of_getElem? (i := 3) rfl)) (hts (.code Lib.Math.abs.name Lib.Math.abs.code 1 (some .int)) (List.mem_of_getElem? (i := 4) rfl)) (Nat.le_of_ble_eq_true rfl) (Nat.le_of_ble_eq_true rfl) (Nat.zero_le _) (Nat.zero_le _) dX3_costBySteps_3 ?_
  refine lv_eqi (y := nI (t - f + (f - t))) (by exact abs_dst _ _ (by omega) (by omega)) ?_
  refine lv_iconst (v := nI 1) hx hb dX3_costBySteps_6 (by decide) ?_
  refine lv_iadd hx hb dX3_costBySteps_7 ?_
  refine lv_eqi (nI_add _ _) ?_
  refine lv_istore (lv' := [(4, .int (nI ((t - f + (f - t)) + 1))), (0, .ref h), (1, .int (nI w)), (2, .int (nI f)), (3, .int (nI t))]) hx hb dX3_costBySteps_8 hl (by decide) rfl (fun ls hl => ?_)
  refine lv_iconst (v := 0) hx hb dX3_costBySteps_10 (by decide) ?_
  refine lv_istore (lv' := [(5, .int 0), (4, .int (nI ((t - f + (f - t)) + 1))), (0, .ref h), (1, .int (nI w)), (2, .int (nI f)), (3, .int (nI t))]) hx hb dX3_costBySteps_11 hl (by decide) rfl (fun ls hl => ?_)
  refine lv_iconst (v := nI 0) hx hb dX3_costBySteps_13 (by decide) ?_
  refine lv_istore (lv' := [(6, .int (nI 0)), (5, .int 0), (4, .int (nI ((t - f + (f - t)) + 1))), (0, .ref h), (1, .int (nI w)), (2, .int (nI f)), (3, .int (nI t))]) hx hb dX3_costBySteps_14 hl (by decide) rfl (fun ls hl => ?_)
  have loop_16 : ∀ (n i : Nat), i + n = t - f + (f - t) + 1 → stp (fun k => mayC S w (plc k f t)) n i = stU S w f t → ∀ (H : Heap) (locs : List Loc) (ls : Array Slot), va_P G vwCl (stT ca h a S) H → va_D A (stT ca h a S) → va_S A s.heap H locs → lv_has ls 8 [(0, .ref h), (1, .int (nI w)), (2, .int (nI f)), (3, .int (nI t)), (4, .int (nI ((t - f + (f - t)) + 1))), (5, .int (smD (fun k => dutyA S (plc k f t)) i)), (6, .int (nI i))] → W pr l en ({ frames := 4, cells := 0, slots := 0, locals := 89 } : Room) s m ([.ref h, .int (nI w), .int (nI f), .int (nI t)] : List Value).toArray be me c H locs 0 0 Q (F0 m 16 ls []) := by
    intro n
    induction n with
    | zero =>
      intro i hi hr H locs ls hP hD hS hl
      obtain rfl : i = t - f + (f - t) + 1 := by omega
      refine lv_iload hx hb dX3_costBySteps_16 (lv_at hl 6 rfl) ?_
      refine lv_iload hx hb dX3_costBySteps_18 (lv_at hl 4 rfl) ?_
      refine lv_icmp_ge (tgt := 62) hx hb dX3_costBySteps_20 (by decide) (fun c_1 => ?_) (fun c_1 => ?_)
      · skip
        refine lv_iload hx hb dX3_costBySteps_62 (lv_at hl 5 rfl) ?_
        refine lv_eqi (y := smD (fun k => dutyA S (plc k f t)) (stU S w f t)) (by rw [← hr]; rfl) ?_
        exact hret _ _ _ _ hP hS dX3_costBySteps_64
      · skip
        exact absurd (nI_le (by omega) (by omega)) c_1
    | succ n ih =>
      intro i hi hr H locs ls hP hD hS hl
      have hlt : i < t - f + (f - t) + 1 := by omega
      refine lv_iload hx hb dX3_costBySteps_16 (lv_at hl 6 rfl) ?_
      refine lv_iload hx hb dX3_costBySteps_18 (lv_at hl 4 rfl) ?_
      refine lv_icmp_ge (tgt := 62) hx hb dX3_costBySteps_20 (by decide) (fun c_2 => ?_) (fun c_2 => ?_)
      · skip
        exact absurd c_2 (nI_ge (by omega) (by omega))
      · skip
        refine lv_iload hx hb dX3_costBySteps_23 (lv_at hl 6 rfl) ?_
        refine lv_iload_n hx hb dX3_costBySteps_25 rfl (lv_at hl 2 rfl) ?_
        refine lv_iload_n hx hb dX3_costBySteps_26 rfl (lv_at hl 3 rfl) ?_
        refine goI0 (va_runSN (As := [.int (nI i), .int (nI f), .int (nI t)]) (rest := []) ⟨hx, hb, hml, hown, hts⟩ (CtI.use (c_X4_placeAfter l G ca i f t (by omega) (by omega) (by omega)) H.size) ⟨va_cnB 3 hts gX3_costBySteps_X4_placeAfter_n132 rfl rfl rfl hev.2.2.2.2.2 (hts (.initialized RX4) (List.mem_of_getElem? (i := 6) rfl)) (by decide +kernel) ⟨Nat.le_of_ble_eq_true rfl, Nat.le_of_ble_eq_true rfl⟩, hts (.static yX4_placeAfter) (List.mem_of_getElem? (i := 5) rfl), trivial⟩ (pcW_S hev P_nil (D_nil (A := A))) rfl rfl hl.1 rfl (lv_room (Nat.le_of_ble_eq_true rfl)) dX3_costBySteps_27 ⟨Nat.zero_le _, Nat.zero_le _⟩) hP hS hA (fun H locs hP hS => ?_)
        refine lv_istore (lv' := [(7, .int (nI (plc i f t))), (0, .ref h), (1, .int (nI w)), (2, .int (nI f)), (3, .int (nI t)), (4, .int (nI ((t - f + (f - t)) + 1))), (5, .int (smD (fun k => dutyA S (plc k f t)) i)), (6, .int (nI i))]) hx hb dX3_costBySteps_30 hl (by decide) rfl (fun ls hl => ?_)
        refine lv_aload_n hx hb dX3_costBySteps_32 rfl (lv_at hl 1 rfl) ?_
        refine lv_iload_n hx hb dX3_costBySteps_33 rfl (lv_at hl 2 rfl) ?_
        refine lv_iload hx hb dX3_costBySteps_34 (lv_at hl 0 rfl) ?_
        refine goIw (va_runV (As := [.int (nI w), .int (nI (plc i f t))]) (rest := []) ⟨hx, hb, hml, hown, hts⟩ (CtI.use (c_X3_mayCross l G ca h a S w (plc i f t) (by omega) (plc_lt _ _ _ (by omega) (by omega) (by omega))) H.size) (cwV 2 hts gX3_costBySteps_X3_mayCross rfl rfl rfl (by decide +kernel) ⟨Nat.le_of_ble_eq_true rfl, Nat.le_of_ble_eq_true rfl⟩) (pcW_V hev hP hD (q0 := 0) rfl rfl rfl) rfl rfl hl.1 rfl (lv_room (Nat.le_of_ble_eq_true rfl)) dX3_costBySteps_36 ⟨Nat.zero_le _, Nat.zero_le _⟩) hD hS hA stF (fun H locs hP hD hS => ?_)
        refine lv_if_ne (tgt := 45) hx hb dX3_costBySteps_39 (by decide) (fun c_3 => ?_) (fun c_3 => ?_)
        · skip
          refine lv_iload hx hb dX3_costBySteps_45 (lv_at hl 6 rfl) ?_
          refine lv_aload_n hx hb dX3_costBySteps_47 rfl (lv_at hl 1 rfl) ?_
          refine lv_iload hx hb dX3_costBySteps_48 (lv_at hl 0 rfl) ?_
          refine goIw (va_runV (As := [.int (nI (plc i f t))]) (rest := [.int (smD (fun k => dutyA S (plc k f t)) i)]) ⟨hx, hb, hml, hown, hts⟩ (CtI.use (c_X3_dutyAt l G ca h a S (plc i f t) (plc_lt _ _ _ (by omega) (by omega) (by omega))) H.size) (cwV 1 hts gX3_costBySteps_X3_dutyAt rfl rfl rfl (by decide +kernel) ⟨Nat.le_of_ble_eq_true rfl, Nat.le_of_ble_eq_true rfl⟩) (pcW_V hev hP hD (q0 := 0) rfl rfl rfl) rfl rfl hl.1 rfl (lv_room (Nat.le_of_ble_eq_true rfl)) dX3_costBySteps_50 ⟨Nat.zero_le _, Nat.zero_le _⟩) hD hS hA stF (fun H locs hP hD hS => ?_)
          refine lv_iadd hx hb dX3_costBySteps_53 ?_
          refine lv_istore (lv' := [(5, .int ((smD (fun k => dutyA S (plc k f t)) i) + (dutyA S (plc i f t)))), (7, .int (nI (plc i f t))), (0, .ref h), (1, .int (nI w)), (2, .int (nI f)), (3, .int (nI t)), (4, .int (nI ((t - f + (f - t)) + 1))), (6, .int (nI i))]) hx hb dX3_costBySteps_54 hl (by decide) rfl (fun ls hl => ?_)
          refine lv_iinc (v := nI (i + 1)) (lv' := [(6, .int (nI (i + 1))), (5, .int ((smD (fun k => dutyA S (plc k f t)) i) + (dutyA S (plc i f t)))), (7, .int (nI (plc i f t))), (0, .ref h), (1, .int (nI w)), (2, .int (nI f)), (3, .int (nI t)), (4, .int (nI ((t - f + (f - t)) + 1)))]) hx hb dX3_costBySteps_56 hl (k := 7) rfl (nI_1 _) (by decide) rfl (fun ls hl => ?_)
          refine lv_goto (tgt := 16) hx hb dX3_costBySteps_59 (by decide) ?_
          exact ih (i + 1) (by omega) (by rw [← hr, stp_s, if_neg c_3]) _ _ _ hP (D_of hD stF) hS (lv_sub hl [3, 4, 5, 6, 7, 1, 0] rfl)
        · skip
          refine lv_iload hx hb dX3_costBySteps_42 (lv_at hl 6 rfl) ?_
          refine lv_eqi (y := smD (fun k => dutyA S (plc k f t)) (stU S w f t)) (by rw [← hr, stp_s, if_pos c_3]) ?_
          exact hret _ _ _ _ hP hS dX3_costBySteps_44
  exact loop_16 (t - f + (f - t) + 1) 0 (by omega) (by rfl) _ _ _ hP (D_of hD stF) hS (lv_sub hl [3, 4, 5, 6, 2, 1, 0] rfl)
set_option maxHeartbeats 4000000 in
set_option maxRecDepth 100000 in
theorem c_X3_costByBlock (l : Launch) (G : va_G) (ca : Nat → ClassId) (h : Nat) (a : Nat → Nat) (S : SS) (w : Nat) (f : Nat) (t : Nat) (hw : w < 6) (hf : f < 12) (ht : t < 12) : CtI l yX3_costByBlock wsX3_costByBlock ({ frames := 5, cells := 0, slots := 0, locals := 114 }) [.ref h, .int (nI w), .int (nI f), .int (nI t)] G ca (stT ca h a S) (stT ca h a S) (smD (fun k => dutyA S (plc k f t)) (stU S w f t)) := by
  refine CtI.ofW (cc := cX3_costByBlock) (maxL := 7) (rt := .int) (by decide) rfl (Nat.le_of_ble_eq_true rfl) rfl ?_
  intro pr en s m be me c A ls Q H hx hb hml hts hown hev hP hD hA hS hl hret
  have hown : s.vm.findClass RX3 = some m.cls := hown
  have hl : lv_has ls 7 [(0, .ref h), (1, .int (nI w)), (2, .int (nI f)), (3, .int (nI t))] := hl
  have in_wsX30 : ∀ w ∈ wsX30, w ∈ wsX3_costByBlock := fun _ h => List.mem_cons_of_mem _ (List.mem_append_right _ h)
  have hst := stU_le S w f t
  refine lv_aload_n hx hb dX3_costByBlock_0 rfl (lv_at hl 0 rfl) ?_
  refine lv_iload_n hx hb dX3_costByBlock_1 rfl (lv_at hl 1 rfl) ?_
  refine lv_iload_n hx hb dX3_costByBlock_2 rfl (lv_at hl 2 rfl) ?_
  refine lv_iload_n hx hb dX3_costByBlock_3 rfl (lv_at hl 3 rfl) ?_
  refine goIw (va_runV (As := [.int (nI w), .int (nI f), .int (nI t)]) (rest := []) ⟨hx, hb, hml, hown, hts⟩ (CtI.use (c_X3_stepsUntilBlocked l G ca h a S w f t (by omega) (by omega) (by omega)) H.size) (cwV 3 hts gX3_costByBlock_X3_stepsUntilBlocked rfl rfl rfl (by decide +kernel) ⟨Nat.le_of_ble_eq_true rfl, Nat.le_of_ble_eq_true rfl⟩) (pcW_V hev hP hD (q0 := 0) rfl rfl rfl) rfl rfl hl.1 rfl (lv_room (Nat.le_of_ble_eq_true rfl)) dX3_costByBlock_4 ⟨Nat.zero_le _, Nat.zero_le _⟩) hD hS hA stF (fun H locs hP hD hS => ?_)
  refine lv_istore (lv' := [(4, .int (nI (stU S w f t))), (0, .ref h), (1, .int (nI w)), (2, .int (nI f)), (3, .int (nI t))]) hx hb dX3_costByBlock_7 hl (by decide) rfl (fun ls hl => ?_)
  refine lv_iconst (v := 0) hx hb dX3_costByBlock_9 (by decide) ?_
  refine lv_istore (lv' := [(5, .int 0), (4, .int (nI (stU S w f t))), (0, .ref h), (1, .int (nI w)), (2, .int (nI f)), (3, .int (nI t))]) hx hb dX3_costByBlock_10 hl (by decide) rfl (fun ls hl => ?_)
  refine lv_iconst (v := nI 0) hx hb dX3_costByBlock_12 (by decide) ?_
  refine lv_istore (lv' := [(6, .int (nI 0)), (5, .int 0), (4, .int (nI (stU S w f t))), (0, .ref h), (1, .int (nI w)), (2, .int (nI f)), (3, .int (nI t))]) hx hb dX3_costByBlock_13 hl (by decide) rfl (fun ls hl => ?_)
  have loop_15 : ∀ (n i : Nat), i + n = stU S w f t → ∀ (H : Heap) (locs : List Loc) (ls : Array Slot), va_P G vwCl (stT ca h a S) H → va_D A (stT ca h a S) → va_S A s.heap H locs → lv_has ls 7 [(0, .ref h), (1, .int (nI w)), (2, .int (nI f)), (3, .int (nI t)), (4, .int (nI (stU S w f t))), (5, .int (smD (fun k => dutyA S (plc k f t)) i)), (6, .int (nI i))] → W pr l en ({ frames := 5, cells := 0, slots := 0, locals := 114 } : Room) s m ([.ref h, .int (nI w), .int (nI f), .int (nI t)] : List Value).toArray be me c H locs 0 0 Q (F0 m 15 ls []) := by
    intro n
    induction n with
    | zero =>
      intro i hi H locs ls hP hD hS hl
      obtain rfl : i = stU S w f t := by omega
      refine lv_iload hx hb dX3_costByBlock_15 (lv_at hl 6 rfl) ?_
      refine lv_iload hx hb dX3_costByBlock_17 (lv_at hl 4 rfl) ?_
      refine lv_icmp_ge (tgt := 44) hx hb dX3_costByBlock_19 (by decide) (fun c_1 => ?_) (fun c_1 => ?_)
      · skip
        refine lv_iload hx hb dX3_costByBlock_44 (lv_at hl 5 rfl) ?_
        exact hret _ _ _ _ hP hS dX3_costByBlock_46
      · skip
        exact absurd (nI_le (by omega) (by omega)) c_1
    | succ n ih =>
      intro i hi H locs ls hP hD hS hl
      have hlt : i < stU S w f t := by omega
      refine lv_iload hx hb dX3_costByBlock_15 (lv_at hl 6 rfl) ?_
      refine lv_iload hx hb dX3_costByBlock_17 (lv_at hl 4 rfl) ?_
      refine lv_icmp_ge (tgt := 44) hx hb dX3_costByBlock_19 (by decide) (fun c_2 => ?_) (fun c_2 => ?_)
      · skip
        exact absurd c_2 (nI_ge (by omega) (by omega))
      · skip
        refine lv_iload hx hb dX3_costByBlock_22 (lv_at hl 5 rfl) ?_
        refine lv_aload_n hx hb dX3_costByBlock_24 rfl (lv_at hl 0 rfl) ?_
        refine lv_iload hx hb dX3_costByBlock_25 (lv_at hl 6 rfl) ?_
        refine lv_iload_n hx hb dX3_costByBlock_27 rfl (lv_at hl 2 rfl) ?_
        refine lv_iload_n hx hb dX3_costByBlock_28 rfl (lv_at hl 3 rfl) ?_
        refine goI0 (va_runSN (As := [.int (nI i), .int (nI f), .int (nI t)]) (rest := [.ref h, .int (smD (fun k => dutyA S (plc k f t)) i)]) ⟨hx, hb, hml, hown, hts⟩ (CtI.use (c_X4_placeAfter l G ca i f t (by omega) (by omega) (by omega)) H.size) ⟨va_cnB 3 hts gX3_costByBlock_X4_placeAfter_n132 rfl rfl rfl hev.2.2.2.2.2 (hts (.initialized RX4) (List.mem_of_getElem? (i := 11) rfl)) (by decide +kernel) ⟨Nat.le_of_ble_eq_true rfl, Nat.le_of_ble_eq_true rfl⟩, hts (.static yX4_placeAfter) (List.mem_of_getElem? (i := 10) rfl), trivial⟩ (pcW_S hev P_nil (D_nil (A := A))) rfl rfl hl.1 rfl (lv_room (Nat.le_of_ble_eq_true rfl)) dX3_costByBlock_29 ⟨Nat.zero_le _, Nat.zero_le _⟩) hP hS hA (fun H locs hP hS => ?_)
        refine goIw (va_runV (As := [.int (nI (plc i f t))]) (rest := [.int (smD (fun k => dutyA S (plc k f t)) i)]) ⟨hx, hb, hml, hown, hts⟩ (CtI.use (c_X3_dutyAt l G ca h a S (plc i f t) (plc_lt _ _ _ (by omega) (by omega) (by omega))) H.size) (cwV 1 hts gX3_costByBlock_X3_dutyAt rfl rfl rfl (by decide +kernel) ⟨Nat.le_of_ble_eq_true rfl, Nat.le_of_ble_eq_true rfl⟩) (pcW_V hev hP hD (q0 := 0) rfl rfl rfl) rfl rfl hl.1 rfl (lv_room (Nat.le_of_ble_eq_true rfl)) dX3_costByBlock_32 ⟨Nat.zero_le _, Nat.zero_le _⟩) hD hS hA stF (fun H locs hP hD hS => ?_)
        refine lv_iadd hx hb dX3_costByBlock_35 ?_
        refine lv_istore (lv' := [(5, .int ((smD (fun k => dutyA S (plc k f t)) i) + (dutyA S (plc i f t)))), (0, .ref h), (1, .int (nI w)), (2, .int (nI f)), (3, .int (nI t)), (4, .int (nI (stU S w f t))), (6, .int (nI i))]) hx hb dX3_costByBlock_36 hl (by decide) rfl (fun ls hl => ?_)
        refine lv_iinc (v := nI (i + 1)) (lv' := [(6, .int (nI (i + 1))), (5, .int ((smD (fun k => dutyA S (plc k f t)) i) + (dutyA S (plc i f t)))), (0, .ref h), (1, .int (nI w)), (2, .int (nI f)), (3, .int (nI t)), (4, .int (nI (stU S w f t)))]) hx hb dX3_costByBlock_38 hl (k := 6) rfl (nI_1 _) (by decide) rfl (fun ls hl => ?_)
        refine lv_goto (tgt := 15) hx hb dX3_costByBlock_41 (by decide) ?_
        exact ih (i + 1) (by omega) _ _ _ hP (D_of hD stF) hS (lv_sub hl [2, 3, 4, 5, 6, 1, 0] rfl)
  exact loop_15 (stU S w f t) 0 (by omega) _ _ _ hP (D_of hD stF) hS (lv_sub hl [3, 4, 5, 6, 2, 1, 0] rfl)
def agL (pd : Nat → Int32) (p : Nat) : Nat → (Nat → Int32) | 0 => pd | w + 1 => if agL pd p w (w * 12 + p) ≤ 0 then agL pd p w else upd (agL pd p w) (w * 12 + p) (agL pd p w (w * 12 + p) - 1)
theorem agL_s (pd : Nat → Int32) (p w : Nat) : agL pd p (w + 1) = if agL pd p w (w * 12 + p) ≤ 0 then agL pd p w else upd (agL pd p w) (w * 12 + p) (agL pd p w (w * 12 + p) - 1) := rfl
def rnL (S : SS) (am : Int32) : Nat → (Nat → Int32) × Int32 × Int32 × Int32
  | 0 => (s_wa S, s_fe S, s_dn S, 0)
  | i + 1 => if bt1 (s_fz S) i = 0 then
      (upd (rnL S am i).1 i (if s_br S i < (rnL S am i).1 i + am + (rnL S am i).2.2.2 then s_br S i else (rnL S am i).1 i + am + (rnL S am i).2.2.2), (rnL S am i).2.1 + am, (rnL S am i).2.2.1, (rnL S am i).1 i + am + (rnL S am i).2.2.2 - (if s_br S i < (rnL S am i).1 i + am + (rnL S am i).2.2.2 then s_br S i else (rnL S am i).1 i + am + (rnL S am i).2.2.2))
    else ((rnL S am i).1, (rnL S am i).2.1, (rnL S am i).2.2.1 + (rnL S am i).2.2.2, 0)
theorem rnL_z {S : SS} {am : Int32} {i : Nat} (c : bt1 (s_fz S) i = 0) : rnL S am (i + 1) = (upd (rnL S am i).1 i (if s_br S i < (rnL S am i).1 i + am + (rnL S am i).2.2.2 then s_br S i else (rnL S am i).1 i + am + (rnL S am i).2.2.2), (rnL S am i).2.1 + am, (rnL S am i).2.2.1, (rnL S am i).1 i + am + (rnL S am i).2.2.2 - (if s_br S i < (rnL S am i).1 i + am + (rnL S am i).2.2.2 then s_br S i else (rnL S am i).1 i + am + (rnL S am i).2.2.2)) := if_pos c
theorem rnL_n {S : SS} {am : Int32} {i : Nat} (c : ¬ bt1 (s_fz S) i = 0) : rnL S am (i + 1) = ((rnL S am i).1, (rnL S am i).2.1, (rnL S am i).2.2.1 + (rnL S am i).2.2.2, 0) := if_neg c
def shL (S : SS) : Nat → (Nat → Int32) × Int32
  | 0 => (s_wa S, s_dr S)
  | i + 1 => if bt1 (s_fz S) i = 0 then
      (upd (shL S i).1 i ((shL S i).1 i - (if s_se S 1 < (shL S i).1 i then s_se S 1 else (shL S i).1 i)), (shL S i).2 + (if s_se S 1 < (shL S i).1 i then s_se S 1 else (shL S i).1 i)) else shL S i
theorem shL_z {S : SS} {i : Nat} (c : bt1 (s_fz S) i = 0) : shL S (i + 1) = (upd (shL S i).1 i ((shL S i).1 i - (if s_se S 1 < (shL S i).1 i then s_se S 1 else (shL S i).1 i)), (shL S i).2 + (if s_se S 1 < (shL S i).1 i then s_se S 1 else (shL S i).1 i)) := if_pos c
theorem shL_n {S : SS} {i : Nat} (c : ¬ bt1 (s_fz S) i = 0) : shL S (i + 1) = shL S i := if_neg c
def frL (S : SS) : Nat → Int32 | 0 => s_fz S | i + 1 => if 4 ≤ s_wa S i / 5 then frL S i else frL S i ||| ((1 : Int32) <<< (nI i &&& 31))
theorem frL_s (S : SS) (i : Nat) : frL S (i + 1) = if 4 ≤ s_wa S i / 5 then frL S i else frL S i ||| ((1 : Int32) <<< (nI i &&& 31)) := rfl
def edL (S : SS) : Nat → Int32 × (Nat → Int32)
  | 0 => (0, s_pd S)
  | i + 1 => if bt1 (s_fz S) i = 0 then (if s_wa S i < s_se S 2 then ((edL S i).1, agL (edL S i).2 i 6) else ((edL S i).1 ||| ((1 : Int32) <<< (nI i &&& 31)), agL (edL S i).2 i 6)) else edL S i
theorem edL_s (S : SS) (i : Nat) : edL S (i + 1) = if bt1 (s_fz S) i = 0 then (if s_wa S i < s_se S 2 then ((edL S i).1, agL (edL S i).2 i 6) else ((edL S i).1 ||| ((1 : Int32) <<< (nI i &&& 31)), agL (edL S i).2 i 6)) else edL S i := rfl
theorem upd_at (f : Nat → Int32) (k : Nat) (x : Int32) : upd f k x k = x := if_pos rfl
set_option maxHeartbeats 4000000 in
set_option maxRecDepth 100000 in
theorem c_X3_agePermitsAt (l : Launch) (G : va_G) (ca : Nat → ClassId) (h : Nat) (a : Nat → Nat) (S : SS) (p : Nat) (hp : p < 12) : CtV l yX3_agePermitsAt wsX3_agePermitsAt ({ frames := 1, cells := 0, slots := 0, locals := 21 }) [.ref h, .int (nI p)] G ca (stT ca h a S) (stT ca h a (s_se S, s_br S, s_wa S, s_cr S, s_sh S, s_ow S, s_pa S, s_cb S, agL (s_pd S) p 6, s_fz S, s_dk S, s_dy S, s_fe S, s_dr S, s_dn S)) := by
  refine CtV.ofW (cc := cX3_agePermitsAt) (maxL := 4) (by decide) rfl (Nat.le_of_ble_eq_true rfl) ?_
  intro pr en s m be me c A ls Q H hx hb hml hts hown hev hP hD hA hS hl hret
  have hown : s.vm.findClass RX3 = some m.cls := hown
  have hl : lv_has ls 4 [(0, .ref h), (1, .int (nI p))] := hl
  have in_wsX30 : ∀ w ∈ wsX30, w ∈ wsX3_agePermitsAt := fun _ h => List.mem_cons_of_mem _ (List.mem_append_right _ h)
  refine lv_iconst (v := nI 0) hx hb dX3_agePermitsAt_0 (by decide) ?_
  refine lv_istore_n (lv' := [(2, .int (nI 0)), (0, .ref h), (1, .int (nI p))]) hx hb dX3_agePermitsAt_1 rfl hl (by decide) rfl (fun ls hl => ?_)
  have loop_2 : ∀ (n i : Nat), i + n = 6 → ∀ (H : Heap) (locs : List Loc) (ls : Array Slot), va_P G vwCl (stT ca h a (s_se S, s_br S, s_wa S, s_cr S, s_sh S, s_ow S, s_pa S, s_cb S, agL (s_pd S) p i, s_fz S, s_dk S, s_dy S, s_fe S, s_dr S, s_dn S)) H → va_D A (stT ca h a (s_se S, s_br S, s_wa S, s_cr S, s_sh S, s_ow S, s_pa S, s_cb S, agL (s_pd S) p i, s_fz S, s_dk S, s_dy S, s_fe S, s_dr S, s_dn S)) → va_S A s.heap H locs → lv_has ls 4 [(0, .ref h), (1, .int (nI p)), (2, .int (nI i))] → W pr l en ({ frames := 1, cells := 0, slots := 0, locals := 21 } : Room) s m ([.ref h, .int (nI p)] : List Value).toArray be me c H locs 0 0 Q (F0 m 2 ls []) := by
    intro n
    induction n with
    | zero =>
      intro i hi H locs ls hP hD hS hl
      obtain rfl : i = 6 := by omega
      refine lv_iload_n hx hb dX3_agePermitsAt_2 rfl (lv_at hl 2 rfl) ?_
      refine lv_bipush (v := nI 6) hx hb dX3_agePermitsAt_3 (by decide) ?_
      refine lv_icmp_ge (tgt := 39) hx hb dX3_agePermitsAt_5 (by decide) (fun c_1 => ?_) (fun c_1 => ?_)
      · skip
        exact hret _ _ _ _ hP hS dX3_agePermitsAt_39
      · skip
        exact absurd (nI_le (by omega) (by omega)) c_1
    | succ n ih =>
      intro i hi H locs ls hP hD hS hl
      have hlt : i < 6 := by omega
      refine lv_iload_n hx hb dX3_agePermitsAt_2 rfl (lv_at hl 2 rfl) ?_
      refine lv_bipush (v := nI 6) hx hb dX3_agePermitsAt_3 (by decide) ?_
      refine lv_icmp_ge (tgt := 39) hx hb dX3_agePermitsAt_5 (by decide) (fun c_2 => ?_) (fun c_2 => ?_)
      · skip
        exact absurd c_2 (nI_ge (by omega) (by omega))
      · skip
        refine lv_iload_n hx hb dX3_agePermitsAt_8 rfl (lv_at hl 2 rfl) ?_
        refine lv_iload_n hx hb dX3_agePermitsAt_9 rfl (lv_at hl 1 rfl) ?_
        refine goI0 (va_runSN (As := [.int (nI i), .int (nI p)]) (rest := []) ⟨hx, hb, hml, hown, hts⟩ (CtI.use (c_X4_placeOf l G ca i p) H.size) ⟨va_cnB 2 hts gX3_agePermitsAt_X4_placeOf_n99 rfl rfl rfl hev.2.2.2.2.1 (hts (.initialized RX4) (List.mem_of_getElem? (i := 3) rfl)) (by decide +kernel) ⟨Nat.le_of_ble_eq_true rfl, Nat.le_of_ble_eq_true rfl⟩, hts (.static yX4_placeOf) (List.mem_of_getElem? (i := 2) rfl), trivial⟩ (pcW_S hev P_nil (D_nil (A := A))) rfl rfl hl.1 rfl (lv_room (Nat.le_of_ble_eq_true rfl)) dX3_agePermitsAt_10 ⟨Nat.zero_le _, Nat.zero_le _⟩) hP hS hA (fun H locs hP hS => ?_)
        refine lv_istore_n (lv' := [(3, .int (nI (i * 12 + p))), (0, .ref h), (1, .int (nI p)), (2, .int (nI i))]) hx hb dX3_agePermitsAt_13 rfl hl (by decide) rfl (fun ls hl => ?_)
        refine lv_aload_n hx hb dX3_agePermitsAt_14 rfl (lv_at hl 1 rfl) ?_
        refine va_get (D := G) (ci := 3) (v := .ref (a 8)) (C := RX3) (T := TX3) (N := 15) hx hb hts in_wsX30 hown hev.1 hP 0 rfl rfl 8 (by decide) (hts (.fieldLink RX3 36 "PuddleMinistries$Street" "permitDays" "[I") (List.mem_of_getElem? (i := 1) rfl)) (fun _ h9 => h9) rfl dX3_agePermitsAt_15 ?_
        refine lv_iload_n hx hb dX3_agePermitsAt_18 rfl (lv_at hl 0 rfl) ?_
        refine b_iald hx hb hev.1 hP 9 rfl rfl (j := (i * 12 + p)) (by omega) (by decide) dX3_agePermitsAt_19 ?_
        refine lv_if_le (tgt := 33) hx hb dX3_agePermitsAt_20 (by decide) (fun c_3 => ?_) (fun c_3 => ?_)
        · skip
          refine lv_iinc (v := nI (i + 1)) (lv' := [(2, .int (nI (i + 1))), (3, .int (nI (i * 12 + p))), (0, .ref h), (1, .int (nI p))]) hx hb dX3_agePermitsAt_33 hl (k := 3) rfl (nI_1 _) (by decide) rfl (fun ls hl => ?_)
          refine lv_goto (tgt := 2) hx hb dX3_agePermitsAt_36 (by decide) ?_
          exact ih (i + 1) (by omega) _ _ _ (by rw [show (agL (s_pd S) p (i + 1)) = (agL (s_pd S) p i) from by rw [agL_s, if_pos c_3]]; exact hP) (D_of hD stF) hS (lv_sub hl [2, 3, 0] rfl)
        · skip
          refine lv_aload_n hx hb dX3_agePermitsAt_23 rfl (lv_at hl 1 rfl) ?_
          refine va_get (D := G) (ci := 3) (v := .ref (a 8)) (C := RX3) (T := TX3) (N := 15) hx hb hts in_wsX30 hown hev.1 hP 0 rfl rfl 8 (by decide) (hts (.fieldLink RX3 36 "PuddleMinistries$Street" "permitDays" "[I") (List.mem_of_getElem? (i := 1) rfl)) (fun _ h9 => h9) rfl dX3_agePermitsAt_24 ?_
          refine lv_iload_n hx hb dX3_agePermitsAt_27 rfl (lv_at hl 0 rfl) ?_
          refine lv_dup2_11 hx hb dX3_agePermitsAt_28 rfl rfl ?_
          refine b_iald hx hb hev.1 hP 9 rfl rfl (j := (i * 12 + p)) (by omega) (by decide) dX3_agePermitsAt_29 ?_
          refine lv_iconst (v := 1) hx hb dX3_agePermitsAt_30 (by decide) ?_
          refine lv_isub hx hb dX3_agePermitsAt_31 ?_
          refine b_iast hx hb hev.1 hP hD hS 9 rfl rfl (j := (i * 12 + p)) (by omega) (by decide) dX3_agePermitsAt_32 (fun H locs hP hD hS => ?_)
          have hP : va_P G vwCl (stT ca h a (s_se S, s_br S, s_wa S, s_cr S, s_sh S, s_ow S, s_pa S, s_cb S, upd (agL (s_pd S) p i) (i * 12 + p) (((agL (s_pd S) p i) (i * 12 + p)) - 1), s_fz S, s_dk S, s_dy S, s_fe S, s_dr S, s_dn S)) H := hP
          have hD : va_D A (stT ca h a (s_se S, s_br S, s_wa S, s_cr S, s_sh S, s_ow S, s_pa S, s_cb S, upd (agL (s_pd S) p i) (i * 12 + p) (((agL (s_pd S) p i) (i * 12 + p)) - 1), s_fz S, s_dk S, s_dy S, s_fe S, s_dr S, s_dn S)) := hD
          refine lv_iinc (v := nI (i + 1)) (lv' := [(2, .int (nI (i + 1))), (3, .int (nI (i * 12 + p))), (0, .ref h), (1, .int (nI p))]) hx hb dX3_agePermitsAt_33 hl (k := 3) rfl (nI_1 _) (by decide) rfl (fun ls hl => ?_)
          refine lv_goto (tgt := 2) hx hb dX3_agePermitsAt_36 (by decide) ?_
          exact ih (i + 1) (by omega) _ _ _ (by rw [show (agL (s_pd S) p (i + 1)) = (upd (agL (s_pd S) p i) (i * 12 + p) (((agL (s_pd S) p i) (i * 12 + p)) - 1)) from by rw [agL_s, if_neg c_3]]; exact hP) (D_of hD stF) hS (lv_sub hl [2, 3, 0] rfl)
  exact loop_2 6 0 (by omega) _ _ _ hP (D_of hD stF) hS (lv_sub hl [1, 2, 0] rfl)
end
section
set_option maxHeartbeats 4000000 in
set_option maxRecDepth 100000 in
theorem c_X3_rain (l : Launch) (G : va_G) (ca : Nat → ClassId) (h : Nat) (a : Nat → Nat) (S : SS) (am : Int32) : CtV l yX3_rain wsX3_rain ({ frames := 2, cells := 0, slots := 0, locals := 42 }) [.ref h, .int am] G ca (stT ca h a S) (stT ca h a (s_se S, s_br S, (rnL S am 12).1, s_cr S, s_sh S, s_ow S, s_pa S, s_cb S, s_pd S, s_fz S, s_dk S, s_dy S, (rnL S am 12).2.1, s_dr S, (rnL S am 12).2.2.1 + (rnL S am 12).2.2.2)) := by
  refine CtV.ofW (cc := cX3_rain) (maxL := 5) (by decide) rfl (Nat.le_of_ble_eq_true rfl) ?_
  intro pr en s m be me c A ls Q H hx hb hml hts hown hev hP hD hA hS hl hret
  have hown : s.vm.findClass RX3 = some m.cls := hown
  have hl : lv_has ls 5 [(0, .ref h), (1, .int am)] := hl
  have in_wsX30 : ∀ w ∈ wsX30, w ∈ wsX3_rain := fun _ h => List.mem_cons_of_mem _ (List.mem_append_right _ h)
  refine lv_iconst (v := 0) hx hb dX3_rain_0 (by decide) ?_
  refine lv_istore_n (lv' := [(2, .int 0), (0, .ref h), (1, .int am)]) hx hb dX3_rain_1 rfl hl (by decide) rfl (fun ls hl => ?_)
  refine lv_iconst (v := nI 0) hx hb dX3_rain_2 (by decide) ?_
  refine lv_istore_n (lv' := [(3, .int (nI 0)), (2, .int 0), (0, .ref h), (1, .int am)]) hx hb dX3_rain_3 rfl hl (by decide) rfl (fun ls hl => ?_)
  have loop_4 : ∀ (n i : Nat), i + n = 12 → ∀ (H : Heap) (locs : List Loc) (ls : Array Slot), va_P G vwCl (stT ca h a (s_se S, s_br S, (rnL S am i).1, s_cr S, s_sh S, s_ow S, s_pa S, s_cb S, s_pd S, s_fz S, s_dk S, s_dy S, (rnL S am i).2.1, s_dr S, (rnL S am i).2.2.1)) H → va_D A (stT ca h a (s_se S, s_br S, (rnL S am i).1, s_cr S, s_sh S, s_ow S, s_pa S, s_cb S, s_pd S, s_fz S, s_dk S, s_dy S, (rnL S am i).2.1, s_dr S, (rnL S am i).2.2.1)) → va_S A s.heap H locs → lv_has ls 5 [(0, .ref h), (1, .int am), (2, .int ((rnL S am i).2.2.2)), (3, .int (nI i))] → W pr l en ({ frames := 2, cells := 0, slots := 0, locals := 42 } : Room) s m ([.ref h, .int am] : List Value).toArray be me c H locs 0 0 Q (F0 m 4 ls []) := by
    intro n
    induction n with
    | zero =>
      intro i hi H locs ls hP hD hS hl
      obtain rfl : i = 12 := by omega
      refine lv_iload_n hx hb dX3_rain_4 rfl (lv_at hl 3 rfl) ?_
      refine lv_bipush (v := nI 12) hx hb dX3_rain_5 (by decide) ?_
      refine lv_icmp_ge (tgt := 88) hx hb dX3_rain_7 (by decide) (fun c_1 => ?_) (fun c_1 => ?_)
      · skip
        refine lv_aload_n hx hb dX3_rain_88 rfl (lv_at hl 0 rfl) ?_
        refine lv_dup hx hb dX3_rain_89 rfl ?_
        refine va_get (D := G) (ci := 3) (v := .int ((rnL S am 12).2.2.1)) (C := RX3) (T := TX3) (N := 15) hx hb hts in_wsX30 hown hev.1 hP 0 rfl rfl 14 (by decide) (hts (.fieldLink RX3 62 "PuddleMinistries$Street" "drained" "I") (List.mem_of_getElem? (i := 1) rfl)) (fun _ h9 => h9) rfl dX3_rain_90 ?_
        refine lv_iload_n hx hb dX3_rain_93 rfl (lv_at hl 2 rfl) ?_
        refine lv_iadd hx hb dX3_rain_94 ?_
        refine va_put (D := G) (ci := 3) (v := .int (((rnL S am 12).2.2.1) + ((rnL S am 12).2.2.2))) (ty := .int) (C := RX3) (T := TX3) (N := 15) hx hb hts in_wsX30 tyX3 tyX3_ok nmX3 hown hev.1 hP hD hS 0 rfl rfl 14 (by decide) (hts (.fieldLink RX3 62 "PuddleMinistries$Street" "drained" "I") (List.mem_of_getElem? (i := 1) rfl)) (fun _ h9 => h9) rfl (by decide +kernel) rfl rfl (Nat.le_of_ble_eq_true rfl) dX3_rain_95 (fun H locs hP hD hS => ?_)
        have hP : va_P G vwCl (stT ca h a (s_se S, s_br S, (rnL S am 12).1, s_cr S, s_sh S, s_ow S, s_pa S, s_cb S, s_pd S, s_fz S, s_dk S, s_dy S, (rnL S am 12).2.1, s_dr S, ((rnL S am 12).2.2.1) + ((rnL S am 12).2.2.2))) H := hP
        have hD : va_D A (stT ca h a (s_se S, s_br S, (rnL S am 12).1, s_cr S, s_sh S, s_ow S, s_pa S, s_cb S, s_pd S, s_fz S, s_dk S, s_dy S, (rnL S am 12).2.1, s_dr S, ((rnL S am 12).2.2.1) + ((rnL S am 12).2.2.2))) := hD
        exact hret _ _ _ _ hP hS dX3_rain_98
      · skip
        exact absurd (nI_le (by omega) (by omega)) c_1
    | succ n ih =>
      intro i hi H locs ls hP hD hS hl
      have hlt : i < 12 := by omega
      refine lv_iload_n hx hb dX3_rain_4 rfl (lv_at hl 3 rfl) ?_
      refine lv_bipush (v := nI 12) hx hb dX3_rain_5 (by decide) ?_
      refine lv_icmp_ge (tgt := 88) hx hb dX3_rain_7 (by decide) (fun c_2 => ?_) (fun c_2 => ?_)
      · skip
        exact absurd c_2 (nI_ge (by omega) (by omega))
      · skip
        refine lv_aload_n hx hb dX3_rain_10 rfl (lv_at hl 0 rfl) ?_
        refine lv_iload_n hx hb dX3_rain_11 rfl (lv_at hl 3 rfl) ?_
        refine goIw (va_runV (As := [.int (nI i)]) (rest := []) ⟨hx, hb, hml, hown, hts⟩ (CtI.use (c_X3_isFrozen l G ca h a (s_se S, s_br S, (rnL S am i).1, s_cr S, s_sh S, s_ow S, s_pa S, s_cb S, s_pd S, s_fz S, s_dk S, s_dy S, (rnL S am i).2.1, s_dr S, (rnL S am i).2.2.1) i) H.size) (cwV 1 hts gX3_rain_X3_isFrozen rfl rfl rfl (by decide +kernel) ⟨Nat.le_of_ble_eq_true rfl, Nat.le_of_ble_eq_true rfl⟩) (pcW_V hev hP hD (q0 := 0) rfl rfl rfl) rfl rfl hl.1 rfl (lv_room (Nat.le_of_ble_eq_true rfl)) dX3_rain_12 ⟨Nat.zero_le _, Nat.zero_le _⟩) hD hS hA stF (fun H locs hP hD hS => ?_)
        refine lv_eqi (y := bt1 (s_fz S) i) rfl ?_
        refine lv_if_eq (tgt := 33) hx hb dX3_rain_15 (by decide) (fun c_3 => ?_) (fun c_3 => ?_)
        · skip
          refine lv_aload_n hx hb dX3_rain_33 rfl (lv_at hl 0 rfl) ?_
          refine lv_dup hx hb dX3_rain_34 rfl ?_
          refine va_get (D := G) (ci := 3) (v := .int ((rnL S am i).2.1)) (C := RX3) (T := TX3) (N := 15) hx hb hts in_wsX30 hown hev.1 hP 0 rfl rfl 12 (by decide) (hts (.fieldLink RX3 56 "PuddleMinistries$Street" "fell" "I") (List.mem_of_getElem? (i := 2) rfl)) (fun _ h9 => h9) rfl dX3_rain_35 ?_
          refine lv_iload_n hx hb dX3_rain_38 rfl (lv_at hl 1 rfl) ?_
          refine lv_iadd hx hb dX3_rain_39 ?_
          refine va_put (D := G) (ci := 3) (v := .int (((rnL S am i).2.1) + am)) (ty := .int) (C := RX3) (T := TX3) (N := 15) hx hb hts in_wsX30 tyX3 tyX3_ok nmX3 hown hev.1 hP hD hS 0 rfl rfl 12 (by decide) (hts (.fieldLink RX3 56 "PuddleMinistries$Street" "fell" "I") (List.mem_of_getElem? (i := 2) rfl)) (fun _ h9 => h9) rfl (by decide +kernel) rfl rfl (Nat.le_of_ble_eq_true rfl) dX3_rain_40 (fun H locs hP hD hS => ?_)
          have hP : va_P G vwCl (stT ca h a (s_se S, s_br S, (rnL S am i).1, s_cr S, s_sh S, s_ow S, s_pa S, s_cb S, s_pd S, s_fz S, s_dk S, s_dy S, ((rnL S am i).2.1) + am, s_dr S, (rnL S am i).2.2.1)) H := hP
          have hD : va_D A (stT ca h a (s_se S, s_br S, (rnL S am i).1, s_cr S, s_sh S, s_ow S, s_pa S, s_cb S, s_pd S, s_fz S, s_dk S, s_dy S, ((rnL S am i).2.1) + am, s_dr S, (rnL S am i).2.2.1)) := hD
          refine lv_aload_n hx hb dX3_rain_43 rfl (lv_at hl 0 rfl) ?_
          refine va_get (D := G) (ci := 3) (v := .ref (a 2)) (C := RX3) (T := TX3) (N := 15) hx hb hts in_wsX30 hown hev.1 hP 0 rfl rfl 2 (by decide) (hts (.fieldLink RX3 18 "PuddleMinistries$Street" "waters" "[I") (List.mem_of_getElem? (i := 3) rfl)) (fun _ h9 => h9) rfl dX3_rain_44 ?_
          refine lv_iload_n hx hb dX3_rain_47 rfl (lv_at hl 3 rfl) ?_
          refine b_iald hx hb hev.1 hP 3 rfl rfl (j := i) (by omega) (by decide) dX3_rain_48 ?_
          refine lv_iload_n hx hb dX3_rain_49 rfl (lv_at hl 1 rfl) ?_
          refine lv_iadd hx hb dX3_rain_50 ?_
          refine lv_iload_n hx hb dX3_rain_51 rfl (lv_at hl 2 rfl) ?_
          refine lv_iadd hx hb dX3_rain_52 ?_
          refine lv_istore (lv' := [(4, .int (((((rnL S am i).1) i) + am) + ((rnL S am i).2.2.2))), (0, .ref h), (1, .int am), (2, .int ((rnL S am i).2.2.2)), (3, .int (nI i))]) hx hb dX3_rain_53 hl (by decide) rfl (fun ls hl => ?_)
          refine lv_aload_n hx hb dX3_rain_55 rfl (lv_at hl 1 rfl) ?_
          refine va_get (D := G) (ci := 3) (v := .ref (a 2)) (C := RX3) (T := TX3) (N := 15) hx hb hts in_wsX30 hown hev.1 hP 0 rfl rfl 2 (by decide) (hts (.fieldLink RX3 18 "PuddleMinistries$Street" "waters" "[I") (List.mem_of_getElem? (i := 3) rfl)) (fun _ h9 => h9) rfl dX3_rain_56 ?_
          refine lv_iload_n hx hb dX3_rain_59 rfl (lv_at hl 4 rfl) ?_
          refine lv_iload hx hb dX3_rain_60 (lv_at hl 0 rfl) ?_
          refine lv_aload_n hx hb dX3_rain_62 rfl (lv_at hl 1 rfl) ?_
          refine va_get (D := G) (ci := 3) (v := .ref (a 1)) (C := RX3) (T := TX3) (N := 15) hx hb hts in_wsX30 hown hev.1 hP 0 rfl rfl 1 (by decide) (hts (.fieldLink RX3 15 "PuddleMinistries$Street" "brims" "[I") (List.mem_of_getElem? (i := 4) rfl)) (fun _ h9 => h9) rfl dX3_rain_63 ?_
          refine lv_iload_n hx hb dX3_rain_66 rfl (lv_at hl 4 rfl) ?_
          refine b_iald hx hb hev.1 hP 2 rfl rfl (j := i) (by omega) (by decide) dX3_rain_67 ?_
          refine va_mmin hx hb (hml.trans hl.1.symm) hown (hts (.methodLink RX3 86 Lib.Math.min.name) (List.mem_of_getElem? (i := 5) rfl)) (hts (.static Lib.Math.min.name) (List.mem_of_getElem? (i := 6) rfl)) (hts (.initialized "java/lang/Math") (List.mem_of_getElem? (i := 7) rfl)) (hts (.code Lib.Math.min.name Lib.Math.min.code 2 (some .int)) (List.mem_of_getElem? (i := 8) rfl)) (Nat.le_of_ble_eq_true rfl) (Nat.le_of_ble_eq_true rfl) (Nat.zero_le _) (Nat.zero_le _) dX3_rain_68 ?_
          refine b_iast hx hb hev.1 hP hD hS 3 rfl rfl (j := i) (by omega) (by decide) dX3_rain_71 (fun H locs hP hD hS => ?_)
          have hP : va_P G vwCl (stT ca h a (s_se S, s_br S, upd ((rnL S am i).1) i (if ((s_br S) i) < (((((rnL S am i).1) i) + am) + ((rnL S am i).2.2.2)) then ((s_br S) i) else (((((rnL S am i).1) i) + am) + ((rnL S am i).2.2.2))), s_cr S, s_sh S, s_ow S, s_pa S, s_cb S, s_pd S, s_fz S, s_dk S, s_dy S, ((rnL S am i).2.1) + am, s_dr S, (rnL S am i).2.2.1)) H := hP
          have hD : va_D A (stT ca h a (s_se S, s_br S, upd ((rnL S am i).1) i (if ((s_br S) i) < (((((rnL S am i).1) i) + am) + ((rnL S am i).2.2.2)) then ((s_br S) i) else (((((rnL S am i).1) i) + am) + ((rnL S am i).2.2.2))), s_cr S, s_sh S, s_ow S, s_pa S, s_cb S, s_pd S, s_fz S, s_dk S, s_dy S, ((rnL S am i).2.1) + am, s_dr S, (rnL S am i).2.2.1)) := hD
          refine lv_iload hx hb dX3_rain_72 (lv_at hl 0 rfl) ?_
          refine lv_aload_n hx hb dX3_rain_74 rfl (lv_at hl 1 rfl) ?_
          refine va_get (D := G) (ci := 3) (v := .ref (a 2)) (C := RX3) (T := TX3) (N := 15) hx hb hts in_wsX30 hown hev.1 hP 0 rfl rfl 2 (by decide) (hts (.fieldLink RX3 18 "PuddleMinistries$Street" "waters" "[I") (List.mem_of_getElem? (i := 3) rfl)) (fun _ h9 => h9) rfl dX3_rain_75 ?_
          refine lv_iload_n hx hb dX3_rain_78 rfl (lv_at hl 4 rfl) ?_
          refine b_iald hx hb hev.1 hP 3 rfl rfl (j := i) (by omega) (by decide) dX3_rain_79 ?_
          refine lv_eqi (upd_at _ _ _) ?_
          refine lv_isub hx hb dX3_rain_80 ?_
          refine lv_istore_n (lv' := [(2, .int ((((((rnL S am i).1) i) + am) + ((rnL S am i).2.2.2)) - (if s_br S i < (rnL S am i).1 i + am + (rnL S am i).2.2.2 then s_br S i else (rnL S am i).1 i + am + (rnL S am i).2.2.2))), (4, .int (((((rnL S am i).1) i) + am) + ((rnL S am i).2.2.2))), (0, .ref h), (1, .int am), (3, .int (nI i))]) hx hb dX3_rain_81 rfl hl (by decide) rfl (fun ls hl => ?_)
          refine lv_iinc (v := nI (i + 1)) (lv' := [(3, .int (nI (i + 1))), (2, .int ((((((rnL S am i).1) i) + am) + ((rnL S am i).2.2.2)) - (if s_br S i < (rnL S am i).1 i + am + (rnL S am i).2.2.2 then s_br S i else (rnL S am i).1 i + am + (rnL S am i).2.2.2))), (4, .int (((((rnL S am i).1) i) + am) + ((rnL S am i).2.2.2))), (0, .ref h), (1, .int am)]) hx hb dX3_rain_82 hl (k := 4) rfl (nI_1 _) (by decide) rfl (fun ls hl => ?_)
          refine lv_goto (tgt := 4) hx hb dX3_rain_85 (by decide) ?_
          exact ih (i + 1) (by omega) _ _ _ (by rw [show ((rnL S am (i + 1)).1) = (upd ((rnL S am i).1) i (if ((s_br S) i) < (((((rnL S am i).1) i) + am) + ((rnL S am i).2.2.2)) then ((s_br S) i) else (((((rnL S am i).1) i) + am) + ((rnL S am i).2.2.2)))) from by first | rw [rnL_z c_3] | rw [rnL_n c_3], show ((rnL S am (i + 1)).2.1) = (((rnL S am i).2.1) + am) from by first | rw [rnL_z c_3] | rw [rnL_n c_3], show ((rnL S am (i + 1)).2.2.1) = ((rnL S am i).2.2.1) from by first | rw [rnL_z c_3] | rw [rnL_n c_3]]; exact hP) (D_of hD stF) hS (by rw [show ((rnL S am (i + 1)).2.2.2) = ((((((rnL S am i).1) i) + am) + ((rnL S am i).2.2.2)) - (if s_br S i < (rnL S am i).1 i + am + (rnL S am i).2.2.2 then s_br S i else (rnL S am i).1 i + am + (rnL S am i).2.2.2)) from by first | rw [rnL_z c_3] | rw [rnL_n c_3]]; exact lv_sub hl [3, 4, 1, 0] rfl)
        · skip
          refine lv_aload_n hx hb dX3_rain_18 rfl (lv_at hl 0 rfl) ?_
          refine lv_dup hx hb dX3_rain_19 rfl ?_
          refine va_get (D := G) (ci := 3) (v := .int ((rnL S am i).2.2.1)) (C := RX3) (T := TX3) (N := 15) hx hb hts in_wsX30 hown hev.1 hP 0 rfl rfl 14 (by decide) (hts (.fieldLink RX3 62 "PuddleMinistries$Street" "drained" "I") (List.mem_of_getElem? (i := 1) rfl)) (fun _ h9 => h9) rfl dX3_rain_20 ?_
          refine lv_iload_n hx hb dX3_rain_23 rfl (lv_at hl 2 rfl) ?_
          refine lv_iadd hx hb dX3_rain_24 ?_
          refine va_put (D := G) (ci := 3) (v := .int (((rnL S am i).2.2.1) + ((rnL S am i).2.2.2))) (ty := .int) (C := RX3) (T := TX3) (N := 15) hx hb hts in_wsX30 tyX3 tyX3_ok nmX3 hown hev.1 hP hD hS 0 rfl rfl 14 (by decide) (hts (.fieldLink RX3 62 "PuddleMinistries$Street" "drained" "I") (List.mem_of_getElem? (i := 1) rfl)) (fun _ h9 => h9) rfl (by decide +kernel) rfl rfl (Nat.le_of_ble_eq_true rfl) dX3_rain_25 (fun H locs hP hD hS => ?_)
          have hP : va_P G vwCl (stT ca h a (s_se S, s_br S, (rnL S am i).1, s_cr S, s_sh S, s_ow S, s_pa S, s_cb S, s_pd S, s_fz S, s_dk S, s_dy S, (rnL S am i).2.1, s_dr S, ((rnL S am i).2.2.1) + ((rnL S am i).2.2.2))) H := hP
          have hD : va_D A (stT ca h a (s_se S, s_br S, (rnL S am i).1, s_cr S, s_sh S, s_ow S, s_pa S, s_cb S, s_pd S, s_fz S, s_dk S, s_dy S, (rnL S am i).2.1, s_dr S, ((rnL S am i).2.2.1) + ((rnL S am i).2.2.2))) := hD
          refine lv_iconst (v := 0) hx hb dX3_rain_28 (by decide) ?_
          refine lv_istore_n (lv' := [(2, .int 0), (0, .ref h), (1, .int am), (3, .int (nI i))]) hx hb dX3_rain_29 rfl hl (by decide) rfl (fun ls hl => ?_)
          refine lv_goto (tgt := 82) hx hb dX3_rain_30 (by decide) ?_
          refine lv_iinc (v := nI (i + 1)) (lv' := [(3, .int (nI (i + 1))), (2, .int 0), (0, .ref h), (1, .int am)]) hx hb dX3_rain_82 hl (k := 3) rfl (nI_1 _) (by decide) rfl (fun ls hl => ?_)
          refine lv_goto (tgt := 4) hx hb dX3_rain_85 (by decide) ?_
          exact ih (i + 1) (by omega) _ _ _ (by rw [show ((rnL S am (i + 1)).1) = ((rnL S am i).1) from by first | rw [rnL_z c_3] | rw [rnL_n c_3], show ((rnL S am (i + 1)).2.1) = ((rnL S am i).2.1) from by first | rw [rnL_z c_3] | rw [rnL_n c_3], show ((rnL S am (i + 1)).2.2.1) = (((rnL S am i).2.2.1) + ((rnL S am i).2.2.2)) from by first | rw [rnL_z c_3] | rw [rnL_n c_3]]; exact hP) (D_of hD stF) hS (by rw [show ((rnL S am (i + 1)).2.2.2) = 0 from by first | rw [rnL_z c_3] | rw [rnL_n c_3]]; exact lv_sub hl [2, 3, 1, 0] rfl)
  exact loop_4 12 0 (by omega) _ _ _ hP (D_of hD stF) hS (lv_sub hl [2, 3, 1, 0] rfl)
set_option maxHeartbeats 4000000 in
set_option maxRecDepth 100000 in
theorem c_X3_shine (l : Launch) (G : va_G) (ca : Nat → ClassId) (h : Nat) (a : Nat → Nat) (S : SS) : CtV l yX3_shine wsX3_shine ({ frames := 2, cells := 0, slots := 0, locals := 42 }) [.ref h] G ca (stT ca h a S) (stT ca h a (s_se S, s_br S, (shL S 12).1, s_cr S, s_sh S, s_ow S, s_pa S, s_cb S, s_pd S, 0, s_dk S, s_dy S, s_fe S, (shL S 12).2, s_dn S)) := by
  refine CtV.ofW (cc := cX3_shine) (maxL := 3) (by decide) rfl (Nat.le_of_ble_eq_true rfl) ?_
  intro pr en s m be me c A ls Q H hx hb hml hts hown hev hP hD hA hS hl hret
  have hown : s.vm.findClass RX3 = some m.cls := hown
  have hl : lv_has ls 3 [(0, .ref h)] := hl
  have in_wsX30 : ∀ w ∈ wsX30, w ∈ wsX3_shine := fun _ h => List.mem_cons_of_mem _ (List.mem_append_right _ h)
  refine lv_iconst (v := nI 0) hx hb dX3_shine_0 (by decide) ?_
  refine lv_istore_n (lv' := [(1, .int (nI 0)), (0, .ref h)]) hx hb dX3_shine_1 rfl hl (by decide) rfl (fun ls hl => ?_)
  have loop_2 : ∀ (n i : Nat), i + n = 12 → ∀ (H : Heap) (locs : List Loc) (ls : Array Slot), va_P G vwCl (stT ca h a (s_se S, s_br S, (shL S i).1, s_cr S, s_sh S, s_ow S, s_pa S, s_cb S, s_pd S, s_fz S, s_dk S, s_dy S, s_fe S, (shL S i).2, s_dn S)) H → va_D A (stT ca h a (s_se S, s_br S, (shL S i).1, s_cr S, s_sh S, s_ow S, s_pa S, s_cb S, s_pd S, s_fz S, s_dk S, s_dy S, s_fe S, (shL S i).2, s_dn S)) → va_S A s.heap H locs → lv_has ls 3 [(0, .ref h), (1, .int (nI i))] → W pr l en ({ frames := 2, cells := 0, slots := 0, locals := 42 } : Room) s m ([.ref h] : List Value).toArray be me c H locs 0 0 Q (F0 m 2 ls []) := by
    intro n
    induction n with
    | zero =>
      intro i hi H locs ls hP hD hS hl
      obtain rfl : i = 12 := by omega
      refine lv_iload_n hx hb dX3_shine_2 rfl (lv_at hl 1 rfl) ?_
      refine lv_bipush (v := nI 12) hx hb dX3_shine_3 (by decide) ?_
      refine lv_icmp_ge (tgt := 61) hx hb dX3_shine_5 (by decide) (fun c_1 => ?_) (fun c_1 => ?_)
      · skip
        refine lv_aload_n hx hb dX3_shine_61 rfl (lv_at hl 0 rfl) ?_
        refine lv_iconst (v := 0) hx hb dX3_shine_62 (by decide) ?_
        refine va_put (D := G) (ci := 3) (v := .int 0) (ty := .int) (C := RX3) (T := TX3) (N := 15) hx hb hts in_wsX30 tyX3 tyX3_ok nmX3 hown hev.1 hP hD hS 0 rfl rfl 9 (by decide) (hts (.fieldLink RX3 46 "PuddleMinistries$Street" "frozenSet" "I") (List.mem_of_getElem? (i := 8) rfl)) (fun _ h9 => h9) rfl (by decide +kernel) rfl rfl (Nat.le_of_ble_eq_true rfl) dX3_shine_63 (fun H locs hP hD hS => ?_)
        have hP : va_P G vwCl (stT ca h a (s_se S, s_br S, (shL S 12).1, s_cr S, s_sh S, s_ow S, s_pa S, s_cb S, s_pd S, 0, s_dk S, s_dy S, s_fe S, (shL S 12).2, s_dn S)) H := hP
        have hD : va_D A (stT ca h a (s_se S, s_br S, (shL S 12).1, s_cr S, s_sh S, s_ow S, s_pa S, s_cb S, s_pd S, 0, s_dk S, s_dy S, s_fe S, (shL S 12).2, s_dn S)) := hD
        exact hret _ _ _ _ hP hS dX3_shine_66
      · skip
        exact absurd (nI_le (by omega) (by omega)) c_1
    | succ n ih =>
      intro i hi H locs ls hP hD hS hl
      have hlt : i < 12 := by omega
      refine lv_iload_n hx hb dX3_shine_2 rfl (lv_at hl 1 rfl) ?_
      refine lv_bipush (v := nI 12) hx hb dX3_shine_3 (by decide) ?_
      refine lv_icmp_ge (tgt := 61) hx hb dX3_shine_5 (by decide) (fun c_2 => ?_) (fun c_2 => ?_)
      · skip
        exact absurd c_2 (nI_ge (by omega) (by omega))
      · skip
        refine lv_aload_n hx hb dX3_shine_8 rfl (lv_at hl 0 rfl) ?_
        refine lv_iload_n hx hb dX3_shine_9 rfl (lv_at hl 1 rfl) ?_
        refine goIw (va_runV (As := [.int (nI i)]) (rest := []) ⟨hx, hb, hml, hown, hts⟩ (CtI.use (c_X3_isFrozen l G ca h a (s_se S, s_br S, (shL S i).1, s_cr S, s_sh S, s_ow S, s_pa S, s_cb S, s_pd S, s_fz S, s_dk S, s_dy S, s_fe S, (shL S i).2, s_dn S) i) H.size) (cwV 1 hts gX3_shine_X3_isFrozen rfl rfl rfl (by decide +kernel) ⟨Nat.le_of_ble_eq_true rfl, Nat.le_of_ble_eq_true rfl⟩) (pcW_V hev hP hD (q0 := 0) rfl rfl rfl) rfl rfl hl.1 rfl (lv_room (Nat.le_of_ble_eq_true rfl)) dX3_shine_10 ⟨Nat.zero_le _, Nat.zero_le _⟩) hD hS hA stF (fun H locs hP hD hS => ?_)
        refine lv_eqi (y := bt1 (s_fz S) i) rfl ?_
        refine lv_if_eq (tgt := 19) hx hb dX3_shine_13 (by decide) (fun c_3 => ?_) (fun c_3 => ?_)
        · skip
          refine lv_aload_n hx hb dX3_shine_19 rfl (lv_at hl 0 rfl) ?_
          refine va_get (D := G) (ci := 3) (v := .ref (a 2)) (C := RX3) (T := TX3) (N := 15) hx hb hts in_wsX30 hown hev.1 hP 0 rfl rfl 2 (by decide) (hts (.fieldLink RX3 18 "PuddleMinistries$Street" "waters" "[I") (List.mem_of_getElem? (i := 1) rfl)) (fun _ h9 => h9) rfl dX3_shine_20 ?_
          refine lv_iload_n hx hb dX3_shine_23 rfl (lv_at hl 1 rfl) ?_
          refine b_iald hx hb hev.1 hP 3 rfl rfl (j := i) (by omega) (by decide) dX3_shine_24 ?_
          refine lv_aload_n hx hb dX3_shine_25 rfl (lv_at hl 0 rfl) ?_
          refine va_get (D := G) (ci := 3) (v := .ref (a 0)) (C := RX3) (T := TX3) (N := 15) hx hb hts in_wsX30 hown hev.1 hP 0 rfl rfl 0 (by decide) (hts (.fieldLink RX3 9 "PuddleMinistries$Street" "settings" "[I") (List.mem_of_getElem? (i := 2) rfl)) (fun _ h9 => h9) rfl dX3_shine_26 ?_
          refine lv_iconst (v := nI 1) hx hb dX3_shine_29 (by decide) ?_
          refine b_iald hx hb hev.1 hP 1 rfl rfl (j := 1) (by omega) (by decide) dX3_shine_30 ?_
          refine va_mmin hx hb (hml.trans hl.1.symm) hown (hts (.methodLink RX3 86 Lib.Math.min.name) (List.mem_of_getElem? (i := 3) rfl)) (hts (.static Lib.Math.min.name) (List.mem_of_getElem? (i := 4) rfl)) (hts (.initialized "java/lang/Math") (List.mem_of_getElem? (i := 5) rfl)) (hts (.code Lib.Math.min.name Lib.Math.min.code 2 (some .int)) (List.mem_of_getElem? (i := 6) rfl)) (Nat.le_of_ble_eq_true rfl) (Nat.le_of_ble_eq_true rfl) (Nat.zero_le _) (Nat.zero_le _) dX3_shine_31 ?_
          refine lv_istore_n (lv' := [(2, .int (if ((s_se S) 1) < (((shL S i).1) i) then ((s_se S) 1) else (((shL S i).1) i))), (0, .ref h), (1, .int (nI i))]) hx hb dX3_shine_34 rfl hl (by decide) rfl (fun ls hl => ?_)
          refine lv_aload_n hx hb dX3_shine_35 rfl (lv_at hl 1 rfl) ?_
          refine va_get (D := G) (ci := 3) (v := .ref (a 2)) (C := RX3) (T := TX3) (N := 15) hx hb hts in_wsX30 hown hev.1 hP 0 rfl rfl 2 (by decide) (hts (.fieldLink RX3 18 "PuddleMinistries$Street" "waters" "[I") (List.mem_of_getElem? (i := 1) rfl)) (fun _ h9 => h9) rfl dX3_shine_36 ?_
          refine lv_iload_n hx hb dX3_shine_39 rfl (lv_at hl 2 rfl) ?_
          refine lv_dup2_11 hx hb dX3_shine_40 rfl rfl ?_
          refine b_iald hx hb hev.1 hP 3 rfl rfl (j := i) (by omega) (by decide) dX3_shine_41 ?_
          refine lv_iload_n hx hb dX3_shine_42 rfl (lv_at hl 0 rfl) ?_
          refine lv_isub hx hb dX3_shine_43 ?_
          refine b_iast hx hb hev.1 hP hD hS 3 rfl rfl (j := i) (by omega) (by decide) dX3_shine_44 (fun H locs hP hD hS => ?_)
          have hP : va_P G vwCl (stT ca h a (s_se S, s_br S, upd ((shL S i).1) i ((((shL S i).1) i) - (if ((s_se S) 1) < (((shL S i).1) i) then ((s_se S) 1) else (((shL S i).1) i))), s_cr S, s_sh S, s_ow S, s_pa S, s_cb S, s_pd S, s_fz S, s_dk S, s_dy S, s_fe S, (shL S i).2, s_dn S)) H := hP
          have hD : va_D A (stT ca h a (s_se S, s_br S, upd ((shL S i).1) i ((((shL S i).1) i) - (if ((s_se S) 1) < (((shL S i).1) i) then ((s_se S) 1) else (((shL S i).1) i))), s_cr S, s_sh S, s_ow S, s_pa S, s_cb S, s_pd S, s_fz S, s_dk S, s_dy S, s_fe S, (shL S i).2, s_dn S)) := hD
          refine lv_aload_n hx hb dX3_shine_45 rfl (lv_at hl 1 rfl) ?_
          refine lv_dup hx hb dX3_shine_46 rfl ?_
          refine va_get (D := G) (ci := 3) (v := .int ((shL S i).2)) (C := RX3) (T := TX3) (N := 15) hx hb hts in_wsX30 hown hev.1 hP 0 rfl rfl 13 (by decide) (hts (.fieldLink RX3 59 "PuddleMinistries$Street" "dried" "I") (List.mem_of_getElem? (i := 7) rfl)) (fun _ h9 => h9) rfl dX3_shine_47 ?_
          refine lv_iload_n hx hb dX3_shine_50 rfl (lv_at hl 0 rfl) ?_
          refine lv_iadd hx hb dX3_shine_51 ?_
          refine va_put (D := G) (ci := 3) (v := .int (((shL S i).2) + (if ((s_se S) 1) < (((shL S i).1) i) then ((s_se S) 1) else (((shL S i).1) i)))) (ty := .int) (C := RX3) (T := TX3) (N := 15) hx hb hts in_wsX30 tyX3 tyX3_ok nmX3 hown hev.1 hP hD hS 0 rfl rfl 13 (by decide) (hts (.fieldLink RX3 59 "PuddleMinistries$Street" "dried" "I") (List.mem_of_getElem? (i := 7) rfl)) (fun _ h9 => h9) rfl (by decide +kernel) rfl rfl (Nat.le_of_ble_eq_true rfl) dX3_shine_52 (fun H locs hP hD hS => ?_)
          have hP : va_P G vwCl (stT ca h a (s_se S, s_br S, upd ((shL S i).1) i ((((shL S i).1) i) - (if ((s_se S) 1) < (((shL S i).1) i) then ((s_se S) 1) else (((shL S i).1) i))), s_cr S, s_sh S, s_ow S, s_pa S, s_cb S, s_pd S, s_fz S, s_dk S, s_dy S, s_fe S, ((shL S i).2) + (if ((s_se S) 1) < (((shL S i).1) i) then ((s_se S) 1) else (((shL S i).1) i)), s_dn S)) H := hP
          have hD : va_D A (stT ca h a (s_se S, s_br S, upd ((shL S i).1) i ((((shL S i).1) i) - (if ((s_se S) 1) < (((shL S i).1) i) then ((s_se S) 1) else (((shL S i).1) i))), s_cr S, s_sh S, s_ow S, s_pa S, s_cb S, s_pd S, s_fz S, s_dk S, s_dy S, s_fe S, ((shL S i).2) + (if ((s_se S) 1) < (((shL S i).1) i) then ((s_se S) 1) else (((shL S i).1) i)), s_dn S)) := hD
          refine lv_iinc (v := nI (i + 1)) (lv' := [(1, .int (nI (i + 1))), (2, .int (if ((s_se S) 1) < (((shL S i).1) i) then ((s_se S) 1) else (((shL S i).1) i))), (0, .ref h)]) hx hb dX3_shine_55 hl (k := 2) rfl (nI_1 _) (by decide) rfl (fun ls hl => ?_)
          refine lv_goto (tgt := 2) hx hb dX3_shine_58 (by decide) ?_
          exact ih (i + 1) (by omega) _ _ _ (by rw [show ((shL S (i + 1)).1) = (upd ((shL S i).1) i ((((shL S i).1) i) - (if ((s_se S) 1) < (((shL S i).1) i) then ((s_se S) 1) else (((shL S i).1) i)))) from by first | rw [shL_z c_3] | rw [shL_n c_3], show ((shL S (i + 1)).2) = (((shL S i).2) + (if ((s_se S) 1) < (((shL S i).1) i) then ((s_se S) 1) else (((shL S i).1) i))) from by first | rw [shL_z c_3] | rw [shL_n c_3]]; exact hP) (D_of hD stF) hS (lv_sub hl [2, 0] rfl)
        · skip
          refine lv_goto (tgt := 55) hx hb dX3_shine_16 (by decide) ?_
          refine lv_iinc (v := nI (i + 1)) (lv' := [(1, .int (nI (i + 1))), (0, .ref h)]) hx hb dX3_shine_55 hl (k := 1) rfl (nI_1 _) (by decide) rfl (fun ls hl => ?_)
          refine lv_goto (tgt := 2) hx hb dX3_shine_58 (by decide) ?_
          exact ih (i + 1) (by omega) _ _ _ (by rw [show ((shL S (i + 1)).1) = ((shL S i).1) from by first | rw [shL_z c_3] | rw [shL_n c_3], show ((shL S (i + 1)).2) = ((shL S i).2) from by first | rw [shL_z c_3] | rw [shL_n c_3]]; exact hP) (D_of hD stF) hS (lv_sub hl [1, 0] rfl)
  exact loop_2 12 0 (by omega) _ _ _ hP (D_of hD stF) hS (lv_sub hl [1, 0] rfl)
set_option maxHeartbeats 4000000 in
set_option maxRecDepth 100000 in
theorem c_X3_freeze (l : Launch) (G : va_G) (ca : Nat → ClassId) (h : Nat) (a : Nat → Nat) (S : SS) : CtV l yX3_freeze wsX3_freeze ({ frames := 1, cells := 0, slots := 0, locals := 21 }) [.ref h] G ca (stT ca h a S) (stT ca h a (s_se S, s_br S, s_wa S, s_cr S, s_sh S, s_ow S, s_pa S, s_cb S, s_pd S, frL S 12, s_dk S, s_dy S, s_fe S, s_dr S, s_dn S)) := by
  refine CtV.ofW (cc := cX3_freeze) (maxL := 2) (by decide) rfl (Nat.le_of_ble_eq_true rfl) ?_
  intro pr en s m be me c A ls Q H hx hb hml hts hown hev hP hD hA hS hl hret
  have hown : s.vm.findClass RX3 = some m.cls := hown
  have hl : lv_has ls 2 [(0, .ref h)] := hl
  have in_wsX30 : ∀ w ∈ wsX30, w ∈ wsX3_freeze := fun _ h => List.mem_cons_of_mem _ (List.mem_append_right _ h)
  refine lv_iconst (v := nI 0) hx hb dX3_freeze_0 (by decide) ?_
  refine lv_istore_n (lv' := [(1, .int (nI 0)), (0, .ref h)]) hx hb dX3_freeze_1 rfl hl (by decide) rfl (fun ls hl => ?_)
  have loop_2 : ∀ (n i : Nat), i + n = 12 → ∀ (H : Heap) (locs : List Loc) (ls : Array Slot), va_P G vwCl (stT ca h a (s_se S, s_br S, s_wa S, s_cr S, s_sh S, s_ow S, s_pa S, s_cb S, s_pd S, frL S i, s_dk S, s_dy S, s_fe S, s_dr S, s_dn S)) H → va_D A (stT ca h a (s_se S, s_br S, s_wa S, s_cr S, s_sh S, s_ow S, s_pa S, s_cb S, s_pd S, frL S i, s_dk S, s_dy S, s_fe S, s_dr S, s_dn S)) → va_S A s.heap H locs → lv_has ls 2 [(0, .ref h), (1, .int (nI i))] → W pr l en ({ frames := 1, cells := 0, slots := 0, locals := 21 } : Room) s m ([.ref h] : List Value).toArray be me c H locs 0 0 Q (F0 m 2 ls []) := by
    intro n
    induction n with
    | zero =>
      intro i hi H locs ls hP hD hS hl
      obtain rfl : i = 12 := by omega
      refine lv_iload_n hx hb dX3_freeze_2 rfl (lv_at hl 1 rfl) ?_
      refine lv_bipush (v := nI 12) hx hb dX3_freeze_3 (by decide) ?_
      refine lv_icmp_ge (tgt := 35) hx hb dX3_freeze_5 (by decide) (fun c_1 => ?_) (fun c_1 => ?_)
      · skip
        exact hret _ _ _ _ hP hS dX3_freeze_35
      · skip
        exact absurd (nI_le (by omega) (by omega)) c_1
    | succ n ih =>
      intro i hi H locs ls hP hD hS hl
      have hlt : i < 12 := by omega
      refine lv_iload_n hx hb dX3_freeze_2 rfl (lv_at hl 1 rfl) ?_
      refine lv_bipush (v := nI 12) hx hb dX3_freeze_3 (by decide) ?_
      refine lv_icmp_ge (tgt := 35) hx hb dX3_freeze_5 (by decide) (fun c_2 => ?_) (fun c_2 => ?_)
      · skip
        exact absurd c_2 (nI_ge (by omega) (by omega))
      · skip
        refine lv_aload_n hx hb dX3_freeze_8 rfl (lv_at hl 0 rfl) ?_
        refine lv_iload_n hx hb dX3_freeze_9 rfl (lv_at hl 1 rfl) ?_
        refine goIw (va_runV (As := [.int (nI i)]) (rest := []) ⟨hx, hb, hml, hown, hts⟩ (CtI.use (c_X3_depth l G ca h a (s_se S, s_br S, s_wa S, s_cr S, s_sh S, s_ow S, s_pa S, s_cb S, s_pd S, frL S i, s_dk S, s_dy S, s_fe S, s_dr S, s_dn S) i (by omega)) H.size) (cwV 1 hts gX3_freeze_X3_depth rfl rfl rfl (by decide +kernel) ⟨Nat.le_of_ble_eq_true rfl, Nat.le_of_ble_eq_true rfl⟩) (pcW_V hev hP hD (q0 := 0) rfl rfl rfl) rfl rfl hl.1 rfl (lv_room (Nat.le_of_ble_eq_true rfl)) dX3_freeze_10 ⟨Nat.zero_le _, Nat.zero_le _⟩) hD hS hA stF (fun H locs hP hD hS => ?_)
        refine lv_eqi (y := (s_wa S) i / 5) rfl ?_
        refine lv_iconst (v := 4) hx hb dX3_freeze_13 (by decide) ?_
        refine lv_icmp_ge (tgt := 29) hx hb dX3_freeze_14 (by decide) (fun c_3 => ?_) (fun c_3 => ?_)
        · skip
          refine lv_iinc (v := nI (i + 1)) (lv' := [(1, .int (nI (i + 1))), (0, .ref h)]) hx hb dX3_freeze_29 hl (k := 1) rfl (nI_1 _) (by decide) rfl (fun ls hl => ?_)
          refine lv_goto (tgt := 2) hx hb dX3_freeze_32 (by decide) ?_
          exact ih (i + 1) (by omega) _ _ _ (by rw [show (frL S (i + 1)) = (frL S i) from by rw [frL_s, if_pos c_3]]; exact hP) (D_of hD stF) hS (lv_sub hl [1, 0] rfl)
        · skip
          refine lv_aload_n hx hb dX3_freeze_17 rfl (lv_at hl 0 rfl) ?_
          refine lv_dup hx hb dX3_freeze_18 rfl ?_
          refine va_get (D := G) (ci := 3) (v := .int (frL S i)) (C := RX3) (T := TX3) (N := 15) hx hb hts in_wsX30 hown hev.1 hP 0 rfl rfl 9 (by decide) (hts (.fieldLink RX3 46 "PuddleMinistries$Street" "frozenSet" "I") (List.mem_of_getElem? (i := 1) rfl)) (fun _ h9 => h9) rfl dX3_freeze_19 ?_
          refine lv_iconst (v := 1) hx hb dX3_freeze_22 (by decide) ?_
          refine lv_iload_n hx hb dX3_freeze_23 rfl (lv_at hl 1 rfl) ?_
          refine lv_ishl hx hb dX3_freeze_24 ?_
          refine lv_ior hx hb dX3_freeze_25 ?_
          refine va_put (D := G) (ci := 3) (v := .int ((frL S i) ||| (1 <<< ((nI i) &&& 31)))) (ty := .int) (C := RX3) (T := TX3) (N := 15) hx hb hts in_wsX30 tyX3 tyX3_ok nmX3 hown hev.1 hP hD hS 0 rfl rfl 9 (by decide) (hts (.fieldLink RX3 46 "PuddleMinistries$Street" "frozenSet" "I") (List.mem_of_getElem? (i := 1) rfl)) (fun _ h9 => h9) rfl (by decide +kernel) rfl rfl (Nat.le_of_ble_eq_true rfl) dX3_freeze_26 (fun H locs hP hD hS => ?_)
          have hP : va_P G vwCl (stT ca h a (s_se S, s_br S, s_wa S, s_cr S, s_sh S, s_ow S, s_pa S, s_cb S, s_pd S, (frL S i) ||| (1 <<< ((nI i) &&& 31)), s_dk S, s_dy S, s_fe S, s_dr S, s_dn S)) H := hP
          have hD : va_D A (stT ca h a (s_se S, s_br S, s_wa S, s_cr S, s_sh S, s_ow S, s_pa S, s_cb S, s_pd S, (frL S i) ||| (1 <<< ((nI i) &&& 31)), s_dk S, s_dy S, s_fe S, s_dr S, s_dn S)) := hD
          refine lv_iinc (v := nI (i + 1)) (lv' := [(1, .int (nI (i + 1))), (0, .ref h)]) hx hb dX3_freeze_29 hl (k := 1) rfl (nI_1 _) (by decide) rfl (fun ls hl => ?_)
          refine lv_goto (tgt := 2) hx hb dX3_freeze_32 (by decide) ?_
          exact ih (i + 1) (by omega) _ _ _ (by rw [show (frL S (i + 1)) = ((frL S i) ||| (1 <<< ((nI i) &&& 31))) from by rw [frL_s, if_neg c_3]]; exact hP) (D_of hD stF) hS (lv_sub hl [1, 0] rfl)
  exact loop_2 12 0 (by omega) _ _ _ hP (D_of hD stF) hS (lv_sub hl [1, 0] rfl)
set_option maxHeartbeats 4000000 in
set_option maxRecDepth 100000 in
theorem c_X3_endDay (l : Launch) (G : va_G) (ca : Nat → ClassId) (h : Nat) (a : Nat → Nat) (S : SS) : CtV l yX3_endDay wsX3_endDay ({ frames := 2, cells := 0, slots := 0, locals := 44 }) [.ref h] G ca (stT ca h a S) (stT ca h a (s_se S, s_br S, s_wa S, s_cr S, s_sh S, s_ow S, s_pa S, s_cb S, (edL S 12).2, s_fz S, (edL S 12).1, s_dy S + 1, s_fe S, s_dr S, s_dn S)) := by
  refine CtV.ofW (cc := cX3_endDay) (maxL := 2) (by decide) rfl (Nat.le_of_ble_eq_true rfl) ?_
  intro pr en s m be me c A ls Q H hx hb hml hts hown hev hP hD hA hS hl hret
  have hown : s.vm.findClass RX3 = some m.cls := hown
  have hl : lv_has ls 2 [(0, .ref h)] := hl
  have in_wsX30 : ∀ w ∈ wsX30, w ∈ wsX3_endDay := fun _ h => List.mem_cons_of_mem _ (List.mem_append_right _ h)
  refine lv_aload_n hx hb dX3_endDay_0 rfl (lv_at hl 0 rfl) ?_
  refine lv_iconst (v := 0) hx hb dX3_endDay_1 (by decide) ?_
  refine va_put (D := G) (ci := 3) (v := .int 0) (ty := .int) (C := RX3) (T := TX3) (N := 15) hx hb hts in_wsX30 tyX3 tyX3_ok nmX3 hown hev.1 hP hD hS 0 rfl rfl 10 (by decide) (hts (.fieldLink RX3 50 "PuddleMinistries$Street" "ducksSet" "I") (List.mem_of_getElem? (i := 1) rfl)) (fun _ h9 => h9) rfl (by decide +kernel) rfl rfl (Nat.le_of_ble_eq_true rfl) dX3_endDay_2 (fun H locs hP hD hS => ?_)
  have hP : va_P G vwCl (stT ca h a (s_se S, s_br S, s_wa S, s_cr S, s_sh S, s_ow S, s_pa S, s_cb S, s_pd S, s_fz S, 0, s_dy S, s_fe S, s_dr S, s_dn S)) H := hP
  have hD : va_D A (stT ca h a (s_se S, s_br S, s_wa S, s_cr S, s_sh S, s_ow S, s_pa S, s_cb S, s_pd S, s_fz S, 0, s_dy S, s_fe S, s_dr S, s_dn S)) := hD
  refine lv_iconst (v := nI 0) hx hb dX3_endDay_5 (by decide) ?_
  refine lv_istore_n (lv' := [(1, .int (nI 0)), (0, .ref h)]) hx hb dX3_endDay_6 rfl hl (by decide) rfl (fun ls hl => ?_)
  have loop_7 : ∀ (n i : Nat), i + n = 12 → ∀ (H : Heap) (locs : List Loc) (ls : Array Slot), va_P G vwCl (stT ca h a (s_se S, s_br S, s_wa S, s_cr S, s_sh S, s_ow S, s_pa S, s_cb S, (edL S i).2, s_fz S, (edL S i).1, s_dy S, s_fe S, s_dr S, s_dn S)) H → va_D A (stT ca h a (s_se S, s_br S, s_wa S, s_cr S, s_sh S, s_ow S, s_pa S, s_cb S, (edL S i).2, s_fz S, (edL S i).1, s_dy S, s_fe S, s_dr S, s_dn S)) → va_S A s.heap H locs → lv_has ls 2 [(0, .ref h), (1, .int (nI i))] → W pr l en ({ frames := 2, cells := 0, slots := 0, locals := 44 } : Room) s m ([.ref h] : List Value).toArray be me c H locs 0 0 Q (F0 m 7 ls []) := by
    intro n
    induction n with
    | zero =>
      intro i hi H locs ls hP hD hS hl
      obtain rfl : i = 12 := by omega
      refine lv_iload_n hx hb dX3_endDay_7 rfl (lv_at hl 1 rfl) ?_
      refine lv_bipush (v := nI 12) hx hb dX3_endDay_8 (by decide) ?_
      refine lv_icmp_ge (tgt := 62) hx hb dX3_endDay_10 (by decide) (fun c_1 => ?_) (fun c_1 => ?_)
      · skip
        refine lv_aload_n hx hb dX3_endDay_62 rfl (lv_at hl 0 rfl) ?_
        refine lv_dup hx hb dX3_endDay_63 rfl ?_
        refine va_get (D := G) (ci := 3) (v := .int (s_dy S)) (C := RX3) (T := TX3) (N := 15) hx hb hts in_wsX30 hown hev.1 hP 0 rfl rfl 11 (by decide) (hts (.fieldLink RX3 53 "PuddleMinistries$Street" "days" "I") (List.mem_of_getElem? (i := 4) rfl)) (fun _ h9 => h9) rfl dX3_endDay_64 ?_
        refine lv_iconst (v := 1) hx hb dX3_endDay_67 (by decide) ?_
        refine lv_iadd hx hb dX3_endDay_68 ?_
        refine va_put (D := G) (ci := 3) (v := .int ((s_dy S) + 1)) (ty := .int) (C := RX3) (T := TX3) (N := 15) hx hb hts in_wsX30 tyX3 tyX3_ok nmX3 hown hev.1 hP hD hS 0 rfl rfl 11 (by decide) (hts (.fieldLink RX3 53 "PuddleMinistries$Street" "days" "I") (List.mem_of_getElem? (i := 4) rfl)) (fun _ h9 => h9) rfl (by decide +kernel) rfl rfl (Nat.le_of_ble_eq_true rfl) dX3_endDay_69 (fun H locs hP hD hS => ?_)
        have hP : va_P G vwCl (stT ca h a (s_se S, s_br S, s_wa S, s_cr S, s_sh S, s_ow S, s_pa S, s_cb S, (edL S 12).2, s_fz S, (edL S 12).1, (s_dy S) + 1, s_fe S, s_dr S, s_dn S)) H := hP
        have hD : va_D A (stT ca h a (s_se S, s_br S, s_wa S, s_cr S, s_sh S, s_ow S, s_pa S, s_cb S, (edL S 12).2, s_fz S, (edL S 12).1, (s_dy S) + 1, s_fe S, s_dr S, s_dn S)) := hD
        exact hret _ _ _ _ hP hS dX3_endDay_72
      · skip
        exact absurd (nI_le (by omega) (by omega)) c_1
    | succ n ih =>
      intro i hi H locs ls hP hD hS hl
      have hlt : i < 12 := by omega
      refine lv_iload_n hx hb dX3_endDay_7 rfl (lv_at hl 1 rfl) ?_
      refine lv_bipush (v := nI 12) hx hb dX3_endDay_8 (by decide) ?_
      refine lv_icmp_ge (tgt := 62) hx hb dX3_endDay_10 (by decide) (fun c_2 => ?_) (fun c_2 => ?_)
      · skip
        exact absurd c_2 (nI_ge (by omega) (by omega))
      · skip
        refine lv_aload_n hx hb dX3_endDay_13 rfl (lv_at hl 0 rfl) ?_
        refine lv_iload_n hx hb dX3_endDay_14 rfl (lv_at hl 1 rfl) ?_
        refine goIw (va_runV (As := [.int (nI i)]) (rest := []) ⟨hx, hb, hml, hown, hts⟩ (CtI.use (c_X3_isFrozen l G ca h a (s_se S, s_br S, s_wa S, s_cr S, s_sh S, s_ow S, s_pa S, s_cb S, (edL S i).2, s_fz S, (edL S i).1, s_dy S, s_fe S, s_dr S, s_dn S) i) H.size) (cwV 1 hts gX3_endDay_X3_isFrozen rfl rfl rfl (by decide +kernel) ⟨Nat.le_of_ble_eq_true rfl, Nat.le_of_ble_eq_true rfl⟩) (pcW_V hev hP hD (q0 := 0) rfl rfl rfl) rfl rfl hl.1 rfl (lv_room (Nat.le_of_ble_eq_true rfl)) dX3_endDay_15 ⟨Nat.zero_le _, Nat.zero_le _⟩) hD hS hA stF (fun H locs hP hD hS => ?_)
        refine lv_eqi (y := bt1 (s_fz S) i) rfl ?_
        refine lv_if_eq (tgt := 24) hx hb dX3_endDay_18 (by decide) (fun c_3 => ?_) (fun c_3 => ?_)
        · skip
          refine lv_aload_n hx hb dX3_endDay_24 rfl (lv_at hl 0 rfl) ?_
          refine va_get (D := G) (ci := 3) (v := .ref (a 2)) (C := RX3) (T := TX3) (N := 15) hx hb hts in_wsX30 hown hev.1 hP 0 rfl rfl 2 (by decide) (hts (.fieldLink RX3 18 "PuddleMinistries$Street" "waters" "[I") (List.mem_of_getElem? (i := 2) rfl)) (fun _ h9 => h9) rfl dX3_endDay_25 ?_
          refine lv_iload_n hx hb dX3_endDay_28 rfl (lv_at hl 1 rfl) ?_
          refine b_iald hx hb hev.1 hP 3 rfl rfl (j := i) (by omega) (by decide) dX3_endDay_29 ?_
          refine lv_aload_n hx hb dX3_endDay_30 rfl (lv_at hl 0 rfl) ?_
          refine va_get (D := G) (ci := 3) (v := .ref (a 0)) (C := RX3) (T := TX3) (N := 15) hx hb hts in_wsX30 hown hev.1 hP 0 rfl rfl 0 (by decide) (hts (.fieldLink RX3 9 "PuddleMinistries$Street" "settings" "[I") (List.mem_of_getElem? (i := 3) rfl)) (fun _ h9 => h9) rfl dX3_endDay_31 ?_
          refine lv_iconst (v := nI 2) hx hb dX3_endDay_34 (by decide) ?_
          refine b_iald hx hb hev.1 hP 1 rfl rfl (j := 2) (by omega) (by decide) dX3_endDay_35 ?_
          refine lv_icmp_lt (tgt := 51) hx hb dX3_endDay_36 (by decide) (fun c_4 => ?_) (fun c_4 => ?_)
          · skip
            refine lv_aload_n hx hb dX3_endDay_51 rfl (lv_at hl 0 rfl) ?_
            refine lv_iload_n hx hb dX3_endDay_52 rfl (lv_at hl 1 rfl) ?_
            refine goVw (va_runV (As := [.int (nI i)]) (rest := []) ⟨hx, hb, hml, hown, hts⟩ (CtV.use (c_X3_agePermitsAt l G ca h a (s_se S, s_br S, s_wa S, s_cr S, s_sh S, s_ow S, s_pa S, s_cb S, (edL S i).2, s_fz S, (edL S i).1, s_dy S, s_fe S, s_dr S, s_dn S) i (by omega)) H.size) (cwV 1 hts gX3_endDay_X3_agePermitsAt rfl rfl rfl (by decide +kernel) ⟨Nat.le_of_ble_eq_true rfl, Nat.le_of_ble_eq_true rfl⟩) (pcW_V hev hP hD (q0 := 0) rfl rfl rfl) rfl rfl hl.1 rfl (lv_room (Nat.le_of_ble_eq_true rfl)) dX3_endDay_53 ⟨Nat.zero_le _, Nat.zero_le _⟩) hD hS hA stF (fun H locs hP hD hS => ?_)
            refine lv_iinc (v := nI (i + 1)) (lv' := [(1, .int (nI (i + 1))), (0, .ref h)]) hx hb dX3_endDay_56 hl (k := 1) rfl (nI_1 _) (by decide) rfl (fun ls hl => ?_)
            refine lv_goto (tgt := 7) hx hb dX3_endDay_59 (by decide) ?_
            exact ih (i + 1) (by omega) _ _ _ (by rw [show ((edL S (i + 1)).2) = (agL (((edL S i).2)) i 6) from by rw [edL_s, if_pos c_3, if_pos c_4], show ((edL S (i + 1)).1) = ((edL S i).1) from by rw [edL_s, if_pos c_3, if_pos c_4]]; exact hP) (D_of hD stF) hS (lv_sub hl [1, 0] rfl)
          · skip
            refine lv_aload_n hx hb dX3_endDay_39 rfl (lv_at hl 0 rfl) ?_
            refine lv_dup hx hb dX3_endDay_40 rfl ?_
            refine va_get (D := G) (ci := 3) (v := .int ((edL S i).1)) (C := RX3) (T := TX3) (N := 15) hx hb hts in_wsX30 hown hev.1 hP 0 rfl rfl 10 (by decide) (hts (.fieldLink RX3 50 "PuddleMinistries$Street" "ducksSet" "I") (List.mem_of_getElem? (i := 1) rfl)) (fun _ h9 => h9) rfl dX3_endDay_41 ?_
            refine lv_iconst (v := 1) hx hb dX3_endDay_44 (by decide) ?_
            refine lv_iload_n hx hb dX3_endDay_45 rfl (lv_at hl 1 rfl) ?_
            refine lv_ishl hx hb dX3_endDay_46 ?_
            refine lv_ior hx hb dX3_endDay_47 ?_
            refine va_put (D := G) (ci := 3) (v := .int (((edL S i).1) ||| (1 <<< ((nI i) &&& 31)))) (ty := .int) (C := RX3) (T := TX3) (N := 15) hx hb hts in_wsX30 tyX3 tyX3_ok nmX3 hown hev.1 hP hD hS 0 rfl rfl 10 (by decide) (hts (.fieldLink RX3 50 "PuddleMinistries$Street" "ducksSet" "I") (List.mem_of_getElem? (i := 1) rfl)) (fun _ h9 => h9) rfl (by decide +kernel) rfl rfl (Nat.le_of_ble_eq_true rfl) dX3_endDay_48 (fun H locs hP hD hS => ?_)
            have hP : va_P G vwCl (stT ca h a (s_se S, s_br S, s_wa S, s_cr S, s_sh S, s_ow S, s_pa S, s_cb S, (edL S i).2, s_fz S, ((edL S i).1) ||| (1 <<< ((nI i) &&& 31)), s_dy S, s_fe S, s_dr S, s_dn S)) H := hP
            have hD : va_D A (stT ca h a (s_se S, s_br S, s_wa S, s_cr S, s_sh S, s_ow S, s_pa S, s_cb S, (edL S i).2, s_fz S, ((edL S i).1) ||| (1 <<< ((nI i) &&& 31)), s_dy S, s_fe S, s_dr S, s_dn S)) := hD
            refine lv_aload_n hx hb dX3_endDay_51 rfl (lv_at hl 0 rfl) ?_
            refine lv_iload_n hx hb dX3_endDay_52 rfl (lv_at hl 1 rfl) ?_
            refine goVw (va_runV (As := [.int (nI i)]) (rest := []) ⟨hx, hb, hml, hown, hts⟩ (CtV.use (c_X3_agePermitsAt l G ca h a (s_se S, s_br S, s_wa S, s_cr S, s_sh S, s_ow S, s_pa S, s_cb S, (edL S i).2, s_fz S, ((edL S i).1) ||| (1 <<< ((nI i) &&& 31)), s_dy S, s_fe S, s_dr S, s_dn S) i (by omega)) H.size) (cwV 1 hts gX3_endDay_X3_agePermitsAt rfl rfl rfl (by decide +kernel) ⟨Nat.le_of_ble_eq_true rfl, Nat.le_of_ble_eq_true rfl⟩) (pcW_V hev hP hD (q0 := 0) rfl rfl rfl) rfl rfl hl.1 rfl (lv_room (Nat.le_of_ble_eq_true rfl)) dX3_endDay_53 ⟨Nat.zero_le _, Nat.zero_le _⟩) hD hS hA stF (fun H locs hP hD hS => ?_)
            refine lv_iinc (v := nI (i + 1)) (lv' := [(1, .int (nI (i + 1))), (0, .ref h)]) hx hb dX3_endDay_56 hl (k := 1) rfl (nI_1 _) (by decide) rfl (fun ls hl => ?_)
            refine lv_goto (tgt := 7) hx hb dX3_endDay_59 (by decide) ?_
            exact ih (i + 1) (by omega) _ _ _ (by rw [show ((edL S (i + 1)).2) = (agL (((edL S i).2)) i 6) from by rw [edL_s, if_pos c_3, if_neg c_4], show ((edL S (i + 1)).1) = (((edL S i).1) ||| (1 <<< ((nI i) &&& 31))) from by rw [edL_s, if_pos c_3, if_neg c_4]]; exact hP) (D_of hD stF) hS (lv_sub hl [1, 0] rfl)
        · skip
          refine lv_goto (tgt := 56) hx hb dX3_endDay_21 (by decide) ?_
          refine lv_iinc (v := nI (i + 1)) (lv' := [(1, .int (nI (i + 1))), (0, .ref h)]) hx hb dX3_endDay_56 hl (k := 1) rfl (nI_1 _) (by decide) rfl (fun ls hl => ?_)
          refine lv_goto (tgt := 7) hx hb dX3_endDay_59 (by decide) ?_
          exact ih (i + 1) (by omega) _ _ _ (by rw [show ((edL S (i + 1)).2) = ((edL S i).2) from by rw [edL_s, if_neg c_3], show ((edL S (i + 1)).1) = ((edL S i).1) from by rw [edL_s, if_neg c_3]]; exact hP) (D_of hD stF) hS (lv_sub hl [1, 0] rfl)
  exact loop_7 12 0 (by omega) _ _ _ hP (D_of hD stF) hS (lv_sub hl [1, 0] rfl)
set_option maxHeartbeats 4000000 in
set_option maxRecDepth 100000 in
theorem c_X3_letPass_sun (l : Launch) (G : va_G) (ca : Nat → ClassId) (h : Nat) (a : Nat → Nat) (S : SS) : CtV l yX3_letPass wsX3_letPass ({ frames := 3, cells := 0, slots := 0, locals := 64 }) [.ref h, .int 0] G ca (stT ca h a S) (stT ca h a (s_se S, s_br S, (shL S 12).1, s_cr S, s_sh S, s_ow S, s_pa S, s_cb S, s_pd S, 0, s_dk S, s_dy S, s_fe S, (shL S 12).2, s_dn S)) := by
  refine CtV.ofW (cc := cX3_letPass) (maxL := 2) (by decide) rfl (Nat.le_of_ble_eq_true rfl) ?_
  intro pr en s m be me c A ls Q H hx hb hml hts hown hev hP hD hA hS hl hret
  have hown : s.vm.findClass RX3 = some m.cls := hown
  have hl : lv_has ls 2 [(0, .ref h), (1, .int 0)] := hl
  have in_wsX30 : ∀ w ∈ wsX30, w ∈ wsX3_letPass := fun _ h => List.mem_cons_of_mem _ (List.mem_append_right _ h)
  refine lv_iload_n hx hb dX3_letPass_0 rfl (lv_at hl 1 rfl) ?_
  refine lv_if_ne (tgt := 11) hx hb dX3_letPass_1 (by decide) (fun c_1 => ?_) (fun c_1 => ?_)
  · skip
    exact absurd (by decide) c_1
  · skip
    refine lv_aload_n hx hb dX3_letPass_4 rfl (lv_at hl 0 rfl) ?_
    refine goVw (va_runV (As := []) (rest := []) ⟨hx, hb, hml, hown, hts⟩ (CtV.use (c_X3_shine l G ca h a S) H.size) (cwV 0 hts gX3_letPass_X3_shine rfl rfl rfl (by decide +kernel) ⟨Nat.le_of_ble_eq_true rfl, Nat.le_of_ble_eq_true rfl⟩) (pcW_V hev hP hD (q0 := 0) rfl rfl rfl) rfl rfl hl.1 rfl (lv_room (Nat.le_of_ble_eq_true rfl)) dX3_letPass_5 ⟨Nat.zero_le _, Nat.zero_le _⟩) hD hS hA stF (fun H locs hP hD hS => ?_)
    refine lv_goto (tgt := 52) hx hb dX3_letPass_8 (by decide) ?_
    exact hret _ _ _ _ hP hS dX3_letPass_52
set_option maxHeartbeats 4000000 in
set_option maxRecDepth 100000 in
theorem c_X3_letPass_frost (l : Launch) (G : va_G) (ca : Nat → ClassId) (h : Nat) (a : Nat → Nat) (S : SS) : CtV l yX3_letPass wsX3_letPass ({ frames := 2, cells := 0, slots := 0, locals := 42 }) [.ref h, .int 10] G ca (stT ca h a S) (stT ca h a (s_se S, s_br S, s_wa S, s_cr S, s_sh S, s_ow S, s_pa S, s_cb S, s_pd S, frL S 12, s_dk S, s_dy S, s_fe S, s_dr S, s_dn S)) := by
  refine CtV.ofW (cc := cX3_letPass) (maxL := 2) (by decide) rfl (Nat.le_of_ble_eq_true rfl) ?_
  intro pr en s m be me c A ls Q H hx hb hml hts hown hev hP hD hA hS hl hret
  have hown : s.vm.findClass RX3 = some m.cls := hown
  have hl : lv_has ls 2 [(0, .ref h), (1, .int 10)] := hl
  have in_wsX30 : ∀ w ∈ wsX30, w ∈ wsX3_letPass := fun _ h => List.mem_cons_of_mem _ (List.mem_append_right _ h)
  refine lv_iload_n hx hb dX3_letPass_0 rfl (lv_at hl 1 rfl) ?_
  refine lv_if_ne (tgt := 11) hx hb dX3_letPass_1 (by decide) (fun c_1 => ?_) (fun c_1 => ?_)
  · skip
    refine lv_iload_n hx hb dX3_letPass_11 rfl (lv_at hl 1 rfl) ?_
    refine lv_bipush (v := 10) hx hb dX3_letPass_12 (by decide) ?_
    refine lv_icmp_ne (tgt := 24) hx hb dX3_letPass_14 (by decide) (fun c_2 => ?_) (fun c_2 => ?_)
    · skip
      exact absurd (by decide) c_2
    · skip
      refine lv_aload_n hx hb dX3_letPass_17 rfl (lv_at hl 0 rfl) ?_
      refine goVw (va_runV (As := []) (rest := []) ⟨hx, hb, hml, hown, hts⟩ (CtV.use (c_X3_freeze l G ca h a S) H.size) (cwV 0 hts gX3_letPass_X3_freeze rfl rfl rfl (by decide +kernel) ⟨Nat.le_of_ble_eq_true rfl, Nat.le_of_ble_eq_true rfl⟩) (pcW_V hev hP hD (q0 := 0) rfl rfl rfl) rfl rfl hl.1 rfl (lv_room (Nat.le_of_ble_eq_true rfl)) dX3_letPass_18 ⟨Nat.zero_le _, Nat.zero_le _⟩) hD hS hA stF (fun H locs hP hD hS => ?_)
      refine lv_goto (tgt := 52) hx hb dX3_letPass_21 (by decide) ?_
      exact hret _ _ _ _ hP hS dX3_letPass_52
  · skip
    exact absurd c_1 (by decide)
set_option maxHeartbeats 4000000 in
set_option maxRecDepth 100000 in
theorem c_X3_letPass_day (l : Launch) (G : va_G) (ca : Nat → ClassId) (h : Nat) (a : Nat → Nat) (S : SS) : CtV l yX3_letPass wsX3_letPass ({ frames := 3, cells := 0, slots := 0, locals := 65 }) [.ref h, .int 11] G ca (stT ca h a S) (stT ca h a (s_se S, s_br S, s_wa S, s_cr S, s_sh S, s_ow S, s_pa S, s_cb S, (edL S 12).2, s_fz S, (edL S 12).1, s_dy S + 1, s_fe S, s_dr S, s_dn S)) := by
  refine CtV.ofW (cc := cX3_letPass) (maxL := 2) (by decide) rfl (Nat.le_of_ble_eq_true rfl) ?_
  intro pr en s m be me c A ls Q H hx hb hml hts hown hev hP hD hA hS hl hret
  have hown : s.vm.findClass RX3 = some m.cls := hown
  have hl : lv_has ls 2 [(0, .ref h), (1, .int 11)] := hl
  have in_wsX30 : ∀ w ∈ wsX30, w ∈ wsX3_letPass := fun _ h => List.mem_cons_of_mem _ (List.mem_append_right _ h)
  refine lv_iload_n hx hb dX3_letPass_0 rfl (lv_at hl 1 rfl) ?_
  refine lv_if_ne (tgt := 11) hx hb dX3_letPass_1 (by decide) (fun c_1 => ?_) (fun c_1 => ?_)
  · skip
    refine lv_iload_n hx hb dX3_letPass_11 rfl (lv_at hl 1 rfl) ?_
    refine lv_bipush (v := 10) hx hb dX3_letPass_12 (by decide) ?_
    refine lv_icmp_ne (tgt := 24) hx hb dX3_letPass_14 (by decide) (fun c_2 => ?_) (fun c_2 => ?_)
    · skip
      refine lv_iload_n hx hb dX3_letPass_24 rfl (lv_at hl 1 rfl) ?_
      refine lv_bipush (v := 11) hx hb dX3_letPass_25 (by decide) ?_
      refine lv_icmp_ne (tgt := 37) hx hb dX3_letPass_27 (by decide) (fun c_3 => ?_) (fun c_3 => ?_)
      · skip
        exact absurd (by decide) c_3
      · skip
        refine lv_aload_n hx hb dX3_letPass_30 rfl (lv_at hl 0 rfl) ?_
        refine goVw (va_runV (As := []) (rest := []) ⟨hx, hb, hml, hown, hts⟩ (CtV.use (c_X3_endDay l G ca h a S) H.size) (cwV 0 hts gX3_letPass_X3_endDay rfl rfl rfl (by decide +kernel) ⟨Nat.le_of_ble_eq_true rfl, Nat.le_of_ble_eq_true rfl⟩) (pcW_V hev hP hD (q0 := 0) rfl rfl rfl) rfl rfl hl.1 rfl (lv_room (Nat.le_of_ble_eq_true rfl)) dX3_letPass_31 ⟨Nat.zero_le _, Nat.zero_le _⟩) hD hS hA stF (fun H locs hP hD hS => ?_)
        refine lv_goto (tgt := 52) hx hb dX3_letPass_34 (by decide) ?_
        exact hret _ _ _ _ hP hS dX3_letPass_52
    · skip
      exact absurd c_2 (by decide)
  · skip
    exact absurd c_1 (by decide)
set_option maxHeartbeats 4000000 in
set_option maxRecDepth 100000 in
theorem c_X3_letPass_rain (l : Launch) (G : va_G) (ca : Nat → ClassId) (h : Nat) (a : Nat → Nat) (S : SS) (k : Nat) (h1 : 1 ≤ k) (h2 : k ≤ 9) : CtV l yX3_letPass wsX3_letPass ({ frames := 3, cells := 0, slots := 0, locals := 66 }) [.ref h, .int (nI k)] G ca (stT ca h a S) (stT ca h a (s_se S, s_br S, (rnL S (nI k) 12).1, s_cr S, s_sh S, s_ow S, s_pa S, s_cb S, s_pd S, s_fz S, s_dk S, s_dy S, (rnL S (nI k) 12).2.1, s_dr S, (rnL S (nI k) 12).2.2.1 + (rnL S (nI k) 12).2.2.2)) := by
  refine CtV.ofW (cc := cX3_letPass) (maxL := 2) (by decide) rfl (Nat.le_of_ble_eq_true rfl) ?_
  intro pr en s m be me c A ls Q H hx hb hml hts hown hev hP hD hA hS hl hret
  have hown : s.vm.findClass RX3 = some m.cls := hown
  have hl : lv_has ls 2 [(0, .ref h), (1, .int (nI k))] := hl
  have in_wsX30 : ∀ w ∈ wsX30, w ∈ wsX3_letPass := fun _ h => List.mem_cons_of_mem _ (List.mem_append_right _ h)
  refine lv_iload_n hx hb dX3_letPass_0 rfl (lv_at hl 1 rfl) ?_
  refine lv_if_ne (tgt := 11) hx hb dX3_letPass_1 (by decide) (fun c_1 => ?_) (fun c_1 => ?_)
  · skip
    refine lv_iload_n hx hb dX3_letPass_11 rfl (lv_at hl 1 rfl) ?_
    refine lv_bipush (v := nI 10) hx hb dX3_letPass_12 (by decide) ?_
    refine lv_icmp_ne (tgt := 24) hx hb dX3_letPass_14 (by decide) (fun c_2 => ?_) (fun c_2 => ?_)
    · skip
      refine lv_iload_n hx hb dX3_letPass_24 rfl (lv_at hl 1 rfl) ?_
      refine lv_bipush (v := nI 11) hx hb dX3_letPass_25 (by decide) ?_
      refine lv_icmp_ne (tgt := 37) hx hb dX3_letPass_27 (by decide) (fun c_3 => ?_) (fun c_3 => ?_)
      · skip
        refine lv_iload_n hx hb dX3_letPass_37 rfl (lv_at hl 1 rfl) ?_
        refine lv_if_le (tgt := 52) hx hb dX3_letPass_38 (by decide) (fun c_4 => ?_) (fun c_4 => ?_)
        · skip
          exact absurd c_4 (nI_nle (by omega) (by omega))
        · skip
          refine lv_iload_n hx hb dX3_letPass_41 rfl (lv_at hl 1 rfl) ?_
          refine lv_bipush (v := nI 9) hx hb dX3_letPass_42 (by decide) ?_
          refine lv_icmp_gt (tgt := 52) hx hb dX3_letPass_44 (by decide) (fun c_5 => ?_) (fun c_5 => ?_)
          · skip
            exact absurd c_5 (nI_nlt (by omega) (by omega))
          · skip
            refine lv_aload_n hx hb dX3_letPass_47 rfl (lv_at hl 0 rfl) ?_
            refine lv_iload_n hx hb dX3_letPass_48 rfl (lv_at hl 1 rfl) ?_
            refine goVw (va_runV (As := [.int (nI k)]) (rest := []) ⟨hx, hb, hml, hown, hts⟩ (CtV.use (c_X3_rain l G ca h a S (nI k)) H.size) (cwV 1 hts gX3_letPass_X3_rain rfl rfl rfl (by decide +kernel) ⟨Nat.le_of_ble_eq_true rfl, Nat.le_of_ble_eq_true rfl⟩) (pcW_V hev hP hD (q0 := 0) rfl rfl rfl) rfl rfl hl.1 rfl (lv_room (Nat.le_of_ble_eq_true rfl)) dX3_letPass_49 ⟨Nat.zero_le _, Nat.zero_le _⟩) hD hS hA stF (fun H locs hP hD hS => ?_)
            exact hret _ _ _ _ hP hS dX3_letPass_52
      · skip
        exact absurd ((nI_eq (by omega) (by omega)).mp c_3) (by omega)
    · skip
      exact absurd ((nI_eq (by omega) (by omega)).mp c_2) (by omega)
  · skip
    exact absurd c_1 (nI_ne0 (by omega) (by omega))
set_option maxHeartbeats 4000000 in
set_option maxRecDepth 100000 in
theorem c_X3_letPass_none (l : Launch) (G : va_G) (ca : Nat → ClassId) (h : Nat) (a : Nat → Nat) (S : SS) : CtV l yX3_letPass wsX3_letPass ({ frames := 0, cells := 0, slots := 0, locals := 0 }) [.ref h, .int (-1)] G ca (stT ca h a S) (stT ca h a S) := by
  refine CtV.ofW (cc := cX3_letPass) (maxL := 2) (by decide) rfl (Nat.le_of_ble_eq_true rfl) ?_
  intro pr en s m be me c A ls Q H hx hb hml hts hown hev hP hD hA hS hl hret
  have hown : s.vm.findClass RX3 = some m.cls := hown
  have hl : lv_has ls 2 [(0, .ref h), (1, .int (-1))] := hl
  have in_wsX30 : ∀ w ∈ wsX30, w ∈ wsX3_letPass := fun _ h => List.mem_cons_of_mem _ (List.mem_append_right _ h)
  refine lv_iload_n hx hb dX3_letPass_0 rfl (lv_at hl 1 rfl) ?_
  refine lv_if_ne (tgt := 11) hx hb dX3_letPass_1 (by decide) (fun c_1 => ?_) (fun c_1 => ?_)
  · skip
    refine lv_iload_n hx hb dX3_letPass_11 rfl (lv_at hl 1 rfl) ?_
    refine lv_bipush (v := 10) hx hb dX3_letPass_12 (by decide) ?_
    refine lv_icmp_ne (tgt := 24) hx hb dX3_letPass_14 (by decide) (fun c_2 => ?_) (fun c_2 => ?_)
    · skip
      refine lv_iload_n hx hb dX3_letPass_24 rfl (lv_at hl 1 rfl) ?_
      refine lv_bipush (v := 11) hx hb dX3_letPass_25 (by decide) ?_
      refine lv_icmp_ne (tgt := 37) hx hb dX3_letPass_27 (by decide) (fun c_3 => ?_) (fun c_3 => ?_)
      · skip
        refine lv_iload_n hx hb dX3_letPass_37 rfl (lv_at hl 1 rfl) ?_
        refine lv_if_le (tgt := 52) hx hb dX3_letPass_38 (by decide) (fun c_4 => ?_) (fun c_4 => ?_)
        · skip
          exact hret _ _ _ _ hP hS dX3_letPass_52
        · skip
          exact absurd (by decide) c_4
      · skip
        exact absurd c_3 (by decide)
    · skip
      exact absurd c_2 (by decide)
  · skip
    exact absurd c_1 (by decide)
end
section
set_option maxHeartbeats 4000000 in
set_option maxRecDepth 100000 in
theorem c_X4_sum (l : Launch) (G : va_G) (ca : Nat → ClassId) (Wd : va_W) (q o n : Nat) (f : Nat → Int32) (hq : Wd[q]? = some (o, .inl (ca 0, n, .inl f))) (hn : n < 2 ^ 31) : CtI l yX4_sum wsX4_sum ({ frames := 0, cells := 0, slots := 0, locals := 0 }) [.ref o] G ca Wd Wd (smD f n) := by
  refine CtI.ofW (cc := cX4_sum) (maxL := 6) (rt := .int) (by decide) rfl (Nat.le_of_ble_eq_true rfl) rfl ?_
  intro pr en s m be me c A ls Q H hx hb hml hts hown hev hP hD hA hS hl hret
  have hown : s.vm.findClass RX4 = some m.cls := hown
  have hl : lv_has ls 6 [(0, .ref o)] := hl
  refine lv_iconst (v := 0) hx hb dX4_sum_0 (by decide) ?_
  refine lv_istore_n (lv' := [(1, .int 0), (0, .ref o)]) hx hb dX4_sum_1 rfl hl (by decide) rfl (fun ls hl => ?_)
  refine lv_aload_n hx hb dX4_sum_2 rfl (lv_at hl 1 rfl) ?_
  refine lv_astore_n (lv' := [(2, .ref o), (1, .int 0), (0, .ref o)]) hx hb dX4_sum_3 rfl hl (by decide) rfl (fun ls hl => ?_)
  refine lv_aload_n hx hb dX4_sum_4 rfl (lv_at hl 0 rfl) ?_
  refine va_alen hx hb hev.1 hP q 0 hq rfl (v := nI n) rfl dX4_sum_5 ?_
  refine lv_istore_n (lv' := [(3, .int (nI n)), (2, .ref o), (1, .int 0), (0, .ref o)]) hx hb dX4_sum_6 rfl hl (by decide) rfl (fun ls hl => ?_)
  refine lv_iconst (v := nI 0) hx hb dX4_sum_7 (by decide) ?_
  refine lv_istore (lv' := [(4, .int (nI 0)), (3, .int (nI n)), (2, .ref o), (1, .int 0), (0, .ref o)]) hx hb dX4_sum_8 hl (by decide) rfl (fun ls hl => ?_)
  have loop_10 : ∀ (k i : Nat), i + k = n → ∀ (H : Heap) (locs : List Loc) (ls : Array Slot), va_P G vwCl Wd H → va_D A Wd → va_S A s.heap H locs → lv_has ls 6 [(1, .int (smD f i)), (2, .ref o), (3, .int (nI n)), (4, .int (nI i))] → W pr l en ({ frames := 0, cells := 0, slots := 0, locals := 0 } : Room) s m ([.ref o] : List Value).toArray be me c H locs 0 0 Q (F0 m 10 ls []) := by
    intro k
    induction k with
    | zero =>
      intro i hi H locs ls hP hD hS hl
      obtain rfl : n = i := by omega
      refine lv_iload hx hb dX4_sum_10 (lv_at hl 3 rfl) ?_
      refine lv_iload_n hx hb dX4_sum_12 rfl (lv_at hl 2 rfl) ?_
      refine lv_icmp_ge (tgt := 33) hx hb dX4_sum_13 (by decide) (fun c_1 => ?_) (fun c_1 => ?_)
      · skip
        refine lv_iload_n hx hb dX4_sum_33 rfl (lv_at hl 0 rfl) ?_
        exact hret _ _ _ _ hP hS dX4_sum_34
      · skip
        exact absurd (nI_le (by omega) (by omega)) c_1
    | succ k ih =>
      intro i hi H locs ls hP hD hS hl
      have hlt : i < n := by omega
      refine lv_iload hx hb dX4_sum_10 (lv_at hl 3 rfl) ?_
      refine lv_iload_n hx hb dX4_sum_12 rfl (lv_at hl 2 rfl) ?_
      refine lv_icmp_ge (tgt := 33) hx hb dX4_sum_13 (by decide) (fun c_2 => ?_) (fun c_2 => ?_)
      · skip
        exact absurd c_2 (nI_ge (by omega) (by omega))
      · skip
        refine lv_aload_n hx hb dX4_sum_16 rfl (lv_at hl 1 rfl) ?_
        refine lv_iload hx hb dX4_sum_17 (lv_at hl 3 rfl) ?_
        refine b_iald hx hb hev.1 hP q hq rfl (j := i) (by omega) (by omega) dX4_sum_19 ?_
        refine lv_istore (lv' := [(5, .int (f i)), (1, .int (smD f i)), (2, .ref o), (3, .int (nI n)), (4, .int (nI i))]) hx hb dX4_sum_20 hl (by decide) rfl (fun ls hl => ?_)
        refine lv_iload_n hx hb dX4_sum_22 rfl (lv_at hl 1 rfl) ?_
        refine lv_iload hx hb dX4_sum_23 (lv_at hl 0 rfl) ?_
        refine lv_iadd hx hb dX4_sum_25 ?_
        refine lv_istore_n (lv' := [(1, .int ((smD f i) + (f i))), (5, .int (f i)), (2, .ref o), (3, .int (nI n)), (4, .int (nI i))]) hx hb dX4_sum_26 rfl hl (by decide) rfl (fun ls hl => ?_)
        refine lv_iinc (v := nI (i + 1)) (lv' := [(4, .int (nI (i + 1))), (1, .int ((smD f i) + (f i))), (5, .int (f i)), (2, .ref o), (3, .int (nI n))]) hx hb dX4_sum_27 hl (k := 4) rfl (nI_1 _) (by decide) rfl (fun ls hl => ?_)
        refine lv_goto (tgt := 10) hx hb dX4_sum_30 (by decide) ?_
        exact ih (i + 1) (by omega) _ _ _ hP (D_of hD rfl) hS (lv_sub hl [1, 3, 4, 0] rfl)
  exact loop_10 n 0 (by omega) _ _ _ hP (D_of hD rfl) hS (lv_sub hl [3, 2, 1, 0] rfl)
def cpN (f g : Nat → Int32) (i : Nat) : Nat → Int32 := fun j => if j < i then f j else g j
theorem cpN_0 (f g : Nat → Int32) : cpN f g 0 = g := by funext j; simp [cpN]
theorem cpN_s (f g : Nat → Int32) (i : Nat) : upd (cpN f g i) i (f i) = cpN f g (i + 1) := by
  funext j
  unfold upd cpN
  by_cases h : j = i
  · subst h; rw [if_pos rfl, if_pos (Nat.lt_succ_self _)]
  · rw [if_neg h]
    by_cases h2 : j < i
    · rw [if_pos h2, if_pos (by omega)]
    · rw [if_neg h2, if_neg (by omega)]
theorem cpN_in (f g : Nat → Int32) {n j : Nat} (h : j < n) : cpN f g n j = f j := if_pos h
theorem set_same {α : Type} {l : List α} {k : Nat} {x : α} (h : l[k]? = some x) : l.set k x = l := by
  have hl := (List.getElem?_eq_some_iff.mp h).1
  apply List.ext_getElem?
  intro i
  by_cases hi : i = k
  · subst hi; rw [List.getElem?_set_self hl, h]
  · rw [List.getElem?_set_ne (Ne.symm hi)]
theorem P_cong {G : va_G} {cl : List vw_C} {Wd : va_W} {H : Heap} {q o n : Nat} {cA : ClassId} {f g : Nat → Int32} (hP : va_P G cl (Wd.set q (o, .inl (cA, n, .inl g))) H) (h : ∀ j, j < n → g j = f j) : va_P G cl (Wd.set q (o, .inl (cA, n, .inl f))) H := by
  intro k x hk
  by_cases hkq : k = q
  · subst hkq
    have hl : k < Wd.length := by
      have := (List.getElem?_eq_some_iff.mp hk).1
      rw [List.length_set] at this; exact this
    rw [List.getElem?_set_self hl] at hk
    cases hk
    have h1 := hP k _ (List.getElem?_set_self hl)
    show H[o]? = some (vp_cell cA (n, .inl f))
    have h2 : vp_cell cA (n, .inl g) = vp_cell cA (n, .inl f) := by
      rw [vp_cell_i, vp_cell_i]
      unfold arrV
      congr 1
      apply congrArg
      funext j
      show Value.int (g j.val) = Value.int (f j.val)
      rw [h j.val j.isLt]
    rw [← h2]; exact h1
  · exact hP k x (by rw [List.getElem?_set_ne (Ne.symm hkq)] at hk ⊢; exact hk)
set_option maxHeartbeats 4000000 in
set_option maxRecDepth 100000 in
theorem c_X4_copy (l : Launch) (G : va_G) (ca : Nat → ClassId) (Wd : va_W) (q1 q2 o1 o2 n : Nat) (f g : Nat → Int32) (h1 : Wd[q1]? = some (o1, .inl (ca 0, n, .inl f))) (h2 : Wd[q2]? = some (o2, .inl (ca 0, n, .inl g))) (hne : q1 ≠ q2) (hn : n < 2 ^ 31) : CtV l yX4_copy wsX4_copy ({ frames := 0, cells := 0, slots := 0, locals := 0 }) [.ref o1, .ref o2] G ca Wd (Wd.set q2 (o2, .inl (ca 0, n, .inl f))) := by
  refine CtV.ofW (cc := cX4_copy) (maxL := 3) (by decide) rfl (Nat.le_of_ble_eq_true rfl) ?_
  intro pr en s m be me c A ls Q H hx hb hml hts hown hev hP hD hA hS hl hret
  have hown : s.vm.findClass RX4 = some m.cls := hown
  have hl : lv_has ls 3 [(0, .ref o1), (1, .ref o2)] := hl
  have hP : va_P G vwCl (Wd.set q2 (o2, .inl (ca 0, n, .inl (cpN f g 0)))) H := by rw [cpN_0, set_same h2]; exact hP
  have hD : va_D A (Wd.set q2 (o2, .inl (ca 0, n, .inl (cpN f g 0)))) := by rw [cpN_0, set_same h2]; exact hD
  refine lv_iconst (v := nI 0) hx hb dX4_copy_0 (by decide) ?_
  refine lv_istore_n (lv' := [(2, .int (nI 0)), (0, .ref o1), (1, .ref o2)]) hx hb dX4_copy_1 rfl hl (by decide) rfl (fun ls hl => ?_)
  have loop_2 : ∀ (k i : Nat), i + k = n → ∀ (H : Heap) (locs : List Loc) (ls : Array Slot), va_P G vwCl (Wd.set q2 (o2, .inl (ca 0, n, .inl (cpN f g i)))) H → va_D A (Wd.set q2 (o2, .inl (ca 0, n, .inl (cpN f g i)))) → va_S A s.heap H locs → lv_has ls 3 [(0, .ref o1), (1, .ref o2), (2, .int (nI i))] → W pr l en ({ frames := 0, cells := 0, slots := 0, locals := 0 } : Room) s m ([.ref o1, .ref o2] : List Value).toArray be me c H locs 0 0 Q (F0 m 2 ls []) := by
    intro k
    induction k with
    | zero =>
      intro i hi H locs ls hP hD hS hl
      obtain rfl : n = i := by omega
      have hl2 := (List.getElem?_eq_some_iff.mp h2).1
      have k1 : (Wd.set q2 (o2, .inl (ca 0, n, .inl (cpN f g n))))[q1]? = some (o1, .inl (ca 0, n, .inl f)) := by rw [List.getElem?_set_ne (Ne.symm hne)]; exact h1
      have k2 : (Wd.set q2 (o2, .inl (ca 0, n, .inl (cpN f g n))))[q2]? = some (o2, .inl (ca 0, n, .inl (cpN f g n))) := List.getElem?_set_self hl2
      refine lv_iload_n hx hb dX4_copy_2 rfl (lv_at hl 2 rfl) ?_
      refine lv_aload_n hx hb dX4_copy_3 rfl (lv_at hl 0 rfl) ?_
      refine va_alen hx hb hev.1 hP q1 0 k1 rfl (v := nI n) rfl dX4_copy_4 ?_
      refine lv_icmp_ge (tgt := 26) hx hb dX4_copy_5 (by decide) (fun c_1 => ?_) (fun c_1 => ?_)
      · skip
        exact hret _ _ _ _ (P_cong hP (fun j hj => cpN_in f g hj)) hS dX4_copy_26
      · skip
        exact absurd (nI_le (by omega) (by omega)) c_1
    | succ k ih =>
      intro i hi H locs ls hP hD hS hl
      have hlt : i < n := by omega
      have hl2 := (List.getElem?_eq_some_iff.mp h2).1
      have k1 : (Wd.set q2 (o2, .inl (ca 0, n, .inl (cpN f g i))))[q1]? = some (o1, .inl (ca 0, n, .inl f)) := by rw [List.getElem?_set_ne (Ne.symm hne)]; exact h1
      have k2 : (Wd.set q2 (o2, .inl (ca 0, n, .inl (cpN f g i))))[q2]? = some (o2, .inl (ca 0, n, .inl (cpN f g i))) := List.getElem?_set_self hl2
      refine lv_iload_n hx hb dX4_copy_2 rfl (lv_at hl 2 rfl) ?_
      refine lv_aload_n hx hb dX4_copy_3 rfl (lv_at hl 0 rfl) ?_
      refine va_alen hx hb hev.1 hP q1 0 k1 rfl (v := nI n) rfl dX4_copy_4 ?_
      refine lv_icmp_ge (tgt := 26) hx hb dX4_copy_5 (by decide) (fun c_2 => ?_) (fun c_2 => ?_)
      · skip
        exact absurd c_2 (nI_ge (by omega) (by omega))
      · skip
        refine lv_iload_n hx hb dX4_copy_8 rfl (lv_at hl 2 rfl) ?_
        refine lv_aload_n hx hb dX4_copy_9 rfl (lv_at hl 1 rfl) ?_
        refine va_alen hx hb hev.1 hP q2 0 k2 rfl (v := nI n) rfl dX4_copy_10 ?_
        refine lv_icmp_ge (tgt := 26) hx hb dX4_copy_11 (by decide) (fun c_3 => ?_) (fun c_3 => ?_)
        · skip
          exact absurd c_3 (nI_ge (by omega) (by omega))
        · skip
          refine lv_aload_n hx hb dX4_copy_14 rfl (lv_at hl 1 rfl) ?_
          refine lv_iload_n hx hb dX4_copy_15 rfl (lv_at hl 2 rfl) ?_
          refine lv_aload_n hx hb dX4_copy_16 rfl (lv_at hl 0 rfl) ?_
          refine lv_iload_n hx hb dX4_copy_17 rfl (lv_at hl 2 rfl) ?_
          refine b_iald hx hb hev.1 hP q1 k1 rfl (j := i) (by omega) (by omega) dX4_copy_18 ?_
          refine b_iast hx hb hev.1 hP hD hS q2 k2 rfl (j := i) (by omega) (by omega) dX4_copy_19 (fun H locs hP hD hS => ?_)
          rw [List.set_set, cpN_s] at hP hD
          refine lv_iinc (v := nI (i + 1)) (lv' := [(2, .int (nI (i + 1))), (0, .ref o1), (1, .ref o2)]) hx hb dX4_copy_20 hl (k := 2) rfl (nI_1 _) (by decide) rfl (fun ls hl => ?_)
          refine lv_goto (tgt := 2) hx hb dX4_copy_23 (by decide) ?_
          exact ih (i + 1) (by omega) _ _ _ hP (D_of hD rfl) hS (lv_sub hl [1, 2, 0] rfl)
  exact loop_2 n 0 (by omega) _ _ _ hP (D_of hD rfl) hS (lv_sub hl [1, 2, 0] rfl)
set_option maxHeartbeats 4000000 in
set_option maxRecDepth 100000 in
theorem c_X3_copyFrom (l : Launch) (G : va_G) (ca : Nat → ClassId) (h : Nat) (a : Nat → Nat) (S : SS) (h2 : Nat) (b : Nat → Nat) (T : SS) : CtV l yX3_copyFrom wsX3_copyFrom ({ frames := 1, cells := 0, slots := 0, locals := 22 }) [.ref h, .ref h2] G ca ((stT ca h a S) ++ (stT ca h2 b T)) ((stT ca h a T) ++ (stT ca h2 b T)) := by
  refine CtV.ofW (cc := cX3_copyFrom) (maxL := 2) (by decide) rfl (Nat.le_of_ble_eq_true rfl) ?_
  intro pr en s m be me c A ls Q H hx hb hml hts hown hev hP hD hA hS hl hret
  have hown : s.vm.findClass RX3 = some m.cls := hown
  have hl : lv_has ls 2 [(0, .ref h), (1, .ref h2)] := hl
  have in_wsX30 : ∀ w ∈ wsX30, w ∈ wsX3_copyFrom := fun _ h => List.mem_cons_of_mem _ (List.mem_append_right _ h)
  refine lv_aload_n hx hb dX3_copyFrom_0 rfl (lv_at hl 1 rfl) ?_
  refine va_get (D := G) (ci := 3) (v := .ref (b 0)) (C := RX3) (T := TX3) (N := 15) hx hb hts in_wsX30 hown hev.1 hP 10 rfl rfl 0 (by decide) (hts (.fieldLink RX3 9 "PuddleMinistries$Street" "settings" "[I") (List.mem_of_getElem? (i := 1) rfl)) (fun _ h9 => h9) rfl dX3_copyFrom_1 ?_
  refine lv_aload_n hx hb dX3_copyFrom_4 rfl (lv_at hl 0 rfl) ?_
  refine va_get (D := G) (ci := 3) (v := .ref (a 0)) (C := RX3) (T := TX3) (N := 15) hx hb hts in_wsX30 hown hev.1 hP 0 rfl rfl 0 (by decide) (hts (.fieldLink RX3 9 "PuddleMinistries$Street" "settings" "[I") (List.mem_of_getElem? (i := 1) rfl)) (fun _ h9 => h9) rfl dX3_copyFrom_5 ?_
  refine goVw (va_runSN (As := [.ref (b 0), .ref (a 0)]) (rest := []) ⟨hx, hb, hml, hown, hts⟩ (CtV.use (c_X4_copy l G ca ((stT ca h a S) ++ (stT ca h2 b T)) 11 1 (b 0) (a 0) 4 (s_se T) (s_se S) rfl rfl (by decide) (by decide)) H.size) ⟨va_cnB 2 hts gX3_copyFrom_X4_copy_n42 rfl rfl rfl hev.2.2.1 (hts (.initialized RX4) (List.mem_of_getElem? (i := 17) rfl)) (by decide +kernel) ⟨Nat.le_of_ble_eq_true rfl, Nat.le_of_ble_eq_true rfl⟩, hts (.static yX4_copy) (List.mem_of_getElem? (i := 16) rfl), trivial⟩ (pcW_S hev hP hD) rfl rfl hl.1 rfl (lv_room (Nat.le_of_ble_eq_true rfl)) dX3_copyFrom_8 ⟨Nat.zero_le _, Nat.zero_le _⟩) hD hS hA rfl (fun H locs hP hD hS => ?_)
  have hP : va_P G vwCl ((stT ca h a (s_se T, s_br S, s_wa S, s_cr S, s_sh S, s_ow S, s_pa S, s_cb S, s_pd S, s_fz S, s_dk S, s_dy S, s_fe S, s_dr S, s_dn S)) ++ (stT ca h2 b T)) H := hP
  have hD : va_D A ((stT ca h a (s_se T, s_br S, s_wa S, s_cr S, s_sh S, s_ow S, s_pa S, s_cb S, s_pd S, s_fz S, s_dk S, s_dy S, s_fe S, s_dr S, s_dn S)) ++ (stT ca h2 b T)) := hD
  refine lv_aload_n hx hb dX3_copyFrom_11 rfl (lv_at hl 1 rfl) ?_
  refine va_get (D := G) (ci := 3) (v := .ref (b 1)) (C := RX3) (T := TX3) (N := 15) hx hb hts in_wsX30 hown hev.1 hP 10 rfl rfl 1 (by decide) (hts (.fieldLink RX3 15 "PuddleMinistries$Street" "brims" "[I") (List.mem_of_getElem? (i := 2) rfl)) (fun _ h9 => h9) rfl dX3_copyFrom_12 ?_
  refine lv_aload_n hx hb dX3_copyFrom_15 rfl (lv_at hl 0 rfl) ?_
  refine va_get (D := G) (ci := 3) (v := .ref (a 1)) (C := RX3) (T := TX3) (N := 15) hx hb hts in_wsX30 hown hev.1 hP 0 rfl rfl 1 (by decide) (hts (.fieldLink RX3 15 "PuddleMinistries$Street" "brims" "[I") (List.mem_of_getElem? (i := 2) rfl)) (fun _ h9 => h9) rfl dX3_copyFrom_16 ?_
  refine goVw (va_runSN (As := [.ref (b 1), .ref (a 1)]) (rest := []) ⟨hx, hb, hml, hown, hts⟩ (CtV.use (c_X4_copy l G ca ((stT ca h a (s_se T, s_br S, s_wa S, s_cr S, s_sh S, s_ow S, s_pa S, s_cb S, s_pd S, s_fz S, s_dk S, s_dy S, s_fe S, s_dr S, s_dn S)) ++ (stT ca h2 b T)) 12 2 (b 1) (a 1) 12 (s_br T) (s_br S) rfl rfl (by decide) (by decide)) H.size) ⟨va_cnB 2 hts gX3_copyFrom_X4_copy_n42 rfl rfl rfl hev.2.2.1 (hts (.initialized RX4) (List.mem_of_getElem? (i := 17) rfl)) (by decide +kernel) ⟨Nat.le_of_ble_eq_true rfl, Nat.le_of_ble_eq_true rfl⟩, hts (.static yX4_copy) (List.mem_of_getElem? (i := 16) rfl), trivial⟩ (pcW_S hev hP hD) rfl rfl hl.1 rfl (lv_room (Nat.le_of_ble_eq_true rfl)) dX3_copyFrom_19 ⟨Nat.zero_le _, Nat.zero_le _⟩) hD hS hA rfl (fun H locs hP hD hS => ?_)
  have hP : va_P G vwCl ((stT ca h a (s_se T, s_br T, s_wa S, s_cr S, s_sh S, s_ow S, s_pa S, s_cb S, s_pd S, s_fz S, s_dk S, s_dy S, s_fe S, s_dr S, s_dn S)) ++ (stT ca h2 b T)) H := hP
  have hD : va_D A ((stT ca h a (s_se T, s_br T, s_wa S, s_cr S, s_sh S, s_ow S, s_pa S, s_cb S, s_pd S, s_fz S, s_dk S, s_dy S, s_fe S, s_dr S, s_dn S)) ++ (stT ca h2 b T)) := hD
  refine lv_aload_n hx hb dX3_copyFrom_22 rfl (lv_at hl 1 rfl) ?_
  refine va_get (D := G) (ci := 3) (v := .ref (b 2)) (C := RX3) (T := TX3) (N := 15) hx hb hts in_wsX30 hown hev.1 hP 10 rfl rfl 2 (by decide) (hts (.fieldLink RX3 18 "PuddleMinistries$Street" "waters" "[I") (List.mem_of_getElem? (i := 3) rfl)) (fun _ h9 => h9) rfl dX3_copyFrom_23 ?_
  refine lv_aload_n hx hb dX3_copyFrom_26 rfl (lv_at hl 0 rfl) ?_
  refine va_get (D := G) (ci := 3) (v := .ref (a 2)) (C := RX3) (T := TX3) (N := 15) hx hb hts in_wsX30 hown hev.1 hP 0 rfl rfl 2 (by decide) (hts (.fieldLink RX3 18 "PuddleMinistries$Street" "waters" "[I") (List.mem_of_getElem? (i := 3) rfl)) (fun _ h9 => h9) rfl dX3_copyFrom_27 ?_
  refine goVw (va_runSN (As := [.ref (b 2), .ref (a 2)]) (rest := []) ⟨hx, hb, hml, hown, hts⟩ (CtV.use (c_X4_copy l G ca ((stT ca h a (s_se T, s_br T, s_wa S, s_cr S, s_sh S, s_ow S, s_pa S, s_cb S, s_pd S, s_fz S, s_dk S, s_dy S, s_fe S, s_dr S, s_dn S)) ++ (stT ca h2 b T)) 13 3 (b 2) (a 2) 12 (s_wa T) (s_wa S) rfl rfl (by decide) (by decide)) H.size) ⟨va_cnB 2 hts gX3_copyFrom_X4_copy_n42 rfl rfl rfl hev.2.2.1 (hts (.initialized RX4) (List.mem_of_getElem? (i := 17) rfl)) (by decide +kernel) ⟨Nat.le_of_ble_eq_true rfl, Nat.le_of_ble_eq_true rfl⟩, hts (.static yX4_copy) (List.mem_of_getElem? (i := 16) rfl), trivial⟩ (pcW_S hev hP hD) rfl rfl hl.1 rfl (lv_room (Nat.le_of_ble_eq_true rfl)) dX3_copyFrom_30 ⟨Nat.zero_le _, Nat.zero_le _⟩) hD hS hA rfl (fun H locs hP hD hS => ?_)
  have hP : va_P G vwCl ((stT ca h a (s_se T, s_br T, s_wa T, s_cr S, s_sh S, s_ow S, s_pa S, s_cb S, s_pd S, s_fz S, s_dk S, s_dy S, s_fe S, s_dr S, s_dn S)) ++ (stT ca h2 b T)) H := hP
  have hD : va_D A ((stT ca h a (s_se T, s_br T, s_wa T, s_cr S, s_sh S, s_ow S, s_pa S, s_cb S, s_pd S, s_fz S, s_dk S, s_dy S, s_fe S, s_dr S, s_dn S)) ++ (stT ca h2 b T)) := hD
  refine lv_aload_n hx hb dX3_copyFrom_33 rfl (lv_at hl 1 rfl) ?_
  refine va_get (D := G) (ci := 3) (v := .ref (b 3)) (C := RX3) (T := TX3) (N := 15) hx hb hts in_wsX30 hown hev.1 hP 10 rfl rfl 3 (by decide) (hts (.fieldLink RX3 21 "PuddleMinistries$Street" "crossingsOf" "[I") (List.mem_of_getElem? (i := 4) rfl)) (fun _ h9 => h9) rfl dX3_copyFrom_34 ?_
  refine lv_aload_n hx hb dX3_copyFrom_37 rfl (lv_at hl 0 rfl) ?_
  refine va_get (D := G) (ci := 3) (v := .ref (a 3)) (C := RX3) (T := TX3) (N := 15) hx hb hts in_wsX30 hown hev.1 hP 0 rfl rfl 3 (by decide) (hts (.fieldLink RX3 21 "PuddleMinistries$Street" "crossingsOf" "[I") (List.mem_of_getElem? (i := 4) rfl)) (fun _ h9 => h9) rfl dX3_copyFrom_38 ?_
  refine goVw (va_runSN (As := [.ref (b 3), .ref (a 3)]) (rest := []) ⟨hx, hb, hml, hown, hts⟩ (CtV.use (c_X4_copy l G ca ((stT ca h a (s_se T, s_br T, s_wa T, s_cr S, s_sh S, s_ow S, s_pa S, s_cb S, s_pd S, s_fz S, s_dk S, s_dy S, s_fe S, s_dr S, s_dn S)) ++ (stT ca h2 b T)) 14 4 (b 3) (a 3) 12 (s_cr T) (s_cr S) rfl rfl (by decide) (by decide)) H.size) ⟨va_cnB 2 hts gX3_copyFrom_X4_copy_n42 rfl rfl rfl hev.2.2.1 (hts (.initialized RX4) (List.mem_of_getElem? (i := 17) rfl)) (by decide +kernel) ⟨Nat.le_of_ble_eq_true rfl, Nat.le_of_ble_eq_true rfl⟩, hts (.static yX4_copy) (List.mem_of_getElem? (i := 16) rfl), trivial⟩ (pcW_S hev hP hD) rfl rfl hl.1 rfl (lv_room (Nat.le_of_ble_eq_true rfl)) dX3_copyFrom_41 ⟨Nat.zero_le _, Nat.zero_le _⟩) hD hS hA rfl (fun H locs hP hD hS => ?_)
  have hP : va_P G vwCl ((stT ca h a (s_se T, s_br T, s_wa T, s_cr T, s_sh S, s_ow S, s_pa S, s_cb S, s_pd S, s_fz S, s_dk S, s_dy S, s_fe S, s_dr S, s_dn S)) ++ (stT ca h2 b T)) H := hP
  have hD : va_D A ((stT ca h a (s_se T, s_br T, s_wa T, s_cr T, s_sh S, s_ow S, s_pa S, s_cb S, s_pd S, s_fz S, s_dk S, s_dy S, s_fe S, s_dr S, s_dn S)) ++ (stT ca h2 b T)) := hD
  refine lv_aload_n hx hb dX3_copyFrom_44 rfl (lv_at hl 1 rfl) ?_
  refine va_get (D := G) (ci := 3) (v := .ref (b 4)) (C := RX3) (T := TX3) (N := 15) hx hb hts in_wsX30 hown hev.1 hP 10 rfl rfl 4 (by decide) (hts (.fieldLink RX3 24 "PuddleMinistries$Street" "shoesOf" "[I") (List.mem_of_getElem? (i := 5) rfl)) (fun _ h9 => h9) rfl dX3_copyFrom_45 ?_
  refine lv_aload_n hx hb dX3_copyFrom_48 rfl (lv_at hl 0 rfl) ?_
  refine va_get (D := G) (ci := 3) (v := .ref (a 4)) (C := RX3) (T := TX3) (N := 15) hx hb hts in_wsX30 hown hev.1 hP 0 rfl rfl 4 (by decide) (hts (.fieldLink RX3 24 "PuddleMinistries$Street" "shoesOf" "[I") (List.mem_of_getElem? (i := 5) rfl)) (fun _ h9 => h9) rfl dX3_copyFrom_49 ?_
  refine goVw (va_runSN (As := [.ref (b 4), .ref (a 4)]) (rest := []) ⟨hx, hb, hml, hown, hts⟩ (CtV.use (c_X4_copy l G ca ((stT ca h a (s_se T, s_br T, s_wa T, s_cr T, s_sh S, s_ow S, s_pa S, s_cb S, s_pd S, s_fz S, s_dk S, s_dy S, s_fe S, s_dr S, s_dn S)) ++ (stT ca h2 b T)) 15 5 (b 4) (a 4) 6 (s_sh T) (s_sh S) rfl rfl (by decide) (by decide)) H.size) ⟨va_cnB 2 hts gX3_copyFrom_X4_copy_n42 rfl rfl rfl hev.2.2.1 (hts (.initialized RX4) (List.mem_of_getElem? (i := 17) rfl)) (by decide +kernel) ⟨Nat.le_of_ble_eq_true rfl, Nat.le_of_ble_eq_true rfl⟩, hts (.static yX4_copy) (List.mem_of_getElem? (i := 16) rfl), trivial⟩ (pcW_S hev hP hD) rfl rfl hl.1 rfl (lv_room (Nat.le_of_ble_eq_true rfl)) dX3_copyFrom_52 ⟨Nat.zero_le _, Nat.zero_le _⟩) hD hS hA rfl (fun H locs hP hD hS => ?_)
  have hP : va_P G vwCl ((stT ca h a (s_se T, s_br T, s_wa T, s_cr T, s_sh T, s_ow S, s_pa S, s_cb S, s_pd S, s_fz S, s_dk S, s_dy S, s_fe S, s_dr S, s_dn S)) ++ (stT ca h2 b T)) H := hP
  have hD : va_D A ((stT ca h a (s_se T, s_br T, s_wa T, s_cr T, s_sh T, s_ow S, s_pa S, s_cb S, s_pd S, s_fz S, s_dk S, s_dy S, s_fe S, s_dr S, s_dn S)) ++ (stT ca h2 b T)) := hD
  refine lv_aload_n hx hb dX3_copyFrom_55 rfl (lv_at hl 1 rfl) ?_
  refine va_get (D := G) (ci := 3) (v := .ref (b 5)) (C := RX3) (T := TX3) (N := 15) hx hb hts in_wsX30 hown hev.1 hP 10 rfl rfl 5 (by decide) (hts (.fieldLink RX3 27 "PuddleMinistries$Street" "owedBy" "[I") (List.mem_of_getElem? (i := 6) rfl)) (fun _ h9 => h9) rfl dX3_copyFrom_56 ?_
  refine lv_aload_n hx hb dX3_copyFrom_59 rfl (lv_at hl 0 rfl) ?_
  refine va_get (D := G) (ci := 3) (v := .ref (a 5)) (C := RX3) (T := TX3) (N := 15) hx hb hts in_wsX30 hown hev.1 hP 0 rfl rfl 5 (by decide) (hts (.fieldLink RX3 27 "PuddleMinistries$Street" "owedBy" "[I") (List.mem_of_getElem? (i := 6) rfl)) (fun _ h9 => h9) rfl dX3_copyFrom_60 ?_
  refine goVw (va_runSN (As := [.ref (b 5), .ref (a 5)]) (rest := []) ⟨hx, hb, hml, hown, hts⟩ (CtV.use (c_X4_copy l G ca ((stT ca h a (s_se T, s_br T, s_wa T, s_cr T, s_sh T, s_ow S, s_pa S, s_cb S, s_pd S, s_fz S, s_dk S, s_dy S, s_fe S, s_dr S, s_dn S)) ++ (stT ca h2 b T)) 16 6 (b 5) (a 5) 6 (s_ow T) (s_ow S) rfl rfl (by decide) (by decide)) H.size) ⟨va_cnB 2 hts gX3_copyFrom_X4_copy_n42 rfl rfl rfl hev.2.2.1 (hts (.initialized RX4) (List.mem_of_getElem? (i := 17) rfl)) (by decide +kernel) ⟨Nat.le_of_ble_eq_true rfl, Nat.le_of_ble_eq_true rfl⟩, hts (.static yX4_copy) (List.mem_of_getElem? (i := 16) rfl), trivial⟩ (pcW_S hev hP hD) rfl rfl hl.1 rfl (lv_room (Nat.le_of_ble_eq_true rfl)) dX3_copyFrom_63 ⟨Nat.zero_le _, Nat.zero_le _⟩) hD hS hA rfl (fun H locs hP hD hS => ?_)
  have hP : va_P G vwCl ((stT ca h a (s_se T, s_br T, s_wa T, s_cr T, s_sh T, s_ow T, s_pa S, s_cb S, s_pd S, s_fz S, s_dk S, s_dy S, s_fe S, s_dr S, s_dn S)) ++ (stT ca h2 b T)) H := hP
  have hD : va_D A ((stT ca h a (s_se T, s_br T, s_wa T, s_cr T, s_sh T, s_ow T, s_pa S, s_cb S, s_pd S, s_fz S, s_dk S, s_dy S, s_fe S, s_dr S, s_dn S)) ++ (stT ca h2 b T)) := hD
  refine lv_aload_n hx hb dX3_copyFrom_66 rfl (lv_at hl 1 rfl) ?_
  refine va_get (D := G) (ci := 3) (v := .ref (b 6)) (C := RX3) (T := TX3) (N := 15) hx hb hts in_wsX30 hown hev.1 hP 10 rfl rfl 6 (by decide) (hts (.fieldLink RX3 30 "PuddleMinistries$Street" "paidBy" "[I") (List.mem_of_getElem? (i := 7) rfl)) (fun _ h9 => h9) rfl dX3_copyFrom_67 ?_
  refine lv_aload_n hx hb dX3_copyFrom_70 rfl (lv_at hl 0 rfl) ?_
  refine va_get (D := G) (ci := 3) (v := .ref (a 6)) (C := RX3) (T := TX3) (N := 15) hx hb hts in_wsX30 hown hev.1 hP 0 rfl rfl 6 (by decide) (hts (.fieldLink RX3 30 "PuddleMinistries$Street" "paidBy" "[I") (List.mem_of_getElem? (i := 7) rfl)) (fun _ h9 => h9) rfl dX3_copyFrom_71 ?_
  refine goVw (va_runSN (As := [.ref (b 6), .ref (a 6)]) (rest := []) ⟨hx, hb, hml, hown, hts⟩ (CtV.use (c_X4_copy l G ca ((stT ca h a (s_se T, s_br T, s_wa T, s_cr T, s_sh T, s_ow T, s_pa S, s_cb S, s_pd S, s_fz S, s_dk S, s_dy S, s_fe S, s_dr S, s_dn S)) ++ (stT ca h2 b T)) 17 7 (b 6) (a 6) 6 (s_pa T) (s_pa S) rfl rfl (by decide) (by decide)) H.size) ⟨va_cnB 2 hts gX3_copyFrom_X4_copy_n42 rfl rfl rfl hev.2.2.1 (hts (.initialized RX4) (List.mem_of_getElem? (i := 17) rfl)) (by decide +kernel) ⟨Nat.le_of_ble_eq_true rfl, Nat.le_of_ble_eq_true rfl⟩, hts (.static yX4_copy) (List.mem_of_getElem? (i := 16) rfl), trivial⟩ (pcW_S hev hP hD) rfl rfl hl.1 rfl (lv_room (Nat.le_of_ble_eq_true rfl)) dX3_copyFrom_74 ⟨Nat.zero_le _, Nat.zero_le _⟩) hD hS hA rfl (fun H locs hP hD hS => ?_)
  have hP : va_P G vwCl ((stT ca h a (s_se T, s_br T, s_wa T, s_cr T, s_sh T, s_ow T, s_pa T, s_cb S, s_pd S, s_fz S, s_dk S, s_dy S, s_fe S, s_dr S, s_dn S)) ++ (stT ca h2 b T)) H := hP
  have hD : va_D A ((stT ca h a (s_se T, s_br T, s_wa T, s_cr T, s_sh T, s_ow T, s_pa T, s_cb S, s_pd S, s_fz S, s_dk S, s_dy S, s_fe S, s_dr S, s_dn S)) ++ (stT ca h2 b T)) := hD
  refine lv_aload_n hx hb dX3_copyFrom_77 rfl (lv_at hl 1 rfl) ?_
  refine va_get (D := G) (ci := 3) (v := .ref (b 7)) (C := RX3) (T := TX3) (N := 15) hx hb hts in_wsX30 hown hev.1 hP 10 rfl rfl 7 (by decide) (hts (.fieldLink RX3 33 "PuddleMinistries$Street" "crossedBy" "[I") (List.mem_of_getElem? (i := 8) rfl)) (fun _ h9 => h9) rfl dX3_copyFrom_78 ?_
  refine lv_aload_n hx hb dX3_copyFrom_81 rfl (lv_at hl 0 rfl) ?_
  refine va_get (D := G) (ci := 3) (v := .ref (a 7)) (C := RX3) (T := TX3) (N := 15) hx hb hts in_wsX30 hown hev.1 hP 0 rfl rfl 7 (by decide) (hts (.fieldLink RX3 33 "PuddleMinistries$Street" "crossedBy" "[I") (List.mem_of_getElem? (i := 8) rfl)) (fun _ h9 => h9) rfl dX3_copyFrom_82 ?_
  refine goVw (va_runSN (As := [.ref (b 7), .ref (a 7)]) (rest := []) ⟨hx, hb, hml, hown, hts⟩ (CtV.use (c_X4_copy l G ca ((stT ca h a (s_se T, s_br T, s_wa T, s_cr T, s_sh T, s_ow T, s_pa T, s_cb S, s_pd S, s_fz S, s_dk S, s_dy S, s_fe S, s_dr S, s_dn S)) ++ (stT ca h2 b T)) 18 8 (b 7) (a 7) 6 (s_cb T) (s_cb S) rfl rfl (by decide) (by decide)) H.size) ⟨va_cnB 2 hts gX3_copyFrom_X4_copy_n42 rfl rfl rfl hev.2.2.1 (hts (.initialized RX4) (List.mem_of_getElem? (i := 17) rfl)) (by decide +kernel) ⟨Nat.le_of_ble_eq_true rfl, Nat.le_of_ble_eq_true rfl⟩, hts (.static yX4_copy) (List.mem_of_getElem? (i := 16) rfl), trivial⟩ (pcW_S hev hP hD) rfl rfl hl.1 rfl (lv_room (Nat.le_of_ble_eq_true rfl)) dX3_copyFrom_85 ⟨Nat.zero_le _, Nat.zero_le _⟩) hD hS hA rfl (fun H locs hP hD hS => ?_)
  have hP : va_P G vwCl ((stT ca h a (s_se T, s_br T, s_wa T, s_cr T, s_sh T, s_ow T, s_pa T, s_cb T, s_pd S, s_fz S, s_dk S, s_dy S, s_fe S, s_dr S, s_dn S)) ++ (stT ca h2 b T)) H := hP
  have hD : va_D A ((stT ca h a (s_se T, s_br T, s_wa T, s_cr T, s_sh T, s_ow T, s_pa T, s_cb T, s_pd S, s_fz S, s_dk S, s_dy S, s_fe S, s_dr S, s_dn S)) ++ (stT ca h2 b T)) := hD
  refine lv_aload_n hx hb dX3_copyFrom_88 rfl (lv_at hl 1 rfl) ?_
  refine va_get (D := G) (ci := 3) (v := .ref (b 8)) (C := RX3) (T := TX3) (N := 15) hx hb hts in_wsX30 hown hev.1 hP 10 rfl rfl 8 (by decide) (hts (.fieldLink RX3 36 "PuddleMinistries$Street" "permitDays" "[I") (List.mem_of_getElem? (i := 9) rfl)) (fun _ h9 => h9) rfl dX3_copyFrom_89 ?_
  refine lv_aload_n hx hb dX3_copyFrom_92 rfl (lv_at hl 0 rfl) ?_
  refine va_get (D := G) (ci := 3) (v := .ref (a 8)) (C := RX3) (T := TX3) (N := 15) hx hb hts in_wsX30 hown hev.1 hP 0 rfl rfl 8 (by decide) (hts (.fieldLink RX3 36 "PuddleMinistries$Street" "permitDays" "[I") (List.mem_of_getElem? (i := 9) rfl)) (fun _ h9 => h9) rfl dX3_copyFrom_93 ?_
  refine goVw (va_runSN (As := [.ref (b 8), .ref (a 8)]) (rest := []) ⟨hx, hb, hml, hown, hts⟩ (CtV.use (c_X4_copy l G ca ((stT ca h a (s_se T, s_br T, s_wa T, s_cr T, s_sh T, s_ow T, s_pa T, s_cb T, s_pd S, s_fz S, s_dk S, s_dy S, s_fe S, s_dr S, s_dn S)) ++ (stT ca h2 b T)) 19 9 (b 8) (a 8) 72 (s_pd T) (s_pd S) rfl rfl (by decide) (by decide)) H.size) ⟨va_cnB 2 hts gX3_copyFrom_X4_copy_n42 rfl rfl rfl hev.2.2.1 (hts (.initialized RX4) (List.mem_of_getElem? (i := 17) rfl)) (by decide +kernel) ⟨Nat.le_of_ble_eq_true rfl, Nat.le_of_ble_eq_true rfl⟩, hts (.static yX4_copy) (List.mem_of_getElem? (i := 16) rfl), trivial⟩ (pcW_S hev hP hD) rfl rfl hl.1 rfl (lv_room (Nat.le_of_ble_eq_true rfl)) dX3_copyFrom_96 ⟨Nat.zero_le _, Nat.zero_le _⟩) hD hS hA rfl (fun H locs hP hD hS => ?_)
  have hP : va_P G vwCl ((stT ca h a (s_se T, s_br T, s_wa T, s_cr T, s_sh T, s_ow T, s_pa T, s_cb T, s_pd T, s_fz S, s_dk S, s_dy S, s_fe S, s_dr S, s_dn S)) ++ (stT ca h2 b T)) H := hP
  have hD : va_D A ((stT ca h a (s_se T, s_br T, s_wa T, s_cr T, s_sh T, s_ow T, s_pa T, s_cb T, s_pd T, s_fz S, s_dk S, s_dy S, s_fe S, s_dr S, s_dn S)) ++ (stT ca h2 b T)) := hD
  refine lv_aload_n hx hb dX3_copyFrom_99 rfl (lv_at hl 0 rfl) ?_
  refine lv_aload_n hx hb dX3_copyFrom_100 rfl (lv_at hl 1 rfl) ?_
  refine va_get (D := G) (ci := 3) (v := .int (s_fz T)) (C := RX3) (T := TX3) (N := 15) hx hb hts in_wsX30 hown hev.1 hP 10 rfl rfl 9 (by decide) (hts (.fieldLink RX3 46 "PuddleMinistries$Street" "frozenSet" "I") (List.mem_of_getElem? (i := 10) rfl)) (fun _ h9 => h9) rfl dX3_copyFrom_101 ?_
  refine va_put (D := G) (ci := 3) (v := .int (s_fz T)) (ty := .int) (C := RX3) (T := TX3) (N := 15) hx hb hts in_wsX30 tyX3 tyX3_ok nmX3 hown hev.1 hP hD hS 0 rfl rfl 9 (by decide) (hts (.fieldLink RX3 46 "PuddleMinistries$Street" "frozenSet" "I") (List.mem_of_getElem? (i := 10) rfl)) (fun _ h9 => h9) rfl (by decide +kernel) rfl rfl (Nat.le_of_ble_eq_true rfl) dX3_copyFrom_104 (fun H locs hP hD hS => ?_)
  have hP : va_P G vwCl ((stT ca h a (s_se T, s_br T, s_wa T, s_cr T, s_sh T, s_ow T, s_pa T, s_cb T, s_pd T, s_fz T, s_dk S, s_dy S, s_fe S, s_dr S, s_dn S)) ++ (stT ca h2 b T)) H := hP
  have hD : va_D A ((stT ca h a (s_se T, s_br T, s_wa T, s_cr T, s_sh T, s_ow T, s_pa T, s_cb T, s_pd T, s_fz T, s_dk S, s_dy S, s_fe S, s_dr S, s_dn S)) ++ (stT ca h2 b T)) := hD
  refine lv_aload_n hx hb dX3_copyFrom_107 rfl (lv_at hl 0 rfl) ?_
  refine lv_aload_n hx hb dX3_copyFrom_108 rfl (lv_at hl 1 rfl) ?_
  refine va_get (D := G) (ci := 3) (v := .int (s_dk T)) (C := RX3) (T := TX3) (N := 15) hx hb hts in_wsX30 hown hev.1 hP 10 rfl rfl 10 (by decide) (hts (.fieldLink RX3 50 "PuddleMinistries$Street" "ducksSet" "I") (List.mem_of_getElem? (i := 11) rfl)) (fun _ h9 => h9) rfl dX3_copyFrom_109 ?_
  refine va_put (D := G) (ci := 3) (v := .int (s_dk T)) (ty := .int) (C := RX3) (T := TX3) (N := 15) hx hb hts in_wsX30 tyX3 tyX3_ok nmX3 hown hev.1 hP hD hS 0 rfl rfl 10 (by decide) (hts (.fieldLink RX3 50 "PuddleMinistries$Street" "ducksSet" "I") (List.mem_of_getElem? (i := 11) rfl)) (fun _ h9 => h9) rfl (by decide +kernel) rfl rfl (Nat.le_of_ble_eq_true rfl) dX3_copyFrom_112 (fun H locs hP hD hS => ?_)
  have hP : va_P G vwCl ((stT ca h a (s_se T, s_br T, s_wa T, s_cr T, s_sh T, s_ow T, s_pa T, s_cb T, s_pd T, s_fz T, s_dk T, s_dy S, s_fe S, s_dr S, s_dn S)) ++ (stT ca h2 b T)) H := hP
  have hD : va_D A ((stT ca h a (s_se T, s_br T, s_wa T, s_cr T, s_sh T, s_ow T, s_pa T, s_cb T, s_pd T, s_fz T, s_dk T, s_dy S, s_fe S, s_dr S, s_dn S)) ++ (stT ca h2 b T)) := hD
  refine lv_aload_n hx hb dX3_copyFrom_115 rfl (lv_at hl 0 rfl) ?_
  refine lv_aload_n hx hb dX3_copyFrom_116 rfl (lv_at hl 1 rfl) ?_
  refine va_get (D := G) (ci := 3) (v := .int (s_dy T)) (C := RX3) (T := TX3) (N := 15) hx hb hts in_wsX30 hown hev.1 hP 10 rfl rfl 11 (by decide) (hts (.fieldLink RX3 53 "PuddleMinistries$Street" "days" "I") (List.mem_of_getElem? (i := 12) rfl)) (fun _ h9 => h9) rfl dX3_copyFrom_117 ?_
  refine va_put (D := G) (ci := 3) (v := .int (s_dy T)) (ty := .int) (C := RX3) (T := TX3) (N := 15) hx hb hts in_wsX30 tyX3 tyX3_ok nmX3 hown hev.1 hP hD hS 0 rfl rfl 11 (by decide) (hts (.fieldLink RX3 53 "PuddleMinistries$Street" "days" "I") (List.mem_of_getElem? (i := 12) rfl)) (fun _ h9 => h9) rfl (by decide +kernel) rfl rfl (Nat.le_of_ble_eq_true rfl) dX3_copyFrom_120 (fun H locs hP hD hS => ?_)
  have hP : va_P G vwCl ((stT ca h a (s_se T, s_br T, s_wa T, s_cr T, s_sh T, s_ow T, s_pa T, s_cb T, s_pd T, s_fz T, s_dk T, s_dy T, s_fe S, s_dr S, s_dn S)) ++ (stT ca h2 b T)) H := hP
  have hD : va_D A ((stT ca h a (s_se T, s_br T, s_wa T, s_cr T, s_sh T, s_ow T, s_pa T, s_cb T, s_pd T, s_fz T, s_dk T, s_dy T, s_fe S, s_dr S, s_dn S)) ++ (stT ca h2 b T)) := hD
  refine lv_aload_n hx hb dX3_copyFrom_123 rfl (lv_at hl 0 rfl) ?_
  refine lv_aload_n hx hb dX3_copyFrom_124 rfl (lv_at hl 1 rfl) ?_
  refine va_get (D := G) (ci := 3) (v := .int (s_fe T)) (C := RX3) (T := TX3) (N := 15) hx hb hts in_wsX30 hown hev.1 hP 10 rfl rfl 12 (by decide) (hts (.fieldLink RX3 56 "PuddleMinistries$Street" "fell" "I") (List.mem_of_getElem? (i := 13) rfl)) (fun _ h9 => h9) rfl dX3_copyFrom_125 ?_
  refine va_put (D := G) (ci := 3) (v := .int (s_fe T)) (ty := .int) (C := RX3) (T := TX3) (N := 15) hx hb hts in_wsX30 tyX3 tyX3_ok nmX3 hown hev.1 hP hD hS 0 rfl rfl 12 (by decide) (hts (.fieldLink RX3 56 "PuddleMinistries$Street" "fell" "I") (List.mem_of_getElem? (i := 13) rfl)) (fun _ h9 => h9) rfl (by decide +kernel) rfl rfl (Nat.le_of_ble_eq_true rfl) dX3_copyFrom_128 (fun H locs hP hD hS => ?_)
  have hP : va_P G vwCl ((stT ca h a (s_se T, s_br T, s_wa T, s_cr T, s_sh T, s_ow T, s_pa T, s_cb T, s_pd T, s_fz T, s_dk T, s_dy T, s_fe T, s_dr S, s_dn S)) ++ (stT ca h2 b T)) H := hP
  have hD : va_D A ((stT ca h a (s_se T, s_br T, s_wa T, s_cr T, s_sh T, s_ow T, s_pa T, s_cb T, s_pd T, s_fz T, s_dk T, s_dy T, s_fe T, s_dr S, s_dn S)) ++ (stT ca h2 b T)) := hD
  refine lv_aload_n hx hb dX3_copyFrom_131 rfl (lv_at hl 0 rfl) ?_
  refine lv_aload_n hx hb dX3_copyFrom_132 rfl (lv_at hl 1 rfl) ?_
  refine va_get (D := G) (ci := 3) (v := .int (s_dr T)) (C := RX3) (T := TX3) (N := 15) hx hb hts in_wsX30 hown hev.1 hP 10 rfl rfl 13 (by decide) (hts (.fieldLink RX3 59 "PuddleMinistries$Street" "dried" "I") (List.mem_of_getElem? (i := 14) rfl)) (fun _ h9 => h9) rfl dX3_copyFrom_133 ?_
  refine va_put (D := G) (ci := 3) (v := .int (s_dr T)) (ty := .int) (C := RX3) (T := TX3) (N := 15) hx hb hts in_wsX30 tyX3 tyX3_ok nmX3 hown hev.1 hP hD hS 0 rfl rfl 13 (by decide) (hts (.fieldLink RX3 59 "PuddleMinistries$Street" "dried" "I") (List.mem_of_getElem? (i := 14) rfl)) (fun _ h9 => h9) rfl (by decide +kernel) rfl rfl (Nat.le_of_ble_eq_true rfl) dX3_copyFrom_136 (fun H locs hP hD hS => ?_)
  have hP : va_P G vwCl ((stT ca h a (s_se T, s_br T, s_wa T, s_cr T, s_sh T, s_ow T, s_pa T, s_cb T, s_pd T, s_fz T, s_dk T, s_dy T, s_fe T, s_dr T, s_dn S)) ++ (stT ca h2 b T)) H := hP
  have hD : va_D A ((stT ca h a (s_se T, s_br T, s_wa T, s_cr T, s_sh T, s_ow T, s_pa T, s_cb T, s_pd T, s_fz T, s_dk T, s_dy T, s_fe T, s_dr T, s_dn S)) ++ (stT ca h2 b T)) := hD
  refine lv_aload_n hx hb dX3_copyFrom_139 rfl (lv_at hl 0 rfl) ?_
  refine lv_aload_n hx hb dX3_copyFrom_140 rfl (lv_at hl 1 rfl) ?_
  refine va_get (D := G) (ci := 3) (v := .int (s_dn T)) (C := RX3) (T := TX3) (N := 15) hx hb hts in_wsX30 hown hev.1 hP 10 rfl rfl 14 (by decide) (hts (.fieldLink RX3 62 "PuddleMinistries$Street" "drained" "I") (List.mem_of_getElem? (i := 15) rfl)) (fun _ h9 => h9) rfl dX3_copyFrom_141 ?_
  refine va_put (D := G) (ci := 3) (v := .int (s_dn T)) (ty := .int) (C := RX3) (T := TX3) (N := 15) hx hb hts in_wsX30 tyX3 tyX3_ok nmX3 hown hev.1 hP hD hS 0 rfl rfl 14 (by decide) (hts (.fieldLink RX3 62 "PuddleMinistries$Street" "drained" "I") (List.mem_of_getElem? (i := 15) rfl)) (fun _ h9 => h9) rfl (by decide +kernel) rfl rfl (Nat.le_of_ble_eq_true rfl) dX3_copyFrom_144 (fun H locs hP hD hS => ?_)
  have hP : va_P G vwCl ((stT ca h a (s_se T, s_br T, s_wa T, s_cr T, s_sh T, s_ow T, s_pa T, s_cb T, s_pd T, s_fz T, s_dk T, s_dy T, s_fe T, s_dr T, s_dn T)) ++ (stT ca h2 b T)) H := hP
  have hD : va_D A ((stT ca h a (s_se T, s_br T, s_wa T, s_cr T, s_sh T, s_ow T, s_pa T, s_cb T, s_pd T, s_fz T, s_dk T, s_dy T, s_fe T, s_dr T, s_dn T)) ++ (stT ca h2 b T)) := hD
  exact hret _ _ _ _ hP hS dX3_copyFrom_147
end
section
theorem wb_tb (n : Nat) : (lN n).toBitVec = BitVec.ofNat 64 n := rfl
theorem wb_inj {a b : Int64} (h : a.toBitVec = b.toBitVec) : a = b := Int64.toBitVec_inj.mp h
theorem wb_tn {n : Nat} (h : n < 2 ^ 64) : (lN n).toBitVec.toNat = n := by rw [wb_tb, BitVec.toNat_ofNat, Nat.mod_eq_of_lt h]
theorem wb_of (x : Int64) : ∃ n, n < 2 ^ 64 ∧ x = lN n := ⟨x.toBitVec.toNat, x.toBitVec.isLt, wb_inj (by rw [wb_tb]; simp)⟩
theorem wb_of32 (x : Int32) : ∃ n, n < 2 ^ 32 ∧ x = nI n := ⟨x.toBitVec.toNat, x.toBitVec.isLt, Int32.toBitVec_inj.mp (by show _ = BitVec.ofNat 32 _; simp)⟩
theorem wb_c : ∀ k, k < 64 → ((nI k).toInt64 &&& 63) = lN k := by decide +kernel
theorem wb_cu : ∀ k, k < 64 → ((nI k).toInt64.toUInt64 &&& Int64.toUInt64 63) = UInt64.ofNat k := by decide +kernel
theorem wb_sm : ∀ k, k < 64 → (BitVec.ofNat 64 k).smod 64 = BitVec.ofNat 64 k := by decide +kernel
theorem wb_pw {a b : Nat} (h : a ≤ b) : 2 ^ b = 2 ^ a * 2 ^ (b - a) := by rw [← Nat.pow_add]; congr 1; omega
theorem wb_lt2 {a b : Nat} (h : a < b) : 2 ^ a < 2 ^ b := Nat.pow_lt_pow_right (by decide) h
theorem wb_mod (n : Nat) : lN n = lN (n % 2 ^ 64) := wb_inj (by rw [wb_tb, wb_tb]; apply BitVec.eq_of_toNat_eq; rw [BitVec.toNat_ofNat, BitVec.toNat_ofNat, Nat.mod_mod])
theorem wb_shr {n k : Nat} (hn : n < 2 ^ 64) (hk : k < 64) : ((lN n).toUInt64 >>> ((nI k).toInt64.toUInt64 &&& Int64.toUInt64 63)).toInt64 = lN (n / 2 ^ k) := by
  rw [wb_cu k hk]
  apply wb_inj
  apply BitVec.eq_of_toNat_eq
  show ((lN n).toUInt64 >>> UInt64.ofNat k).toNat = (BitVec.ofNat 64 _).toNat
  have h1 : (UInt64.ofNat k).toNat = k := by
    show (BitVec.ofNat 64 k).toNat = k
    rw [BitVec.toNat_ofNat, Nat.mod_eq_of_lt (by omega)]
  have h2 : (lN n).toUInt64.toNat = n := wb_tn hn
  rw [UInt64.toNat_shiftRight, h1, h2, Nat.mod_eq_of_lt hk, Nat.shiftRight_eq_div_pow, BitVec.toNat_ofNat, Nat.mod_eq_of_lt (Nat.lt_of_le_of_lt (Nat.div_le_self _ _) hn)]
theorem wb_shl (n : Nat) {k : Nat} (hk : k < 64) : lN n <<< ((nI k).toInt64 &&& 63) = lN (n * 2 ^ k) := by
  rw [wb_c k hk]
  apply wb_inj
  rw [Int64.toBitVec_shiftLeft, wb_tb, wb_tb, wb_tb, wb_sm k hk]
  apply BitVec.eq_of_toNat_eq
  rw [BitVec.shiftLeft_eq', BitVec.toNat_shiftLeft, BitVec.toNat_ofNat, BitVec.toNat_ofNat, BitVec.toNat_ofNat, Nat.mod_eq_of_lt (show k < 2 ^ 64 by omega), Nat.shiftLeft_eq, Nat.mul_mod, Nat.mod_mod, ← Nat.mul_mod]
theorem wb_and {a b : Nat} (ha : a < 2 ^ 64) (hb : b < 2 ^ 64) : lN a &&& lN b = lN (a &&& b) := by
  apply wb_inj
  rw [Int64.toBitVec_and, wb_tb, wb_tb, wb_tb]
  apply BitVec.eq_of_toNat_eq
  rw [BitVec.toNat_and, BitVec.toNat_ofNat, BitVec.toNat_ofNat, BitVec.toNat_ofNat, Nat.mod_eq_of_lt ha, Nat.mod_eq_of_lt hb, Nat.mod_eq_of_lt (Nat.and_lt_two_pow _ hb)]
theorem wb_or {a b : Nat} (ha : a < 2 ^ 64) (hb : b < 2 ^ 64) : lN a ||| lN b = lN (a ||| b) := by
  apply wb_inj
  rw [Int64.toBitVec_or, wb_tb, wb_tb, wb_tb]
  apply BitVec.eq_of_toNat_eq
  rw [BitVec.toNat_or, BitVec.toNat_ofNat, BitVec.toNat_ofNat, BitVec.toNat_ofNat, Nat.mod_eq_of_lt ha, Nat.mod_eq_of_lt hb, Nat.mod_eq_of_lt (Nat.or_lt_two_pow ha hb)]
theorem wb_mask {n k : Nat} (hn : n < 2 ^ 64) (hk : k < 64) : lN n &&& lN (2 ^ k - 1) = lN (n % 2 ^ k) := by
  rw [wb_and hn (by have := wb_lt2 hk; omega), Nat.and_two_pow_sub_one_eq_mod]
theorem wb_a1 {n : Nat} (hn : n < 2 ^ 64) : lN n &&& 1 = lN (n % 2) := wb_mask (k := 1) hn (by decide)
theorem wb_bit {n k : Nat} (hn : n < 2 ^ 64) (hk : k < 64) : ((lN n).toUInt64 >>> ((nI k).toInt64.toUInt64 &&& Int64.toUInt64 63)).toInt64 &&& 1 = lN (n / 2 ^ k % 2) := by
  rw [wb_shr hn hk, wb_a1 (Nat.lt_of_le_of_lt (Nat.div_le_self _ _) hn)]
/-! class Pad -/
theorem and255L (x : Nat) (h : x < 2 ^ 64) : lN x &&& 255 = lN (x % 256) := wb_mask (k := 8) h (by decide)
theorem lc_eq {a b : Nat} (ha : a < 2 ^ 64) (hb : b < 2 ^ 64) : lg_cmp (lN a) (lN b) = 0 ↔ a = b := (lg_cmp_eq _ _).trans ⟨fun h => by
  have h1 : (lN a).toBitVec.toNat = (lN b).toBitVec.toNat := by rw [h]
  rwa [wb_tn ha, wb_tn hb] at h1, fun h => by rw [h]⟩
theorem lc_lt {a b : Nat} (ha : a < 2 ^ 63) (hb : b < 2 ^ 63) : lg_cmp (lN a) (lN b) < 0 ↔ a < b := (lg_cmp_lt _ _).trans (pk_lLT ha hb)
theorem lc_le {a b : Nat} (ha : a < 2 ^ 63) (hb : b < 2 ^ 63) : lg_cmp (lN a) (lN b) ≤ 0 ↔ a ≤ b := (lg_cmp_le _ _).trans (pk_lLE ha hb)
theorem pred_nI {m : Nat} (h : 0 < m) : nI m - 1 = nI (m - 1) := by
  obtain ⟨k, rfl⟩ : ∃ k, m = k + 1 := ⟨m - 1, by omega⟩
  exact nI_pred k
theorem i2c_nI {q : Nat} (h : q < 65536) : ((nI q).toUInt32 % 65536).toInt32 = nI q := by rw [pk_char, pk_tn (by omega), Nat.mod_eq_of_lt h]
theorem nar_ch {q : Nat} (h : q < 65536) : vp_nar .char (nI q) = nI q := by unfold vp_nar; rw [(pk_charN h).1]
def sh8 (x i : Nat) : Nat := x / 2 ^ (8 * i)
theorem sh8_s (x i : Nat) : sh8 x (i + 1) = sh8 x i / 2 ^ 8 := by unfold sh8; rw [Nat.div_div_eq_div_mul, ← Nat.pow_add]; congr 2
theorem sh8_0 (x : Nat) : sh8 x 0 = x := by unfold sh8; simp
theorem sh8_le (x i : Nat) : sh8 x i ≤ x := Nat.div_le_self _ _
theorem back_nI {k i : Nat} (h : i < k) : nI (k - (i + 1)) - 1 = nI (k - i) - 1 + (-1) := by
  rw [pred_nI (m := k - i) (by omega), Int32.sub_eq_add_neg]
  rfl
def chF (x i : Nat) : Nat := if sh8 x i = 0 then i else 0
def chG (x : Nat) : Nat → Nat → Nat
  | 0, i => chF x i
  | n + 1, i => if sh8 x i % 256 = 0 then chF x i else if sh8 x i % 256 < 33 then 0 else if sh8 x i % 256 ≤ 126 then chG x n (i + 1) else 0
theorem chG_s (x n i : Nat) : chG x (n + 1) i = if sh8 x i % 256 = 0 then chF x i else if sh8 x i % 256 < 33 then 0 else if sh8 x i % 256 ≤ 126 then chG x n (i + 1) else 0 := rfl
theorem chG_0 (x i : Nat) : chG x 0 i = chF x i := rfl
def apL (g : Nat → Int32) (n x k : Nat) : Nat → (Nat → Int32) | 0 => g | i + 1 => upd (apL g n x k i) (n + i) (nI (sh8 x (k - i - 1) % 256))
def iaC (x : Int32) : Int32 := if x < 49 then 0 else if 57 < x then 0 else 1
def bhC (x : Int32) : Int32 := if x = 114 then 1 else if x = 115 then 1 else if x = 102 then 1 else if x = 100 then 1 else 0
def wtC (x : Int32) : Int32 := if iaC x = 0 then (if x = 115 then 0 else if x = 102 then 10 else if x = 100 then 11 else (-1)) else x - 48
theorem iaC_nar (x : Int32) : narrow .boolean (.int (iaC x)) = .int (iaC x) := by unfold iaC; split; rfl; split <;> rfl
theorem bhC_nar (x : Int32) : narrow .boolean (.int (bhC x)) = .int (bhC x) := by unfold bhC; split; rfl; split; rfl; split; rfl; split <;> rfl
def dyL (g : Nat → Int32) : Nat → Int32 | 0 => 0 | i + 1 => if wtC (g i) = 11 then dyL g i + 1 else dyL g i
theorem dyL_s (g : Nat → Int32) (i : Nat) : dyL g (i + 1) = if wtC (g i) = 11 then dyL g i + 1 else dyL g i := rfl
def dueL (g : Nat → Int32) : Nat → Int32 | 0 => 0 | i + 1 => if g i = 114 then 1 else 0
def okL (g : Nat → Int32) (i : Nat) : Int32 := if dueL g i = 0 then bhC (g i) else iaC (g i)
def ffE (g : Nat → Int32) (n : Nat) : Int32 := if dueL g n = 0 then (if nI n = 0 then nI n else (-6)) else nI n
def ffG (g : Nat → Int32) (n : Nat) : Nat → Nat → Int32 | 0, _ => ffE g n | k + 1, i => if okL g i = 0 then nI i else ffG g n k (i + 1)
theorem ffG_s (g : Nat → Int32) (n k i : Nat) : ffG g n (k + 1) i = if okL g i = 0 then nI i else ffG g n k (i + 1) := rfl
set_option maxHeartbeats 4000000 in
set_option maxRecDepth 100000 in
theorem c_X1_charactersIn (l : Launch) (G : va_G) (ca : Nat → ClassId) (x : Nat) (hx64 : x < 2 ^ 64) : CtI l yX1_charactersIn wsX1_charactersIn ({ frames := 0, cells := 0, slots := 0, locals := 0 }) [.long (lN x)] G ca ([]) ([]) (nI (chG x 8 0)) := by
  refine CtI.ofW (cc := cX1_charactersIn) (maxL := 7) (rt := .int) (by decide) rfl (Nat.le_of_ble_eq_true rfl) rfl ?_
  intro pr en s m be me c A ls Q H hx hb hml hts hown hev hP hD hA hS hl hret
  have hown : s.vm.findClass RX1 = some m.cls := hown
  have hl : lv_has ls 7 [(0, .long (lN x))] := hl
  refine lv_lload_n hx hb dX1_charactersIn_0 rfl (lv_at hl 0 rfl) ?_
  refine lv_lstore_n (lv' := [(2, .long (lN x)), (0, .long (lN x))]) hx hb dX1_charactersIn_1 rfl hl (by decide) rfl (fun ls hl => ?_)
  refine lv_iconst (v := nI 0) hx hb dX1_charactersIn_2 (by decide) ?_
  refine lv_istore (lv' := [(4, .int (nI 0)), (2, .long (lN x)), (0, .long (lN x))]) hx hb dX1_charactersIn_3 hl (by decide) rfl (fun ls hl => ?_)
  have loop_5 : ∀ (n i : Nat), i + n = 8 → chG x n i = chG x 8 0 → ∀ (H : Heap) (locs : List Loc) (ls : Array Slot), va_P G vwCl ([]) H → va_D A ([]) → va_S A s.heap H locs → lv_has ls 7 [(0, .long (lN x)), (2, .long (lN (sh8 x i))), (4, .int (nI i))] → W pr l en ({ frames := 0, cells := 0, slots := 0, locals := 0 } : Room) s m ([.long (lN x)] : List Value).toArray be me c H locs 0 0 Q (F0 m 5 ls []) := by
    intro n
    induction n with
    | zero =>
      intro i hi hr H locs ls hP hD hS hl
      obtain rfl : i = 8 := by omega
      have hb64 := sh8_le x 8
      refine lv_iload hx hb dX1_charactersIn_5 (lv_at hl 2 rfl) ?_
      refine lv_bipush (v := nI 8) hx hb dX1_charactersIn_7 (by decide) ?_
      refine lv_icmp_ge (tgt := 60) hx hb dX1_charactersIn_9 (by decide) (fun c_1 => ?_) (fun c_1 => ?_)
      · skip
        refine lv_lload_n hx hb dX1_charactersIn_60 rfl (lv_at hl 1 rfl) ?_
        refine lv_lconst (v := 0) hx hb dX1_charactersIn_61 (by decide) ?_
        refine W.lcmp hx hb dX1_charactersIn_62 ?_
        refine lv_if_ne (tgt := 71) hx hb dX1_charactersIn_63 (by decide) (fun c_2 => ?_) (fun c_2 => ?_)
        · skip
          have nc_2 : ¬ (sh8 x 8) = 0 := fun q => c_2 ((lc_eq (a := (sh8 x 8)) (b := 0) (by omega) (by omega)).mpr q)
          refine lv_iconst (v := nI 0) hx hb dX1_charactersIn_71 (by decide) ?_
          refine lv_eqi (y := nI (chG x 8 0)) (by first | rw [← hr, chG_s, if_neg nc_2, chF, if_neg nc_2] | rw [← hr, chG_0, chF, if_neg nc_2]) ?_
          exact hret _ _ _ _ hP hS dX1_charactersIn_72
        · skip
          have nc_2 : (sh8 x 8) = 0 := (lc_eq (a := (sh8 x 8)) (b := 0) (by omega) (by omega)).mp c_2
          refine lv_iload hx hb dX1_charactersIn_66 (lv_at hl 2 rfl) ?_
          refine lv_goto (tgt := 72) hx hb dX1_charactersIn_68 (by decide) ?_
          refine lv_eqi (y := nI (chG x 8 0)) (by first | rw [← hr, chG_s, if_pos nc_2, chF, if_pos nc_2] | rw [← hr, chG_0, chF, if_pos nc_2]) ?_
          exact hret _ _ _ _ hP hS dX1_charactersIn_72
      · skip
        exact absurd (nI_le (by omega) (by omega)) c_1
    | succ n ih =>
      intro i hi hr H locs ls hP hD hS hl
      have hlt : i < 8 := by omega
      have hb64 := sh8_le x i
      refine lv_iload hx hb dX1_charactersIn_5 (lv_at hl 2 rfl) ?_
      refine lv_bipush (v := nI 8) hx hb dX1_charactersIn_7 (by decide) ?_
      refine lv_icmp_ge (tgt := 60) hx hb dX1_charactersIn_9 (by decide) (fun c_3 => ?_) (fun c_3 => ?_)
      · skip
        exact absurd c_3 (nI_ge (by omega) (by omega))
      · skip
        refine lv_lload_n hx hb dX1_charactersIn_12 rfl (lv_at hl 1 rfl) ?_
        refine lv_ldc2 hx hb hown (hts (.constantLong RX1 15 (255)) (List.mem_of_getElem? (i := 1) rfl)) dX1_charactersIn_13 ?_
        refine lv_land hx hb dX1_charactersIn_16 ?_
        refine lv_eql (y := lN ((sh8 x i) % 256)) (and255L _ (by omega)) ?_
        refine lv_lconst (v := 0) hx hb dX1_charactersIn_17 (by decide) ?_
        refine W.lcmp hx hb dX1_charactersIn_18 ?_
        refine lv_if_eq (tgt := 60) hx hb dX1_charactersIn_19 (by decide) (fun c_4 => ?_) (fun c_4 => ?_)
        · skip
          have nc_4 : ((sh8 x i) % 256) = 0 := (lc_eq (a := ((sh8 x i) % 256)) (b := 0) (by omega) (by omega)).mp c_4
          refine lv_lload_n hx hb dX1_charactersIn_60 rfl (lv_at hl 1 rfl) ?_
          refine lv_lconst (v := 0) hx hb dX1_charactersIn_61 (by decide) ?_
          refine W.lcmp hx hb dX1_charactersIn_62 ?_
          refine lv_if_ne (tgt := 71) hx hb dX1_charactersIn_63 (by decide) (fun c_5 => ?_) (fun c_5 => ?_)
          · skip
            have nc_5 : ¬ (sh8 x i) = 0 := fun q => c_5 ((lc_eq (a := (sh8 x i)) (b := 0) (by omega) (by omega)).mpr q)
            refine lv_iconst (v := nI 0) hx hb dX1_charactersIn_71 (by decide) ?_
            refine lv_eqi (y := nI (chG x 8 0)) (by first | rw [← hr, chG_s, if_pos nc_4, chF, if_neg nc_5] | rw [← hr, chG_0, chF, if_neg nc_5]) ?_
            exact hret _ _ _ _ hP hS dX1_charactersIn_72
          · skip
            have nc_5 : (sh8 x i) = 0 := (lc_eq (a := (sh8 x i)) (b := 0) (by omega) (by omega)).mp c_5
            refine lv_iload hx hb dX1_charactersIn_66 (lv_at hl 2 rfl) ?_
            refine lv_goto (tgt := 72) hx hb dX1_charactersIn_68 (by decide) ?_
            refine lv_eqi (y := nI (chG x 8 0)) (by first | rw [← hr, chG_s, if_pos nc_4, chF, if_pos nc_5] | rw [← hr, chG_0, chF, if_pos nc_5]) ?_
            exact hret _ _ _ _ hP hS dX1_charactersIn_72
        · skip
          have nc_4 : ¬ ((sh8 x i) % 256) = 0 := fun q => c_4 ((lc_eq (a := ((sh8 x i) % 256)) (b := 0) (by omega) (by omega)).mpr q)
          refine lv_lload_n hx hb dX1_charactersIn_22 rfl (lv_at hl 1 rfl) ?_
          refine lv_ldc2 hx hb hown (hts (.constantLong RX1 15 (255)) (List.mem_of_getElem? (i := 1) rfl)) dX1_charactersIn_23 ?_
          refine lv_land hx hb dX1_charactersIn_26 ?_
          refine lv_eql (y := lN ((sh8 x i) % 256)) (and255L _ (by omega)) ?_
          refine lv_lstore (lv' := [(5, .long (lN ((sh8 x i) % 256))), (0, .long (lN x)), (2, .long (lN (sh8 x i))), (4, .int (nI i))]) hx hb dX1_charactersIn_27 hl (by decide) rfl (fun ls hl => ?_)
          refine lv_lload hx hb dX1_charactersIn_29 (lv_at hl 0 rfl) ?_
          refine lv_ldc2 hx hb hown (hts (.constantLong RX1 17 (33)) (List.mem_of_getElem? (i := 2) rfl)) dX1_charactersIn_31 ?_
          refine W.lcmp hx hb dX1_charactersIn_34 ?_
          refine lv_if_lt (tgt := 47) hx hb dX1_charactersIn_35 (by decide) (fun c_6 => ?_) (fun c_6 => ?_)
          · skip
            have nc_6 : ((sh8 x i) % 256) < 33 := (lc_lt (a := ((sh8 x i) % 256)) (b := 33) (by omega) (by omega)).mp c_6
            refine lv_iconst (v := nI 0) hx hb dX1_charactersIn_47 (by decide) ?_
            refine lv_eqi (y := nI (chG x 8 0)) (by rw [← hr, chG_s, if_neg nc_4, if_pos nc_6]) ?_
            exact hret _ _ _ _ hP hS dX1_charactersIn_48
          · skip
            have nc_6 : ¬ ((sh8 x i) % 256) < 33 := fun q => c_6 ((lc_lt (a := ((sh8 x i) % 256)) (b := 33) (by omega) (by omega)).mpr q)
            refine lv_lload hx hb dX1_charactersIn_38 (lv_at hl 0 rfl) ?_
            refine lv_ldc2 hx hb hown (hts (.constantLong RX1 19 (126)) (List.mem_of_getElem? (i := 3) rfl)) dX1_charactersIn_40 ?_
            refine W.lcmp hx hb dX1_charactersIn_43 ?_
            refine lv_if_le (tgt := 49) hx hb dX1_charactersIn_44 (by decide) (fun c_7 => ?_) (fun c_7 => ?_)
            · skip
              have nc_7 : ((sh8 x i) % 256) ≤ 126 := (lc_le (a := ((sh8 x i) % 256)) (b := 126) (by omega) (by omega)).mp c_7
              refine lv_lload_n hx hb dX1_charactersIn_49 rfl (lv_at hl 2 rfl) ?_
              refine lv_bipush (v := nI 8) hx hb dX1_charactersIn_50 (by decide) ?_
              refine lv_lushr (v := lN ((sh8 x i) / 2 ^ 8)) hx hb dX1_charactersIn_52 (wb_shr (by omega) (by omega)) ?_
              refine lv_lstore_n (lv' := [(2, .long (lN ((sh8 x i) / 2 ^ 8))), (5, .long (lN ((sh8 x i) % 256))), (0, .long (lN x)), (4, .int (nI i))]) hx hb dX1_charactersIn_53 rfl hl (by decide) rfl (fun ls hl => ?_)
              refine lv_iinc (v := nI (i + 1)) (lv' := [(4, .int (nI (i + 1))), (2, .long (lN ((sh8 x i) / 2 ^ 8))), (5, .long (lN ((sh8 x i) % 256))), (0, .long (lN x))]) hx hb dX1_charactersIn_54 hl (k := 3) rfl (nI_1 _) (by decide) rfl (fun ls hl => ?_)
              refine lv_goto (tgt := 5) hx hb dX1_charactersIn_57 (by decide) ?_
              exact ih (i + 1) (by omega) (by rw [← hr, chG_s, if_neg nc_4, if_neg nc_6, if_pos nc_7]) _ _ _ hP (D_of hD rfl) hS (by rw [show (lN (sh8 x (i + 1))) = (lN ((sh8 x i) / 2 ^ 8)) from by rw [sh8_s]]; exact lv_sub hl [3, 1, 0] rfl)
            · skip
              have nc_7 : ¬ ((sh8 x i) % 256) ≤ 126 := fun q => c_7 ((lc_le (a := ((sh8 x i) % 256)) (b := 126) (by omega) (by omega)).mpr q)
              refine lv_iconst (v := nI 0) hx hb dX1_charactersIn_47 (by decide) ?_
              refine lv_eqi (y := nI (chG x 8 0)) (by rw [← hr, chG_s, if_neg nc_4, if_neg nc_6, if_neg nc_7]) ?_
              exact hret _ _ _ _ hP hS dX1_charactersIn_48
  exact loop_5 8 0 (by omega) (by rfl) _ _ _ hP (D_of hD rfl) hS (by rw [show (lN (sh8 x 0)) = (lN x) from by rw [sh8_0]]; exact lv_sub hl [2, 1, 0] rfl)
set_option maxHeartbeats 4000000 in
set_option maxRecDepth 100000 in
theorem c_X1_append (l : Launch) (G : va_G) (ca : Nat → ClassId) (hp ap : Nat) (g : Nat → Int32) (n : Nat) (x : Nat) (k : Nat) (hx64 : x < 2 ^ 64) (hk : k ≤ 8) (hnk : n + k ≤ 60) : CtV l yX1_append wsX1_append ({ frames := 0, cells := 0, slots := 0, locals := 0 }) [.ref hp, .long (lN x), .int (nI k)] G ca (paT ca hp ap (g, nI n)) (paT ca hp ap (apL g n x k k, nI (n + k))) := by
  refine CtV.ofW (cc := cX1_append) (maxL := 5) (by decide) rfl (Nat.le_of_ble_eq_true rfl) ?_
  intro pr en s m be me c A ls Q H hx hb hml hts hown hev hP hD hA hS hl hret
  have hown : s.vm.findClass RX1 = some m.cls := hown
  have hl : lv_has ls 5 [(0, .ref hp), (1, .long (lN x)), (3, .int (nI k))] := hl
  have in_wsX10 : ∀ w ∈ wsX10, w ∈ wsX1_append := fun _ h => List.mem_cons_of_mem _ (List.mem_append_right _ h)
  refine lv_iload_n hx hb dX1_append_0 rfl (lv_at hl 2 rfl) ?_
  refine lv_iconst (v := 1) hx hb dX1_append_1 (by decide) ?_
  refine lv_isub hx hb dX1_append_2 ?_
  refine lv_istore (lv' := [(4, .int ((nI k) - 1)), (0, .ref hp), (1, .long (lN x)), (3, .int (nI k))]) hx hb dX1_append_3 hl (by decide) rfl (fun ls hl => ?_)
  have loop_5 : ∀ (q i : Nat), i + q = k → ∀ (H : Heap) (locs : List Loc) (ls : Array Slot), va_P G vwCl (paT ca hp ap (apL g n x k i, nI (n + i))) H → va_D A (paT ca hp ap (apL g n x k i, nI (n + i))) → va_S A s.heap H locs → lv_has ls 5 [(0, .ref hp), (1, .long (lN x)), (3, .int (nI k)), (4, .int (nI (k - i) - 1))] → W pr l en ({ frames := 0, cells := 0, slots := 0, locals := 0 } : Room) s m ([.ref hp, .long (lN x), .int (nI k)] : List Value).toArray be me c H locs 0 0 Q (F0 m 5 ls []) := by
    intro q
    induction q with
    | zero =>
      intro i hi H locs ls hP hD hS hl
      obtain rfl : k = i := by omega
      refine lv_iload hx hb dX1_append_5 (lv_at hl 3 rfl) ?_
      refine lv_if_lt (tgt := 57) hx hb dX1_append_7 (by decide) (fun c_1 => ?_) (fun c_1 => ?_)
      · skip
        exact hret _ _ _ _ hP hS dX1_append_57
      · skip
        exact absurd (by rw [Nat.sub_self]; decide) c_1
    | succ q ih =>
      intro i hi H locs ls hP hD hS hl
      have hlt : i < k := by omega
      have hb64 := sh8_le x (k - i - 1)
      refine lv_iload hx hb dX1_append_5 (lv_at hl 3 rfl) ?_
      refine lv_if_lt (tgt := 57) hx hb dX1_append_7 (by decide) (fun c_2 => ?_) (fun c_2 => ?_)
      · skip
        exact absurd c_2 (by rw [pred_nI (by omega)]; exact nI_pos (by omega))
      · skip
        refine lv_aload_n hx hb dX1_append_10 rfl (lv_at hl 0 rfl) ?_
        refine va_get (D := G) (ci := 1) (v := .int (nI (n + i))) (C := RX1) (T := TX1) (N := 2) hx hb hts in_wsX10 hown hev.1 hP 0 rfl rfl 1 (by decide) (hts (.fieldLink RX1 21 "PuddleMinistries$Pad" "length" "I") (List.mem_of_getElem? (i := 1) rfl)) (fun _ h9 => h9) rfl dX1_append_11 ?_
        refine lv_bipush (v := nI 60) hx hb dX1_append_14 (by decide) ?_
        refine lv_icmp_ge (tgt := 57) hx hb dX1_append_16 (by decide) (fun c_3 => ?_) (fun c_3 => ?_)
        · skip
          exact absurd c_3 (nI_ge (by omega) (by omega))
        · skip
          refine lv_aload_n hx hb dX1_append_19 rfl (lv_at hl 0 rfl) ?_
          refine va_get (D := G) (ci := 1) (v := .ref ap) (C := RX1) (T := TX1) (N := 2) hx hb hts in_wsX10 hown hev.1 hP 0 rfl rfl 0 (by decide) (hts (.fieldLink RX1 11 "PuddleMinistries$Pad" "signs" "[C") (List.mem_of_getElem? (i := 2) rfl)) (fun _ h9 => h9) rfl dX1_append_20 ?_
          refine lv_aload_n hx hb dX1_append_23 rfl (lv_at hl 0 rfl) ?_
          refine va_get (D := G) (ci := 1) (v := .int (nI (n + i))) (C := RX1) (T := TX1) (N := 2) hx hb hts in_wsX10 hown hev.1 hP 0 rfl rfl 1 (by decide) (hts (.fieldLink RX1 21 "PuddleMinistries$Pad" "length" "I") (List.mem_of_getElem? (i := 1) rfl)) (fun _ h9 => h9) rfl dX1_append_24 ?_
          refine lv_lload_n hx hb dX1_append_27 rfl (lv_at hl 1 rfl) ?_
          refine lv_bipush (v := nI 8) hx hb dX1_append_28 (by decide) ?_
          refine lv_iload hx hb dX1_append_30 (lv_at hl 3 rfl) ?_
          refine lv_eqi (pred_nI (by omega)) ?_
          refine lv_imul hx hb dX1_append_32 ?_
          refine lv_eqi (pk_mul _ _) ?_
          refine lv_lushr (v := lN (sh8 x (k - i - 1))) hx hb dX1_append_33 (wb_shr hx64 (by omega)) ?_
          refine lv_ldc2 hx hb hown (hts (.constantLong RX1 15 (255)) (List.mem_of_getElem? (i := 3) rfl)) dX1_append_34 ?_
          refine lv_land hx hb dX1_append_37 ?_
          refine lv_eql (y := lN ((sh8 x (k - i - 1)) % 256)) (and255L _ (by omega)) ?_
          refine lv_l2i (v := nI (sh8 x (k - i - 1) % 256)) hx hb dX1_append_38 (lN_i _) ?_
          refine lv_i2c (v := nI (sh8 x (k - i - 1) % 256)) hx hb dX1_append_39 (i2c_nI (by omega)) ?_
          refine b_cast hx hb hev.1 hP hD hS 1 rfl rfl (j := (n + i)) (by omega) (by decide) dX1_append_40 (fun H locs hP hD hS => ?_)
          rw [nar_ch (by omega)] at hP hD
          have hP : va_P G vwCl (paT ca hp ap (upd (apL g n x k i) (n + i) (nI (sh8 x (k - i - 1) % 256)), nI (n + i))) H := hP
          have hD : va_D A (paT ca hp ap (upd (apL g n x k i) (n + i) (nI (sh8 x (k - i - 1) % 256)), nI (n + i))) := hD
          refine lv_aload_n hx hb dX1_append_41 rfl (lv_at hl 0 rfl) ?_
          refine lv_dup hx hb dX1_append_42 rfl ?_
          refine va_get (D := G) (ci := 1) (v := .int (nI (n + i))) (C := RX1) (T := TX1) (N := 2) hx hb hts in_wsX10 hown hev.1 hP 0 rfl rfl 1 (by decide) (hts (.fieldLink RX1 21 "PuddleMinistries$Pad" "length" "I") (List.mem_of_getElem? (i := 1) rfl)) (fun _ h9 => h9) rfl dX1_append_43 ?_
          refine lv_iconst (v := 1) hx hb dX1_append_46 (by decide) ?_
          refine lv_iadd hx hb dX1_append_47 ?_
          refine va_put (D := G) (ci := 1) (v := .int ((nI (n + i)) + 1)) (ty := .int) (C := RX1) (T := TX1) (N := 2) hx hb hts in_wsX10 tyX1 tyX1_ok nmX1 hown hev.1 hP hD hS 0 rfl rfl 1 (by decide) (hts (.fieldLink RX1 21 "PuddleMinistries$Pad" "length" "I") (List.mem_of_getElem? (i := 1) rfl)) (fun _ h9 => h9) rfl (by decide +kernel) rfl rfl (Nat.le_of_ble_eq_true rfl) dX1_append_48 (fun H locs hP hD hS => ?_)
          have hP : va_P G vwCl (paT ca hp ap (upd (apL g n x k i) (n + i) (nI (sh8 x (k - i - 1) % 256)), (nI (n + i)) + 1)) H := hP
          have hD : va_D A (paT ca hp ap (upd (apL g n x k i) (n + i) (nI (sh8 x (k - i - 1) % 256)), (nI (n + i)) + 1)) := hD
          refine lv_iinc (v := (nI (k - i) - 1) + (-1)) (lv' := [(4, .int ((nI (k - i) - 1) + (-1))), (0, .ref hp), (1, .long (lN x)), (3, .int (nI k))]) hx hb dX1_append_51 hl (k := 3) rfl (rfl) (by decide) rfl (fun ls hl => ?_)
          refine lv_goto (tgt := 5) hx hb dX1_append_54 (by decide) ?_
          exact ih (i + 1) (by omega) _ _ _ (by rw [show (apL g n x k (i + 1)) = (upd (apL g n x k i) (n + i) (nI (sh8 x (k - i - 1) % 256))) from by first | rfl | exact (nI_1 _).symm, show (nI (n + (i + 1))) = ((nI (n + i)) + 1) from by first | rfl | exact (nI_1 _).symm]; exact hP) (D_of hD paF) hS (by rw [show (nI (k - (i + 1)) - 1) = ((nI (k - i) - 1) + (-1)) from by exact back_nI hlt]; exact lv_sub hl [1, 2, 3, 0] rfl)
  exact loop_5 k 0 (by omega) _ _ _ hP (D_of hD paF) hS (lv_sub hl [1, 2, 3, 0] rfl)
set_option maxHeartbeats 4000000 in
set_option maxRecDepth 100000 in
theorem c_X1_isAmount (l : Launch) (G : va_G) (ca : Nat → ClassId) (x : Int32) : CtI l yX1_isAmount wsX1_isAmount ({ frames := 0, cells := 0, slots := 0, locals := 0 }) [.int x] G ca ([]) ([]) (iaC x) := by
  refine CtI.ofW (cc := cX1_isAmount) (maxL := 1) (rt := .boolean) (by decide) rfl (Nat.le_of_ble_eq_true rfl) (iaC_nar x) ?_
  intro pr en s m be me c A ls Q H hx hb hml hts hown hev hP hD hA hS hl hret
  have hown : s.vm.findClass RX1 = some m.cls := hown
  have hl : lv_has ls 1 [(0, .int x)] := hl
  refine lv_iload_n hx hb dX1_isAmount_0 rfl (lv_at hl 0 rfl) ?_
  refine lv_bipush (v := 49) hx hb dX1_isAmount_1 (by decide) ?_
  refine lv_icmp_lt (tgt := 16) hx hb dX1_isAmount_3 (by decide) (fun c_1 => ?_) (fun c_1 => ?_)
  · skip
    refine lv_iconst (v := 0) hx hb dX1_isAmount_16 (by decide) ?_
    refine lv_eqi (y := iaC x) (by rw [iaC, if_pos c_1]) ?_
    exact hret _ _ _ _ hP hS dX1_isAmount_17
  · skip
    refine lv_iload_n hx hb dX1_isAmount_6 rfl (lv_at hl 0 rfl) ?_
    refine lv_bipush (v := 57) hx hb dX1_isAmount_7 (by decide) ?_
    refine lv_icmp_gt (tgt := 16) hx hb dX1_isAmount_9 (by decide) (fun c_2 => ?_) (fun c_2 => ?_)
    · skip
      refine lv_iconst (v := 0) hx hb dX1_isAmount_16 (by decide) ?_
      refine lv_eqi (y := iaC x) (by rw [iaC, if_neg c_1, if_pos c_2]) ?_
      exact hret _ _ _ _ hP hS dX1_isAmount_17
    · skip
      refine lv_iconst (v := 1) hx hb dX1_isAmount_12 (by decide) ?_
      refine lv_goto (tgt := 17) hx hb dX1_isAmount_13 (by decide) ?_
      refine lv_eqi (y := iaC x) (by rw [iaC, if_neg c_1, if_neg c_2]) ?_
      exact hret _ _ _ _ hP hS dX1_isAmount_17
set_option maxHeartbeats 4000000 in
set_option maxRecDepth 100000 in
theorem c_X1_beginsHour (l : Launch) (G : va_G) (ca : Nat → ClassId) (x : Int32) : CtI l yX1_beginsHour wsX1_beginsHour ({ frames := 0, cells := 0, slots := 0, locals := 0 }) [.int x] G ca ([]) ([]) (bhC x) := by
  refine CtI.ofW (cc := cX1_beginsHour) (maxL := 1) (rt := .boolean) (by decide) rfl (Nat.le_of_ble_eq_true rfl) (bhC_nar x) ?_
  intro pr en s m be me c A ls Q H hx hb hml hts hown hev hP hD hA hS hl hret
  have hown : s.vm.findClass RX1 = some m.cls := hown
  have hl : lv_has ls 1 [(0, .int x)] := hl
  refine lv_iload_n hx hb dX1_beginsHour_0 rfl (lv_at hl 0 rfl) ?_
  refine lv_bipush (v := 114) hx hb dX1_beginsHour_1 (by decide) ?_
  refine lv_icmp_eq (tgt := 24) hx hb dX1_beginsHour_3 (by decide) (fun c_1 => ?_) (fun c_1 => ?_)
  · skip
    refine lv_iconst (v := 1) hx hb dX1_beginsHour_24 (by decide) ?_
    refine lv_goto (tgt := 29) hx hb dX1_beginsHour_25 (by decide) ?_
    refine lv_eqi (y := bhC x) (by rw [bhC, if_pos c_1]) ?_
    exact hret _ _ _ _ hP hS dX1_beginsHour_29
  · skip
    refine lv_iload_n hx hb dX1_beginsHour_6 rfl (lv_at hl 0 rfl) ?_
    refine lv_bipush (v := 115) hx hb dX1_beginsHour_7 (by decide) ?_
    refine lv_icmp_eq (tgt := 24) hx hb dX1_beginsHour_9 (by decide) (fun c_2 => ?_) (fun c_2 => ?_)
    · skip
      refine lv_iconst (v := 1) hx hb dX1_beginsHour_24 (by decide) ?_
      refine lv_goto (tgt := 29) hx hb dX1_beginsHour_25 (by decide) ?_
      refine lv_eqi (y := bhC x) (by rw [bhC, if_neg c_1, if_pos c_2]) ?_
      exact hret _ _ _ _ hP hS dX1_beginsHour_29
    · skip
      refine lv_iload_n hx hb dX1_beginsHour_12 rfl (lv_at hl 0 rfl) ?_
      refine lv_bipush (v := 102) hx hb dX1_beginsHour_13 (by decide) ?_
      refine lv_icmp_eq (tgt := 24) hx hb dX1_beginsHour_15 (by decide) (fun c_3 => ?_) (fun c_3 => ?_)
      · skip
        refine lv_iconst (v := 1) hx hb dX1_beginsHour_24 (by decide) ?_
        refine lv_goto (tgt := 29) hx hb dX1_beginsHour_25 (by decide) ?_
        refine lv_eqi (y := bhC x) (by rw [bhC, if_neg c_1, if_neg c_2, if_pos c_3]) ?_
        exact hret _ _ _ _ hP hS dX1_beginsHour_29
      · skip
        refine lv_iload_n hx hb dX1_beginsHour_18 rfl (lv_at hl 0 rfl) ?_
        refine lv_bipush (v := 100) hx hb dX1_beginsHour_19 (by decide) ?_
        refine lv_icmp_ne (tgt := 28) hx hb dX1_beginsHour_21 (by decide) (fun c_4 => ?_) (fun c_4 => ?_)
        · skip
          refine lv_iconst (v := 0) hx hb dX1_beginsHour_28 (by decide) ?_
          refine lv_eqi (y := bhC x) (by rw [bhC, if_neg c_1, if_neg c_2, if_neg c_3, if_neg c_4]) ?_
          exact hret _ _ _ _ hP hS dX1_beginsHour_29
        · skip
          refine lv_iconst (v := 1) hx hb dX1_beginsHour_24 (by decide) ?_
          refine lv_goto (tgt := 29) hx hb dX1_beginsHour_25 (by decide) ?_
          refine lv_eqi (y := bhC x) (by rw [bhC, if_neg c_1, if_neg c_2, if_neg c_3, if_pos c_4]) ?_
          exact hret _ _ _ _ hP hS dX1_beginsHour_29
set_option maxHeartbeats 4000000 in
set_option maxRecDepth 100000 in
theorem c_X1_weatherAt (l : Launch) (G : va_G) (ca : Nat → ClassId) (hp ap : Nat) (g : Nat → Int32) (n : Nat) (i : Nat) (hi : i < 60) : CtI l yX1_weatherAt wsX1_weatherAt ({ frames := 1, cells := 0, slots := 0, locals := 20 }) [.ref hp, .int (nI i)] G ca (paT ca hp ap (g, nI n)) (paT ca hp ap (g, nI n)) (wtC (g i)) := by
  refine CtI.ofW (cc := cX1_weatherAt) (maxL := 3) (rt := .int) (by decide) rfl (Nat.le_of_ble_eq_true rfl) rfl ?_
  intro pr en s m be me c A ls Q H hx hb hml hts hown hev hP hD hA hS hl hret
  have hown : s.vm.findClass RX1 = some m.cls := hown
  have hl : lv_has ls 3 [(0, .ref hp), (1, .int (nI i))] := hl
  have in_wsX10 : ∀ w ∈ wsX10, w ∈ wsX1_weatherAt := fun _ h => List.mem_cons_of_mem _ (List.mem_append_right _ h)
  refine lv_aload_n hx hb dX1_weatherAt_0 rfl (lv_at hl 0 rfl) ?_
  refine va_get (D := G) (ci := 1) (v := .ref ap) (C := RX1) (T := TX1) (N := 2) hx hb hts in_wsX10 hown hev.1 hP 0 rfl rfl 0 (by decide) (hts (.fieldLink RX1 11 "PuddleMinistries$Pad" "signs" "[C") (List.mem_of_getElem? (i := 1) rfl)) (fun _ h9 => h9) rfl dX1_weatherAt_1 ?_
  refine lv_iload_n hx hb dX1_weatherAt_4 rfl (lv_at hl 1 rfl) ?_
  refine b_cald hx hb hev.1 hP 1 rfl rfl (j := i) (by omega) (by decide) dX1_weatherAt_5 ?_
  refine lv_istore_n (lv' := [(2, .int (g i)), (0, .ref hp), (1, .int (nI i))]) hx hb dX1_weatherAt_6 rfl hl (by decide) rfl (fun ls hl => ?_)
  refine lv_iload_n hx hb dX1_weatherAt_7 rfl (lv_at hl 0 rfl) ?_
  refine goI0 (va_runS (As := [.int (g i)]) (rest := []) ⟨hx, hb, hml, hown, hts⟩ (CtI.use (c_X1_isAmount l G ca (g i)) H.size) (va_cwS 1 hts gX1_weatherAt_X1_isAmount rfl rfl rfl (by decide +kernel) ⟨Nat.le_of_ble_eq_true rfl, Nat.le_of_ble_eq_true rfl⟩) (pcW_S hev P_nil (D_nil (A := A))) rfl rfl hl.1 rfl (lv_room (Nat.le_of_ble_eq_true rfl)) dX1_weatherAt_8 ⟨Nat.zero_le _, Nat.zero_le _⟩) hP hS hA (fun H locs hP hS => ?_)
  refine lv_if_eq (tgt := 19) hx hb dX1_weatherAt_11 (by decide) (fun c_1 => ?_) (fun c_1 => ?_)
  · skip
    refine lv_iload_n hx hb dX1_weatherAt_19 rfl (lv_at hl 0 rfl) ?_
    refine lv_bipush (v := 115) hx hb dX1_weatherAt_20 (by decide) ?_
    refine lv_icmp_ne (tgt := 27) hx hb dX1_weatherAt_22 (by decide) (fun c_2 => ?_) (fun c_2 => ?_)
    · skip
      refine lv_iload_n hx hb dX1_weatherAt_27 rfl (lv_at hl 0 rfl) ?_
      refine lv_bipush (v := 102) hx hb dX1_weatherAt_28 (by decide) ?_
      refine lv_icmp_ne (tgt := 36) hx hb dX1_weatherAt_30 (by decide) (fun c_3 => ?_) (fun c_3 => ?_)
      · skip
        refine lv_iload_n hx hb dX1_weatherAt_36 rfl (lv_at hl 0 rfl) ?_
        refine lv_bipush (v := 100) hx hb dX1_weatherAt_37 (by decide) ?_
        refine lv_icmp_ne (tgt := 47) hx hb dX1_weatherAt_39 (by decide) (fun c_4 => ?_) (fun c_4 => ?_)
        · skip
          refine lv_iconst (v := (-1)) hx hb dX1_weatherAt_47 (by decide) ?_
          refine lv_eqi (y := wtC (g i)) (by rw [wtC, if_pos c_1, if_neg c_2, if_neg c_3, if_neg c_4]) ?_
          exact hret _ _ _ _ hP hS dX1_weatherAt_48
        · skip
          refine lv_bipush (v := 11) hx hb dX1_weatherAt_42 (by decide) ?_
          refine lv_goto (tgt := 48) hx hb dX1_weatherAt_44 (by decide) ?_
          refine lv_eqi (y := wtC (g i)) (by rw [wtC, if_pos c_1, if_neg c_2, if_neg c_3, if_pos c_4]) ?_
          exact hret _ _ _ _ hP hS dX1_weatherAt_48
      · skip
        refine lv_bipush (v := 10) hx hb dX1_weatherAt_33 (by decide) ?_
        refine lv_eqi (y := wtC (g i)) (by rw [wtC, if_pos c_1, if_neg c_2, if_pos c_3]) ?_
        exact hret _ _ _ _ hP hS dX1_weatherAt_35
    · skip
      refine lv_iconst (v := 0) hx hb dX1_weatherAt_25 (by decide) ?_
      refine lv_eqi (y := wtC (g i)) (by rw [wtC, if_pos c_1, if_pos c_2]) ?_
      exact hret _ _ _ _ hP hS dX1_weatherAt_26
  · skip
    refine lv_iload_n hx hb dX1_weatherAt_14 rfl (lv_at hl 0 rfl) ?_
    refine lv_bipush (v := 48) hx hb dX1_weatherAt_15 (by decide) ?_
    refine lv_isub hx hb dX1_weatherAt_17 ?_
    refine lv_eqi (y := wtC (g i)) (by rw [wtC, if_neg c_1]) ?_
    exact hret _ _ _ _ hP hS dX1_weatherAt_18
set_option maxHeartbeats 4000000 in
set_option maxRecDepth 100000 in
theorem c_X1_daysTold (l : Launch) (G : va_G) (ca : Nat → ClassId) (hp ap : Nat) (g : Nat → Int32) (n : Nat) (hn : n ≤ 60) : CtI l yX1_daysTold wsX1_daysTold ({ frames := 2, cells := 0, slots := 0, locals := 42 }) [.ref hp] G ca (paT ca hp ap (g, nI n)) (paT ca hp ap (g, nI n)) (dyL g n) := by
  refine CtI.ofW (cc := cX1_daysTold) (maxL := 3) (rt := .int) (by decide) rfl (Nat.le_of_ble_eq_true rfl) rfl ?_
  intro pr en s m be me c A ls Q H hx hb hml hts hown hev hP hD hA hS hl hret
  have hown : s.vm.findClass RX1 = some m.cls := hown
  have hl : lv_has ls 3 [(0, .ref hp)] := hl
  have in_wsX10 : ∀ w ∈ wsX10, w ∈ wsX1_daysTold := fun _ h => List.mem_cons_of_mem _ (List.mem_append_right _ h)
  refine lv_iconst (v := 0) hx hb dX1_daysTold_0 (by decide) ?_
  refine lv_istore_n (lv' := [(1, .int 0), (0, .ref hp)]) hx hb dX1_daysTold_1 rfl hl (by decide) rfl (fun ls hl => ?_)
  refine lv_iconst (v := nI 0) hx hb dX1_daysTold_2 (by decide) ?_
  refine lv_istore_n (lv' := [(2, .int (nI 0)), (1, .int 0), (0, .ref hp)]) hx hb dX1_daysTold_3 rfl hl (by decide) rfl (fun ls hl => ?_)
  have loop_4 : ∀ (q i : Nat), i + q = n → ∀ (H : Heap) (locs : List Loc) (ls : Array Slot), va_P G vwCl (paT ca hp ap (g, nI n)) H → va_D A (paT ca hp ap (g, nI n)) → va_S A s.heap H locs → lv_has ls 3 [(0, .ref hp), (1, .int (dyL g i)), (2, .int (nI i))] → W pr l en ({ frames := 2, cells := 0, slots := 0, locals := 42 } : Room) s m ([.ref hp] : List Value).toArray be me c H locs 0 0 Q (F0 m 4 ls []) := by
    intro q
    induction q with
    | zero =>
      intro i hi H locs ls hP hD hS hl
      obtain rfl : n = i := by omega
      refine lv_iload_n hx hb dX1_daysTold_4 rfl (lv_at hl 2 rfl) ?_
      refine lv_aload_n hx hb dX1_daysTold_5 rfl (lv_at hl 0 rfl) ?_
      refine va_get (D := G) (ci := 1) (v := .int (nI n)) (C := RX1) (T := TX1) (N := 2) hx hb hts in_wsX10 hown hev.1 hP 0 rfl rfl 1 (by decide) (hts (.fieldLink RX1 21 "PuddleMinistries$Pad" "length" "I") (List.mem_of_getElem? (i := 1) rfl)) (fun _ h9 => h9) rfl dX1_daysTold_6 ?_
      refine lv_icmp_ge (tgt := 31) hx hb dX1_daysTold_9 (by decide) (fun c_1 => ?_) (fun c_1 => ?_)
      · skip
        refine lv_iload_n hx hb dX1_daysTold_31 rfl (lv_at hl 1 rfl) ?_
        exact hret _ _ _ _ hP hS dX1_daysTold_32
      · skip
        exact absurd (nI_le (by omega) (by omega)) c_1
    | succ q ih =>
      intro i hi H locs ls hP hD hS hl
      have hlt : i < n := by omega
      refine lv_iload_n hx hb dX1_daysTold_4 rfl (lv_at hl 2 rfl) ?_
      refine lv_aload_n hx hb dX1_daysTold_5 rfl (lv_at hl 0 rfl) ?_
      refine va_get (D := G) (ci := 1) (v := .int (nI n)) (C := RX1) (T := TX1) (N := 2) hx hb hts in_wsX10 hown hev.1 hP 0 rfl rfl 1 (by decide) (hts (.fieldLink RX1 21 "PuddleMinistries$Pad" "length" "I") (List.mem_of_getElem? (i := 1) rfl)) (fun _ h9 => h9) rfl dX1_daysTold_6 ?_
      refine lv_icmp_ge (tgt := 31) hx hb dX1_daysTold_9 (by decide) (fun c_2 => ?_) (fun c_2 => ?_)
      · skip
        exact absurd c_2 (nI_ge (by omega) (by omega))
      · skip
        refine lv_aload_n hx hb dX1_daysTold_12 rfl (lv_at hl 0 rfl) ?_
        refine lv_iload_n hx hb dX1_daysTold_13 rfl (lv_at hl 2 rfl) ?_
        refine goIw (va_runV (As := [.int (nI i)]) (rest := []) ⟨hx, hb, hml, hown, hts⟩ (CtI.use (c_X1_weatherAt l G ca hp ap g n i (by omega)) H.size) (cwV 1 hts gX1_daysTold_X1_weatherAt rfl rfl rfl (by decide +kernel) ⟨Nat.le_of_ble_eq_true rfl, Nat.le_of_ble_eq_true rfl⟩) (pcW_V hev hP hD (q0 := 0) rfl rfl rfl) rfl rfl hl.1 rfl (lv_room (Nat.le_of_ble_eq_true rfl)) dX1_daysTold_14 ⟨Nat.zero_le _, Nat.zero_le _⟩) hD hS hA paF (fun H locs hP hD hS => ?_)
        refine lv_bipush (v := 11) hx hb dX1_daysTold_17 (by decide) ?_
        refine lv_icmp_ne (tgt := 25) hx hb dX1_daysTold_19 (by decide) (fun c_3 => ?_) (fun c_3 => ?_)
        · skip
          refine lv_iinc (v := nI (i + 1)) (lv' := [(2, .int (nI (i + 1))), (0, .ref hp), (1, .int (dyL g i))]) hx hb dX1_daysTold_25 hl (k := 2) rfl (nI_1 _) (by decide) rfl (fun ls hl => ?_)
          refine lv_goto (tgt := 4) hx hb dX1_daysTold_28 (by decide) ?_
          exact ih (i + 1) (by omega) _ _ _ hP (D_of hD paF) hS (by rw [show (dyL g (i + 1)) = (dyL g i) from by rw [dyL_s, if_neg c_3]]; exact lv_sub hl [1, 2, 0] rfl)
        · skip
          refine lv_iinc (v := (dyL g i) + 1) (lv' := [(1, .int ((dyL g i) + 1)), (0, .ref hp), (2, .int (nI i))]) hx hb dX1_daysTold_22 hl (k := 1) rfl (rfl) (by decide) rfl (fun ls hl => ?_)
          refine lv_iinc (v := nI (i + 1)) (lv' := [(2, .int (nI (i + 1))), (1, .int ((dyL g i) + 1)), (0, .ref hp)]) hx hb dX1_daysTold_25 hl (k := 2) rfl (nI_1 _) (by decide) rfl (fun ls hl => ?_)
          refine lv_goto (tgt := 4) hx hb dX1_daysTold_28 (by decide) ?_
          exact ih (i + 1) (by omega) _ _ _ hP (D_of hD paF) hS (by rw [show (dyL g (i + 1)) = ((dyL g i) + 1) from by rw [dyL_s, if_pos c_3]]; exact lv_sub hl [2, 1, 0] rfl)
  exact loop_4 n 0 (by omega) _ _ _ hP (D_of hD paF) hS (lv_sub hl [2, 1, 0] rfl)
set_option maxHeartbeats 4000000 in
set_option maxRecDepth 100000 in
theorem c_X1_findFault (l : Launch) (G : va_G) (ca : Nat → ClassId) (hp ap : Nat) (g : Nat → Int32) (n : Nat) (hn : n ≤ 60) : CtI l yX1_findFault wsX1_findFault ({ frames := 1, cells := 0, slots := 0, locals := 20 }) [.ref hp] G ca (paT ca hp ap (g, nI n)) (paT ca hp ap (g, nI n)) (ffG g n n 0) := by
  refine CtI.ofW (cc := cX1_findFault) (maxL := 4) (rt := .int) (by decide) rfl (Nat.le_of_ble_eq_true rfl) rfl ?_
  intro pr en s m be me c A ls Q H hx hb hml hts hown hev hP hD hA hS hl hret
  have hown : s.vm.findClass RX1 = some m.cls := hown
  have hl : lv_has ls 4 [(0, .ref hp)] := hl
  have in_wsX10 : ∀ w ∈ wsX10, w ∈ wsX1_findFault := fun _ h => List.mem_cons_of_mem _ (List.mem_append_right _ h)
  refine lv_iconst (v := 0) hx hb dX1_findFault_0 (by decide) ?_
  refine lv_istore_n (lv' := [(1, .int 0), (0, .ref hp)]) hx hb dX1_findFault_1 rfl hl (by decide) rfl (fun ls hl => ?_)
  refine lv_iconst (v := nI 0) hx hb dX1_findFault_2 (by decide) ?_
  refine lv_istore_n (lv' := [(2, .int (nI 0)), (1, .int 0), (0, .ref hp)]) hx hb dX1_findFault_3 rfl hl (by decide) rfl (fun ls hl => ?_)
  have loop_4 : ∀ (q i : Nat), i + q = n → ffG g n q i = ffG g n n 0 → ∀ (H : Heap) (locs : List Loc) (ls : Array Slot), va_P G vwCl (paT ca hp ap (g, nI n)) H → va_D A (paT ca hp ap (g, nI n)) → va_S A s.heap H locs → lv_has ls 4 [(0, .ref hp), (1, .int (dueL g i)), (2, .int (nI i))] → W pr l en ({ frames := 1, cells := 0, slots := 0, locals := 20 } : Room) s m ([.ref hp] : List Value).toArray be me c H locs 0 0 Q (F0 m 4 ls []) := by
    intro q
    induction q with
    | zero =>
      intro i hi hr H locs ls hP hD hS hl
      obtain rfl : n = i := by omega
      refine lv_iload_n hx hb dX1_findFault_4 rfl (lv_at hl 2 rfl) ?_
      refine lv_aload_n hx hb dX1_findFault_5 rfl (lv_at hl 0 rfl) ?_
      refine va_get (D := G) (ci := 1) (v := .int (nI n)) (C := RX1) (T := TX1) (N := 2) hx hb hts in_wsX10 hown hev.1 hP 0 rfl rfl 1 (by decide) (hts (.fieldLink RX1 21 "PuddleMinistries$Pad" "length" "I") (List.mem_of_getElem? (i := 1) rfl)) (fun _ h9 => h9) rfl dX1_findFault_6 ?_
      refine lv_icmp_ge (tgt := 60) hx hb dX1_findFault_9 (by decide) (fun c_1 => ?_) (fun c_1 => ?_)
      · skip
        refine lv_iload_n hx hb dX1_findFault_60 rfl (lv_at hl 1 rfl) ?_
        refine lv_if_ne (tgt := 71) hx hb dX1_findFault_61 (by decide) (fun c_2 => ?_) (fun c_2 => ?_)
        · skip
          refine lv_aload_n hx hb dX1_findFault_71 rfl (lv_at hl 0 rfl) ?_
          refine va_get (D := G) (ci := 1) (v := .int (nI n)) (C := RX1) (T := TX1) (N := 2) hx hb hts in_wsX10 hown hev.1 hP 0 rfl rfl 1 (by decide) (hts (.fieldLink RX1 21 "PuddleMinistries$Pad" "length" "I") (List.mem_of_getElem? (i := 1) rfl)) (fun _ h9 => h9) rfl dX1_findFault_72 ?_
          refine lv_goto (tgt := 80) hx hb dX1_findFault_75 (by decide) ?_
          refine lv_eqi (y := ffG g n n 0) (by rw [← hr]; show _ = ffE g n; rw [ffE, if_neg c_2]) ?_
          exact hret _ _ _ _ hP hS dX1_findFault_80
        · skip
          refine lv_aload_n hx hb dX1_findFault_64 rfl (lv_at hl 0 rfl) ?_
          refine va_get (D := G) (ci := 1) (v := .int (nI n)) (C := RX1) (T := TX1) (N := 2) hx hb hts in_wsX10 hown hev.1 hP 0 rfl rfl 1 (by decide) (hts (.fieldLink RX1 21 "PuddleMinistries$Pad" "length" "I") (List.mem_of_getElem? (i := 1) rfl)) (fun _ h9 => h9) rfl dX1_findFault_65 ?_
          refine lv_if_ne (tgt := 78) hx hb dX1_findFault_68 (by decide) (fun c_3 => ?_) (fun c_3 => ?_)
          · skip
            have nc_3 : ¬ n = 0 := fun q => c_3 ((nI_eq (a := n) (b := 0) (by omega) (by omega)).mpr q)
            refine lv_bipush (v := (-6)) hx hb dX1_findFault_78 (by decide) ?_
            refine lv_eqi (y := ffG g n n 0) (by rw [← hr]; show _ = ffE g n; rw [ffE, if_pos c_2, if_neg c_3]) ?_
            exact hret _ _ _ _ hP hS dX1_findFault_80
          · skip
            have nc_3 : n = 0 := (nI_eq (a := n) (b := 0) (by omega) (by omega)).mp c_3
            refine lv_aload_n hx hb dX1_findFault_71 rfl (lv_at hl 0 rfl) ?_
            refine va_get (D := G) (ci := 1) (v := .int (nI n)) (C := RX1) (T := TX1) (N := 2) hx hb hts in_wsX10 hown hev.1 hP 0 rfl rfl 1 (by decide) (hts (.fieldLink RX1 21 "PuddleMinistries$Pad" "length" "I") (List.mem_of_getElem? (i := 1) rfl)) (fun _ h9 => h9) rfl dX1_findFault_72 ?_
            refine lv_goto (tgt := 80) hx hb dX1_findFault_75 (by decide) ?_
            refine lv_eqi (y := ffG g n n 0) (by rw [← hr]; show _ = ffE g n; rw [ffE, if_pos c_2, if_pos c_3]) ?_
            exact hret _ _ _ _ hP hS dX1_findFault_80
      · skip
        exact absurd (nI_le (by omega) (by omega)) c_1
    | succ q ih =>
      intro i hi hr H locs ls hP hD hS hl
      have hlt : i < n := by omega
      refine lv_iload_n hx hb dX1_findFault_4 rfl (lv_at hl 2 rfl) ?_
      refine lv_aload_n hx hb dX1_findFault_5 rfl (lv_at hl 0 rfl) ?_
      refine va_get (D := G) (ci := 1) (v := .int (nI n)) (C := RX1) (T := TX1) (N := 2) hx hb hts in_wsX10 hown hev.1 hP 0 rfl rfl 1 (by decide) (hts (.fieldLink RX1 21 "PuddleMinistries$Pad" "length" "I") (List.mem_of_getElem? (i := 1) rfl)) (fun _ h9 => h9) rfl dX1_findFault_6 ?_
      refine lv_icmp_ge (tgt := 60) hx hb dX1_findFault_9 (by decide) (fun c_4 => ?_) (fun c_4 => ?_)
      · skip
        exact absurd c_4 (nI_ge (by omega) (by omega))
      · skip
        refine lv_aload_n hx hb dX1_findFault_12 rfl (lv_at hl 0 rfl) ?_
        refine va_get (D := G) (ci := 1) (v := .ref ap) (C := RX1) (T := TX1) (N := 2) hx hb hts in_wsX10 hown hev.1 hP 0 rfl rfl 0 (by decide) (hts (.fieldLink RX1 11 "PuddleMinistries$Pad" "signs" "[C") (List.mem_of_getElem? (i := 2) rfl)) (fun _ h9 => h9) rfl dX1_findFault_13 ?_
        refine lv_iload_n hx hb dX1_findFault_16 rfl (lv_at hl 2 rfl) ?_
        refine b_cald hx hb hev.1 hP 1 rfl rfl (j := i) (by omega) (by decide) dX1_findFault_17 ?_
        refine lv_istore_n (lv' := [(3, .int (g i)), (0, .ref hp), (1, .int (dueL g i)), (2, .int (nI i))]) hx hb dX1_findFault_18 rfl hl (by decide) rfl (fun ls hl => ?_)
        refine lv_iload_n hx hb dX1_findFault_19 rfl (lv_at hl 2 rfl) ?_
        refine lv_if_eq (tgt := 33) hx hb dX1_findFault_20 (by decide) (fun c_5 => ?_) (fun c_5 => ?_)
        · skip
          refine lv_iload_n hx hb dX1_findFault_33 rfl (lv_at hl 0 rfl) ?_
          refine goI0 (va_runS (As := [.int (g i)]) (rest := []) ⟨hx, hb, hml, hown, hts⟩ (CtI.use (c_X1_beginsHour l G ca (g i)) H.size) (va_cwS 1 hts gX1_findFault_X1_beginsHour rfl rfl rfl (by decide +kernel) ⟨Nat.le_of_ble_eq_true rfl, Nat.le_of_ble_eq_true rfl⟩) (pcW_S hev P_nil (D_nil (A := A))) rfl rfl hl.1 rfl (lv_room (Nat.le_of_ble_eq_true rfl)) dX1_findFault_34 ⟨Nat.zero_le _, Nat.zero_le _⟩) hP hS hA (fun H locs hP hS => ?_)
          refine lv_if_ne (tgt := 42) hx hb dX1_findFault_37 (by decide) (fun c_6 => ?_) (fun c_6 => ?_)
          · skip
            refine lv_iload_n hx hb dX1_findFault_42 rfl (lv_at hl 0 rfl) ?_
            refine lv_bipush (v := 114) hx hb dX1_findFault_43 (by decide) ?_
            refine lv_icmp_ne (tgt := 52) hx hb dX1_findFault_45 (by decide) (fun c_7 => ?_) (fun c_7 => ?_)
            · skip
              refine lv_iconst (v := 0) hx hb dX1_findFault_52 (by decide) ?_
              refine lv_istore_n (lv' := [(1, .int 0), (3, .int (g i)), (0, .ref hp), (2, .int (nI i))]) hx hb dX1_findFault_53 rfl hl (by decide) rfl (fun ls hl => ?_)
              refine lv_iinc (v := nI (i + 1)) (lv' := [(2, .int (nI (i + 1))), (1, .int 0), (3, .int (g i)), (0, .ref hp)]) hx hb dX1_findFault_54 hl (k := 3) rfl (nI_1 _) (by decide) rfl (fun ls hl => ?_)
              refine lv_goto (tgt := 4) hx hb dX1_findFault_57 (by decide) ?_
              exact ih (i + 1) (by omega) (by rw [← hr, ffG_s, if_neg (by rw [okL, if_pos c_5]; exact c_6)]) _ _ _ hP (D_of hD paF) hS (by rw [show (dueL g (i + 1)) = 0 from by rw [dueL, if_neg c_7]]; exact lv_sub hl [3, 1, 0] rfl)
            · skip
              refine lv_iconst (v := 1) hx hb dX1_findFault_48 (by decide) ?_
              refine lv_goto (tgt := 53) hx hb dX1_findFault_49 (by decide) ?_
              refine lv_istore_n (lv' := [(1, .int 1), (3, .int (g i)), (0, .ref hp), (2, .int (nI i))]) hx hb dX1_findFault_53 rfl hl (by decide) rfl (fun ls hl => ?_)
              refine lv_iinc (v := nI (i + 1)) (lv' := [(2, .int (nI (i + 1))), (1, .int 1), (3, .int (g i)), (0, .ref hp)]) hx hb dX1_findFault_54 hl (k := 3) rfl (nI_1 _) (by decide) rfl (fun ls hl => ?_)
              refine lv_goto (tgt := 4) hx hb dX1_findFault_57 (by decide) ?_
              exact ih (i + 1) (by omega) (by rw [← hr, ffG_s, if_neg (by rw [okL, if_pos c_5]; exact c_6)]) _ _ _ hP (D_of hD paF) hS (by rw [show (dueL g (i + 1)) = 1 from by rw [dueL, if_pos c_7]]; exact lv_sub hl [3, 1, 0] rfl)
          · skip
            refine lv_iload_n hx hb dX1_findFault_40 rfl (lv_at hl 3 rfl) ?_
            refine lv_eqi (y := ffG g n n 0) (by rw [← hr, ffG_s, if_pos (by rw [okL, if_pos c_5]; exact c_6)]) ?_
            exact hret _ _ _ _ hP hS dX1_findFault_41
        · skip
          refine lv_iload_n hx hb dX1_findFault_23 rfl (lv_at hl 0 rfl) ?_
          refine goI0 (va_runS (As := [.int (g i)]) (rest := []) ⟨hx, hb, hml, hown, hts⟩ (CtI.use (c_X1_isAmount l G ca (g i)) H.size) (va_cwS 1 hts gX1_findFault_X1_isAmount rfl rfl rfl (by decide +kernel) ⟨Nat.le_of_ble_eq_true rfl, Nat.le_of_ble_eq_true rfl⟩) (pcW_S hev P_nil (D_nil (A := A))) rfl rfl hl.1 rfl (lv_room (Nat.le_of_ble_eq_true rfl)) dX1_findFault_24 ⟨Nat.zero_le _, Nat.zero_le _⟩) hP hS hA (fun H locs hP hS => ?_)
          refine lv_if_ne (tgt := 42) hx hb dX1_findFault_27 (by decide) (fun c_8 => ?_) (fun c_8 => ?_)
          · skip
            refine lv_iload_n hx hb dX1_findFault_42 rfl (lv_at hl 0 rfl) ?_
            refine lv_bipush (v := 114) hx hb dX1_findFault_43 (by decide) ?_
            refine lv_icmp_ne (tgt := 52) hx hb dX1_findFault_45 (by decide) (fun c_9 => ?_) (fun c_9 => ?_)
            · skip
              refine lv_iconst (v := 0) hx hb dX1_findFault_52 (by decide) ?_
              refine lv_istore_n (lv' := [(1, .int 0), (3, .int (g i)), (0, .ref hp), (2, .int (nI i))]) hx hb dX1_findFault_53 rfl hl (by decide) rfl (fun ls hl => ?_)
              refine lv_iinc (v := nI (i + 1)) (lv' := [(2, .int (nI (i + 1))), (1, .int 0), (3, .int (g i)), (0, .ref hp)]) hx hb dX1_findFault_54 hl (k := 3) rfl (nI_1 _) (by decide) rfl (fun ls hl => ?_)
              refine lv_goto (tgt := 4) hx hb dX1_findFault_57 (by decide) ?_
              exact ih (i + 1) (by omega) (by rw [← hr, ffG_s, if_neg (by rw [okL, if_neg c_5]; exact c_8)]) _ _ _ hP (D_of hD paF) hS (by rw [show (dueL g (i + 1)) = 0 from by rw [dueL, if_neg c_9]]; exact lv_sub hl [3, 1, 0] rfl)
            · skip
              refine lv_iconst (v := 1) hx hb dX1_findFault_48 (by decide) ?_
              refine lv_goto (tgt := 53) hx hb dX1_findFault_49 (by decide) ?_
              refine lv_istore_n (lv' := [(1, .int 1), (3, .int (g i)), (0, .ref hp), (2, .int (nI i))]) hx hb dX1_findFault_53 rfl hl (by decide) rfl (fun ls hl => ?_)
              refine lv_iinc (v := nI (i + 1)) (lv' := [(2, .int (nI (i + 1))), (1, .int 1), (3, .int (g i)), (0, .ref hp)]) hx hb dX1_findFault_54 hl (k := 3) rfl (nI_1 _) (by decide) rfl (fun ls hl => ?_)
              refine lv_goto (tgt := 4) hx hb dX1_findFault_57 (by decide) ?_
              exact ih (i + 1) (by omega) (by rw [← hr, ffG_s, if_neg (by rw [okL, if_neg c_5]; exact c_8)]) _ _ _ hP (D_of hD paF) hS (by rw [show (dueL g (i + 1)) = 1 from by rw [dueL, if_pos c_9]]; exact lv_sub hl [3, 1, 0] rfl)
          · skip
            refine lv_goto (tgt := 40) hx hb dX1_findFault_30 (by decide) ?_
            refine lv_iload_n hx hb dX1_findFault_40 rfl (lv_at hl 3 rfl) ?_
            refine lv_eqi (y := ffG g n n 0) (by rw [← hr, ffG_s, if_pos (by rw [okL, if_neg c_5]; exact c_8)]) ?_
            exact hret _ _ _ _ hP hS dX1_findFault_41
  exact loop_4 n 0 (by omega) (by rfl) _ _ _ hP (D_of hD paF) hS (lv_sub hl [2, 1, 0] rfl)
end
