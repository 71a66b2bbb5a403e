theorem gT_X0 : GoodIn lw_tbl wsX00 := goodIn_p wsX00 [] (by decide +kernel) (by decide +kernel)
theorem inX0 : ∀ w ∈ wsX00, w ∈ lw_tbl := fun w h => (gT_X0 w h).1
theorem gT_X1 : GoodIn lw_tbl wsX10 := goodIn_p wsX10 [] (by decide +kernel) (by decide +kernel)
theorem inX1 : ∀ w ∈ wsX10, w ∈ lw_tbl := fun w h => (gT_X1 w h).1
theorem gT_X2 : GoodIn lw_tbl wsX20 := goodIn_p wsX20 [] (by decide +kernel) (by decide +kernel)
theorem inX2 : ∀ w ∈ wsX20, w ∈ lw_tbl := fun w h => (gT_X2 w h).1
theorem gT_X3 : GoodIn lw_tbl wsX30 := goodIn_p wsX30 [] (by decide +kernel) (by decide +kernel)
theorem inX3 : ∀ w ∈ wsX30, w ∈ lw_tbl := fun w h => (gT_X3 w h).1
theorem gT_X4 : GoodIn lw_tbl wsX40 := goodIn_p wsX40 [] (by decide +kernel) (by decide +kernel)
theorem inX4 : ∀ w ∈ wsX40, w ∈ lw_tbl := fun w h => (gT_X4 w h).1
theorem gT_seen_0 : GoodIn lw_tbl [Cond.code yL_seen cL_seen 4 (some .long)] := goodIn_p [Cond.code yL_seen cL_seen 4 (some .long)] [243] (by decide +kernel) (by decide +kernel)
theorem gT_areAll_0 : GoodIn lw_tbl [Cond.code yL_areAll cL_areAll 18 (some .boolean)] := gB_areAll
theorem gT_refusesAny_0 : GoodIn lw_tbl [Cond.code yL_refusesAny cL_refusesAny 7 (some .boolean)] := gB_refusesAny
theorem gT_passes_0 : GoodIn lw_tbl [Cond.code yL_passes cL_passes 14 (some .boolean)] := gB_passes
theorem gT_act_0 : GoodIn lw_tbl [Cond.code yL_act cL_act 11 (some .int)] := gB_act
