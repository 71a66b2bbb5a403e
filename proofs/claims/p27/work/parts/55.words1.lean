/-! the words of the law and of its helpers are among the tables: in pieces -/
theorem gB_refusesAny : GoodIn lw_tbl [Cond.code yL_refusesAny cL_refusesAny 7 (some .boolean)] := fun w h => by
  obtain rfl := List.mem_singleton.mp h
  exact ⟨List.mem_of_getElem? (i := 310) rfl, Or.inl rfl⟩
theorem gB_areAll : GoodIn lw_tbl [Cond.code yL_areAll cL_areAll 18 (some .boolean)] := fun w h => by
  obtain rfl := List.mem_singleton.mp h
  exact ⟨List.mem_of_getElem? (i := 279) rfl, Or.inl rfl⟩
theorem gB_act : GoodIn lw_tbl [Cond.code yL_act cL_act 11 (some .int)] := fun w h => by
  obtain rfl := List.mem_singleton.mp h
  exact ⟨List.mem_of_getElem? (i := 448) rfl, Or.inl rfl⟩
theorem gB_passes : GoodIn lw_tbl [Cond.code yL_passes cL_passes 14 (some .boolean)] := fun w h => by
  obtain rfl := List.mem_singleton.mp h
  exact ⟨List.mem_of_getElem? (i := 451) rfl, Or.inl rfl⟩
theorem gT_seen_r1 : GoodIn lw_tbl wsL_seen_r1 := goodIn_p wsL_seen_r1 [185] (by decide +kernel) (by decide +kernel)
theorem gT_seen_r2 : GoodIn lw_tbl wsL_seen_r2 := goodIn_p wsL_seen_r2 [188, 192, 196, 178, 181, 199] (by decide +kernel) (by decide +kernel)
theorem gT_seen_r3 : GoodIn lw_tbl wsL_seen_r3 := goodIn_p wsL_seen_r3 [249, 252, 155, 152, 159] (by decide +kernel) (by decide +kernel)
theorem gT_seen_r4 : GoodIn lw_tbl wsL_seen_r4 := goodIn_p wsL_seen_r4 [163, 166, 170, 174, 257] (by decide +kernel) (by decide +kernel)
theorem gT_seen_r5 : GoodIn lw_tbl wsL_seen_r5 := goodIn_p wsL_seen_r5 [262, 266, 270, 276] (by decide +kernel) (by decide +kernel)
theorem gT_areAll_r1 : GoodIn lw_tbl wsL_areAll_r1 := goodIn_p wsL_areAll_r1 [152, 155, 159, 163] (by decide +kernel) (by decide +kernel)
theorem gT_areAll_r2 : GoodIn lw_tbl wsL_areAll_r2 := goodIn_p wsL_areAll_r2 [166, 170, 174, 178, 181, 282] (by decide +kernel) (by decide +kernel)
theorem gT_areAll_r3 : GoodIn lw_tbl wsL_areAll_r3 := goodIn_p wsL_areAll_r3 [286, 185, 188] (by decide +kernel) (by decide +kernel)
theorem gT_areAll_r4 : GoodIn lw_tbl wsL_areAll_r4 := goodIn_p wsL_areAll_r4 [192, 196, 199, 257, 252] (by decide +kernel) (by decide +kernel)
theorem gT_areAll_r5 : GoodIn lw_tbl wsL_areAll_r5 := goodIn_p wsL_areAll_r5 [262, 266, 270, 276, 290] (by decide +kernel) (by decide +kernel)
theorem gT_areAll_r6 : GoodIn lw_tbl wsL_areAll_r6 := goodIn_p wsL_areAll_r6 [294, 298, 303, 249] (by decide +kernel) (by decide +kernel)
theorem gT_refusesAny_r1 : GoodIn lw_tbl wsL_refusesAny_r1 := goodIn_p wsL_refusesAny_r1 [185, 188] (by decide +kernel) (by decide +kernel)
theorem gT_refusesAny_r2 : GoodIn lw_tbl wsL_refusesAny_r2 := goodIn_p wsL_refusesAny_r2 [192, 196, 178, 181, 199] (by decide +kernel) (by decide +kernel)
theorem gT_refusesAny_r3 : GoodIn lw_tbl wsL_refusesAny_r3 := goodIn_p wsL_refusesAny_r3 [314, 230, 234, 214] (by decide +kernel) (by decide +kernel)
theorem gT_refusesAny_r4 : GoodIn lw_tbl wsL_refusesAny_r4 := goodIn_p wsL_refusesAny_r4 [217, 322, 155, 326] (by decide +kernel) (by decide +kernel)
theorem gT_refusesAny_r5 : GoodIn lw_tbl wsL_refusesAny_r5 := goodIn_p wsL_refusesAny_r5 [330, 170, 166, 334, 338, 252] (by decide +kernel) (by decide +kernel)
theorem gT_refusesAny_r6 : GoodIn lw_tbl wsL_refusesAny_r6 := goodIn_p wsL_refusesAny_r6 [343, 347, 351, 354, 357, 266] (by decide +kernel) (by decide +kernel)
theorem gT_refusesAny_r7 : GoodIn lw_tbl wsL_refusesAny_r7 := goodIn_p wsL_refusesAny_r7 [270, 159, 163, 276, 362, 366] (by decide +kernel) (by decide +kernel)
theorem gT_refusesAny_r8 : GoodIn lw_tbl wsL_refusesAny_r8 := goodIn_p wsL_refusesAny_r8 [370, 374, 378, 382, 385, 389] (by decide +kernel) (by decide +kernel)
theorem gT_refusesAny_r9 : GoodIn lw_tbl wsL_refusesAny_r9 := goodIn_p wsL_refusesAny_r9 [393, 397, 401, 152, 174] (by decide +kernel) (by decide +kernel)
theorem gT_refusesAny_r10 : GoodIn lw_tbl wsL_refusesAny_r10 := goodIn_p wsL_refusesAny_r10 [257, 262, 303, 249, 405, 409] (by decide +kernel) (by decide +kernel)
theorem gT_refusesAny_r11 : GoodIn lw_tbl wsL_refusesAny_r11 := goodIn_p wsL_refusesAny_r11 [413, 286, 290, 294, 298] (by decide +kernel) (by decide +kernel)
theorem gT_refusesAny_r12 : GoodIn lw_tbl wsL_refusesAny_r12 := goodIn_p wsL_refusesAny_r12 [221, 226, 418, 422, 426] (by decide +kernel) (by decide +kernel)
theorem gT_refusesAny_r13 : GoodIn lw_tbl wsL_refusesAny_r13 := goodIn_p wsL_refusesAny_r13 [429, 432, 436, 440, 445] (by decide +kernel) (by decide +kernel)
