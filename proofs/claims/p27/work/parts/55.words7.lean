theorem gT_seen : GoodIn lw_tbl wsL_seen := goodIn_app gT_seen_0 (goodIn_app (goodIn_app (goodIn_app (goodIn_app (goodIn_app gT_seen_r1 (goodIn_app gT_seen_r2 (goodIn_app gT_seen_r3 (goodIn_app gT_seen_r4 gT_seen_r5)))) gT_X4) gT_X3) gT_X1) gT_X0)
theorem gT_areAll : GoodIn lw_tbl wsL_areAll := goodIn_app gT_areAll_0 (goodIn_app (goodIn_app (goodIn_app (goodIn_app (goodIn_app gT_areAll_r1 (goodIn_app gT_areAll_r2 (goodIn_app gT_areAll_r3 (goodIn_app gT_areAll_r4 (goodIn_app gT_areAll_r5 gT_areAll_r6))))) gT_X4) gT_X3) gT_X1) gT_X0)
theorem gT_refusesAny : GoodIn lw_tbl wsL_refusesAny := goodIn_app gT_refusesAny_0 (goodIn_app (goodIn_app (goodIn_app (goodIn_app (goodIn_app (goodIn_app gT_refusesAny_r1 (goodIn_app gT_refusesAny_r2 (goodIn_app gT_refusesAny_r3 (goodIn_app gT_refusesAny_r4 (goodIn_app gT_refusesAny_r5 (goodIn_app gT_refusesAny_r6 (goodIn_app gT_refusesAny_r7 (goodIn_app gT_refusesAny_r8 (goodIn_app gT_refusesAny_r9 (goodIn_app gT_refusesAny_r10 (goodIn_app gT_refusesAny_r11 (goodIn_app gT_refusesAny_r12 gT_refusesAny_r13)))))))))))) gT_X4) gT_X3) gT_X1) gT_X0) gT_X2)
theorem gT_passes : GoodIn lw_tbl wsL_passes := goodIn_app gT_passes_0 (goodIn_app (goodIn_app (goodIn_app (goodIn_app (goodIn_app gT_passes_r1 (goodIn_app gT_passes_r2 (goodIn_app gT_passes_r3 (goodIn_app gT_passes_r4 (goodIn_app gT_passes_r5 gT_passes_r6))))) gT_X4) gT_X3) gT_X1) gT_X0)
theorem gT_act : GoodIn lw_tbl wsL_act := goodIn_app gT_act_0 (goodIn_app (goodIn_app (goodIn_app (goodIn_app (goodIn_app gT_act_r1 (goodIn_app gT_act_r2 (goodIn_app gT_act_r3 (goodIn_app gT_act_r4 (goodIn_app gT_act_r5 (goodIn_app gT_act_r6 (goodIn_app gT_act_r7 (goodIn_app gT_act_r8 (goodIn_app gT_act_r9 (goodIn_app gT_act_r10 gT_act_r11)))))))))) gT_X4) gT_X3) gT_X1) gT_X0)
theorem gT_nil : GoodIn lw_tbl ([] : List Cond) := fun w h => absurd h List.not_mem_nil
theorem gT_law : GoodIn lw_tbl wsL_law := (goodIn_app (goodIn_app (goodIn_app (goodIn_app (goodIn_app (goodIn_app (goodIn_app gT_law_r1 (goodIn_app gT_law_r2 (goodIn_app gT_law_r3 (goodIn_app gT_law_r4 (goodIn_app gT_law_r5 (goodIn_app gT_law_r6 (goodIn_app gT_law_r7 (goodIn_app gT_law_r8 (goodIn_app gT_law_r9 (goodIn_app gT_law_r10 (goodIn_app gT_law_r11 (goodIn_app gT_law_r12 (goodIn_app gT_law_r13 (goodIn_app gT_law_r14 (goodIn_app gT_law_r15 (goodIn_app gT_law_r16 gT_law_r17)))))))))))))))) gT_X4) gT_X3) gT_X1) gT_X0) gT_X2) gT_nil)
theorem wsL_law_in : ∀ w ∈ wsL_law, w ∈ lw_tbl := fun w h => (gT_law w h).1
theorem goodIn_ls {big a : List Cond} (b : List Cond) {ws : List Cond} (h : GoodIn a ws) (hm : ∀ w ∈ a, w ∈ big) : GoodIn big ws := fun w q => ⟨hm w (h w q).1, (h w q).2⟩
theorem goodIn_gd {tb big ws : List Cond} (h : GoodIn tb ws) (hm : ∀ w ∈ ws, w ∈ big) : GoodIn big ws := fun w q => ⟨hm w q, (h w q).2⟩
/-- the words of refuses, act, law, with those of the helpers that they call -/
def wsK_refuses : List Cond := .code yL_refuses cL_refuses 5 (some .boolean) :: (([.methodLink RL 92 yL_seen, .static yL_seen, .initialized RL, .methodLink RL 96 yL_refusesAny, .static yL_refusesAny] : List Cond) ++ (wsL_seen ++ wsL_refusesAny))
def wsK_act : List Cond := wsL_act ++ wsL_passes
def wsK_law : List Cond := wsL_law ++ (wsK_act ++ (wsK_refuses ++ (wsL_areAll ++ wsL_seen)))
theorem gT_refuses_0 : GoodIn lw_tbl (.code yL_refuses cL_refuses 5 (some .boolean) :: ([.methodLink RL 92 yL_seen, .static yL_seen, .initialized RL, .methodLink RL 96 yL_refusesAny, .static yL_refusesAny] : List Cond)) := goodIn_p _ [307] (by decide +kernel) (by decide +kernel)
theorem gT_refuses : GoodIn lw_tbl wsK_refuses := goodIn_ca gT_refuses_0 (goodIn_app gT_seen gT_refusesAny)
theorem gT_kact : GoodIn lw_tbl wsK_act := goodIn_app gT_act gT_passes
theorem gT_klaw : GoodIn lw_tbl wsK_law := goodIn_app gT_law (goodIn_app gT_kact (goodIn_app gT_refuses (goodIn_app gT_areAll gT_seen)))
theorem refuses_seen : ∀ w ∈ wsL_seen, w ∈ wsK_refuses := fun _ h => List.mem_cons_of_mem _ (List.mem_append_right _ (List.mem_append_left _ h))
theorem refuses_any : ∀ w ∈ wsL_refusesAny, w ∈ wsK_refuses := fun _ h => List.mem_cons_of_mem _ (List.mem_append_right _ (List.mem_append_right _ h))
theorem refuses_ln {ws : List Cond} (h : ∀ w ∈ ws, w ∈ ([.methodLink RL 92 yL_seen, .static yL_seen, .initialized RL, .methodLink RL 96 yL_refusesAny, .static yL_refusesAny] : List Cond)) : GoodIn wsK_refuses ws := fun w q => ⟨List.mem_cons_of_mem _ (List.mem_append_left _ (h w q)), (gT_refuses_0 w (List.mem_cons_of_mem _ (h w q))).2⟩
theorem gK_refuses_seen : GoodIn wsK_refuses (va_wsS RL 92 yL_seen wsL_seen) := goodIn_app (refuses_ln (by decide +kernel)) (goodIn_gd gT_seen refuses_seen)
theorem gK_refuses_refusesAny : GoodIn wsK_refuses (va_wsS RL 96 yL_refusesAny wsL_refusesAny) := goodIn_app (refuses_ln (by decide +kernel)) (goodIn_gd gT_refusesAny refuses_any)
theorem gK_refuses_X4_count : GoodIn wsK_refuses (wsV RL 14 RX4 yX4_count wsX4_count) := goodIn_ls [] gL_seen_X4_count refuses_seen
theorem act_l : ∀ w ∈ wsL_act, w ∈ wsK_act := fun _ h => List.mem_append_left _ h
theorem act_r : ∀ w ∈ wsL_passes, w ∈ wsK_act := fun _ h => List.mem_append_right _ h
theorem gK_act_passes : GoodIn wsK_act (va_wsS RL 100 yL_passes wsL_passes) := goodIn_app (goodIn_ls [] (goodIn_of (big := wsL_act) _ (by decide +kernel)) act_l) (goodIn_gd gT_passes act_r)
theorem law_l : ∀ w ∈ wsL_law, w ∈ wsK_law := fun _ h => List.mem_append_left _ h
theorem law_1 : ∀ w ∈ wsK_act, w ∈ wsK_law := fun _ h => List.mem_append_right _ (List.mem_append_left _ h)
theorem law_2 : ∀ w ∈ wsK_refuses, w ∈ wsK_law := fun _ h => List.mem_append_right _ (List.mem_append_right _ (List.mem_append_left _ h))
theorem law_3 : ∀ w ∈ wsL_areAll, w ∈ wsK_law := fun _ h => List.mem_append_right _ (List.mem_append_right _ (List.mem_append_right _ (List.mem_append_left _ h)))
theorem law_4 : ∀ w ∈ wsL_seen, w ∈ wsK_law := fun _ h => List.mem_append_right _ (List.mem_append_right _ (List.mem_append_right _ (List.mem_append_right _ h)))
theorem gK_law_act : GoodIn wsK_law (va_wsS RL 114 yL_act wsK_act) := goodIn_app (goodIn_ls [] (goodIn_of (big := wsL_law) _ (by decide +kernel)) law_l) (goodIn_gd gT_kact law_1)
theorem gK_law_refuses : GoodIn wsK_law (va_wsS RL 107 yL_refuses wsK_refuses) := goodIn_app (goodIn_ls [] (goodIn_of (big := wsL_law) _ (by decide +kernel)) law_l) (goodIn_gd gT_refuses law_2)
theorem gK_law_areAll : GoodIn wsK_law (va_wsS RL 118 yL_areAll wsL_areAll) := goodIn_app (goodIn_ls [] (goodIn_of (big := wsL_law) _ (by decide +kernel)) law_l) (goodIn_gd gT_areAll law_3)
theorem gK_law_seen : GoodIn wsK_law (va_wsS RL 92 yL_seen wsL_seen) := goodIn_app (goodIn_ls [] (goodIn_of (big := wsL_law) _ (by decide +kernel)) law_l) (goodIn_gd gT_seen law_4)
theorem gK_law_cell : GoodIn wsK_law (va_wsS RL 110 yL_cell wsL_cell) := goodIn_ls [] gL_law_L_cell law_l
