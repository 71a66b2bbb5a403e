/-! the words of the law are among the tables; in pieces -/
theorem in_app {big a b : List Cond} (h1 : ∀ w ∈ a, w ∈ big) (h2 : ∀ w ∈ b, w ∈ big) : ∀ w ∈ a ++ b, w ∈ big := fun w h => (List.mem_append.mp h).elim (h1 w) (h2 w)
theorem inL_1 : ∀ w ∈ wsL_law_r1, w ∈ lw_tbl := fun w h => (goodIn_p wsL_law_r1 [42, 45] (by decide +kernel) (by decide +kernel) w h).1
theorem inL_2 : ∀ w ∈ wsL_law_r2, w ∈ lw_tbl := fun w h => (goodIn_p wsL_law_r2 [50, 120] (by decide +kernel) (by decide +kernel) w h).1
theorem inL_3 : ∀ w ∈ wsL_law_r3, w ∈ lw_tbl := fun w h => (goodIn_p wsL_law_r3 [135, 152, 471] (by decide +kernel) (by decide +kernel) w h).1
theorem inL_4 : ∀ w ∈ wsL_law_r4, w ∈ lw_tbl := fun w h => (goodIn_p wsL_law_r4 [476, 182, 190, 194] (by decide +kernel) (by decide +kernel) w h).1
theorem inL_5 : ∀ w ∈ wsL_law_r5, w ∈ lw_tbl := fun w h => (goodIn_p wsL_law_r5 [198, 201, 533, 536, 521, 529] (by decide +kernel) (by decide +kernel) w h).1
theorem inL_6 : ∀ w ∈ wsL_law_r6, w ∈ lw_tbl := fun w h => (goodIn_p wsL_law_r6 [514, 205, 208, 212, 540, 543] (by decide +kernel) (by decide +kernel) w h).1
theorem inL_7 : ∀ w ∈ wsL_law_r7, w ∈ lw_tbl := fun w h => (goodIn_p wsL_law_r7 [547, 551, 216, 220, 223, 227] (by decide +kernel) (by decide +kernel) w h).1
theorem inL_8 : ∀ w ∈ wsL_law_r8, w ∈ lw_tbl := fun w h => (goodIn_p wsL_law_r8 [555, 559, 231, 234, 563, 566] (by decide +kernel) (by decide +kernel) w h).1
theorem inL_9 : ∀ w ∈ wsL_law_r9, w ∈ lw_tbl := fun w h => (goodIn_p wsL_law_r9 [570, 574, 238, 241, 245, 249] (by decide +kernel) (by decide +kernel) w h).1
theorem inL_10 : ∀ w ∈ wsL_law_r10, w ∈ lw_tbl := fun w h => (goodIn_p wsL_law_r10 [253, 578, 582, 586, 589, 260] (by decide +kernel) (by decide +kernel) w h).1
theorem inL_11 : ∀ w ∈ wsL_law_r11, w ∈ lw_tbl := fun w h => (goodIn_p wsL_law_r11 [264, 267, 270, 274, 278, 283] (by decide +kernel) (by decide +kernel) w h).1
theorem inL_12 : ∀ w ∈ wsL_law_r12, w ∈ lw_tbl := fun w h => (goodIn_p wsL_law_r12 [287, 290, 295, 299, 593, 597] (by decide +kernel) (by decide +kernel) w h).1
theorem inL_13 : ∀ w ∈ wsL_law_r13, w ∈ lw_tbl := fun w h => (goodIn_p wsL_law_r13 [601, 605, 609, 613, 617, 621] (by decide +kernel) (by decide +kernel) w h).1
theorem inL_14 : ∀ w ∈ wsL_law_r14, w ∈ lw_tbl := fun w h => (goodIn_p wsL_law_r14 [303, 625, 307, 311, 315, 318] (by decide +kernel) (by decide +kernel) w h).1
theorem inL_15 : ∀ w ∈ wsL_law_r15, w ∈ lw_tbl := fun w h => (goodIn_p wsL_law_r15 [322, 326, 330, 334, 337, 629] (by decide +kernel) (by decide +kernel) w h).1
theorem inL_16 : ∀ w ∈ wsL_law_r16, w ∈ lw_tbl := fun w h => (goodIn_p wsL_law_r16 [633, 637, 641, 645, 649, 653] (by decide +kernel) (by decide +kernel) w h).1
theorem inL_17 : ∀ w ∈ wsL_law_r17, w ∈ lw_tbl := fun w h => (goodIn_p wsL_law_r17 [341, 345, 348, 351, 355, 359] (by decide +kernel) (by decide +kernel) w h).1
theorem inL_18 : ∀ w ∈ wsL_law_r18, w ∈ lw_tbl := fun w h => (goodIn_p wsL_law_r18 [678, 670, 674, 364] (by decide +kernel) (by decide +kernel) w h).1
theorem inL_19 : ∀ w ∈ wsL_law_r19, w ∈ lw_tbl := fun w h => (goodIn_p wsL_law_r19 [370, 682, 686, 374, 378, 690] (by decide +kernel) (by decide +kernel) w h).1
theorem inL_20 : ∀ w ∈ wsL_law_r20, w ∈ lw_tbl := fun w h => (goodIn_p wsL_law_r20 [694, 382, 698, 387, 702, 391] (by decide +kernel) (by decide +kernel) w h).1
theorem inL_21 : ∀ w ∈ wsL_law_r21, w ∈ lw_tbl := fun w h => (goodIn_p wsL_law_r21 [395, 706, 710, 714] (by decide +kernel) (by decide +kernel) w h).1
theorem inL_22 : ∀ w ∈ wsL_law_r22, w ∈ lw_tbl := fun w h => (goodIn_p wsL_law_r22 [718, 401, 405, 409, 722] (by decide +kernel) (by decide +kernel) w h).1
theorem inL_23 : ∀ w ∈ wsL_law_r23, w ∈ lw_tbl := fun w h => (goodIn_p wsL_law_r23 [414, 726, 418, 422, 730, 426] (by decide +kernel) (by decide +kernel) w h).1
theorem inL_24 : ∀ w ∈ wsL_law_r24, w ∈ lw_tbl := fun w h => (goodIn_p wsL_law_r24 [734, 431, 434, 441, 657] (by decide +kernel) (by decide +kernel) w h).1
theorem inL_25 : ∀ w ∈ wsL_law_r25, w ∈ lw_tbl := fun w h => (goodIn_p wsL_law_r25 [445, 662, 449, 666, 453, 457] (by decide +kernel) (by decide +kernel) w h).1
theorem inL_26 : ∀ w ∈ wsL_law_r26, w ∈ lw_tbl := fun w h => (goodIn_p wsL_law_r26 [511, 461, 518, 466, 525] (by decide +kernel) (by decide +kernel) w h).1
theorem inX0 : ∀ w ∈ wsX00, w ∈ lw_tbl := fun w h => (goodIn_p wsX00 [] (by decide +kernel) (by decide +kernel) w h).1
theorem inX1 : ∀ w ∈ wsX10, w ∈ lw_tbl := fun w h => (goodIn_p wsX10 [] (by decide +kernel) (by decide +kernel) w h).1
theorem inX2 : ∀ w ∈ wsX20, w ∈ lw_tbl := fun w h => (goodIn_p wsX20 [] (by decide +kernel) (by decide +kernel) w h).1
theorem inX3 : ∀ w ∈ wsX30, w ∈ lw_tbl := fun w h => (goodIn_p wsX30 [] (by decide +kernel) (by decide +kernel) w h).1
theorem inX4 : ∀ w ∈ wsX40, w ∈ lw_tbl := fun w h => (goodIn_p wsX40 [] (by decide +kernel) (by decide +kernel) w h).1
theorem inX5 : ∀ w ∈ wsX50, w ∈ lw_tbl := fun w h => (goodIn_p wsX50 [] (by decide +kernel) (by decide +kernel) w h).1
theorem wsL_law_in : ∀ w ∈ wsL_law, w ∈ lw_tbl := (in_app (in_app (in_app (in_app (in_app (in_app (in_app (in_app inL_1 (in_app inL_2 (in_app inL_3 (in_app inL_4 (in_app inL_5 (in_app inL_6 (in_app inL_7 (in_app inL_8 (in_app inL_9 (in_app inL_10 (in_app inL_11 (in_app inL_12 (in_app inL_13 (in_app inL_14 (in_app inL_15 (in_app inL_16 (in_app inL_17 (in_app inL_18 (in_app inL_19 (in_app inL_20 (in_app inL_21 (in_app inL_22 (in_app inL_23 (in_app inL_24 (in_app inL_25 inL_26))))))))))))))))))))))))) inX4) inX5) inX3) inX1) inX0) inX2) (fun w h => absurd h List.not_mem_nil))
