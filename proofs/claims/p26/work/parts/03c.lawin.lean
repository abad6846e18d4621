theorem wsL_in_r13 : GoodIn lw_tbl wsL_law0_r13 := goodIn_p wsL_law0_r13 [584, 588, 593, 598, 602, 606] (by decide +kernel) (by decide +kernel)
theorem wsL_in_r14 : GoodIn lw_tbl wsL_law0_r14 := goodIn_p wsL_law0_r14 [610, 614, 618, 623, 627, 630, 358] (by decide +kernel) (by decide +kernel)
theorem wsL_in_r15 : GoodIn lw_tbl wsL_law0_r15 := goodIn_p wsL_law0_r15 [373, 377, 397, 403, 407, 411] (by decide +kernel) (by decide +kernel)
theorem wsL_in_r16 : GoodIn lw_tbl wsL_law0_r16 := goodIn_p wsL_law0_r16 [415, 423, 427, 432, 436, 443] (by decide +kernel) (by decide +kernel)
theorem wsL_in_r17 : GoodIn lw_tbl wsL_law0_r17 := goodIn_p wsL_law0_r17 [447, 451, 455, 638, 645, 648] (by decide +kernel) (by decide +kernel)
theorem wsL_in_X2 : GoodIn lw_tbl wsX20 := goodIn_of _ (by decide +kernel)
theorem wsL_in_X1 : GoodIn lw_tbl wsX10 := goodIn_of _ (by decide +kernel)
theorem wsL_in_X0 : GoodIn lw_tbl wsX00 := goodIn_of _ (by decide +kernel)
theorem wsL_law_in0 : ∀ w ∈ wsL_law0, w ∈ lw_tbl := fun w h => ((goodIn_app (goodIn_app (goodIn_app (goodIn_app (goodIn_app wsL_in_r1 (goodIn_app wsL_in_r2 (goodIn_app wsL_in_r3 (goodIn_app wsL_in_r4 (goodIn_app wsL_in_r5 (goodIn_app wsL_in_r6 (goodIn_app wsL_in_r7 (goodIn_app wsL_in_r8 (goodIn_app wsL_in_r9 (goodIn_app wsL_in_r10 (goodIn_app wsL_in_r11 (goodIn_app wsL_in_r12 (goodIn_app wsL_in_r13 (goodIn_app wsL_in_r14 (goodIn_app wsL_in_r15 (goodIn_app wsL_in_r16 wsL_in_r17)))))))))))))))) wsL_in_X2) wsL_in_X1) wsL_in_X0) (fun _ h => absurd h List.not_mem_nil)) w h).1
