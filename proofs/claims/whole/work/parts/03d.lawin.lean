theorem wsL_in_r25 : GoodIn lw_tbl wsL_law0_r25 := goodIn_p wsL_law0_r25 [929, 351, 933, 654, 658, 662] (by decide +kernel) (by decide +kernel)
theorem wsL_in_r26 : GoodIn lw_tbl wsL_law0_r26 := goodIn_p wsL_law0_r26 [667, 937, 941, 675, 679] (by decide +kernel) (by decide +kernel)
theorem wsL_in_r27 : GoodIn lw_tbl wsL_law0_r27 := goodIn_p wsL_law0_r27 [945, 686, 690, 949, 697] (by decide +kernel) (by decide +kernel)
theorem wsL_in_r28 : GoodIn lw_tbl wsL_law0_r28 := goodIn_p wsL_law0_r28 [701, 706, 710, 953] (by decide +kernel) (by decide +kernel)
theorem wsL_in_X2 : GoodIn lw_tbl wsX20 := goodIn_of _ (by decide +kernel)
theorem wsL_in_X3 : GoodIn lw_tbl wsX30 := goodIn_of _ (by decide +kernel)
theorem wsL_in_X1 : GoodIn lw_tbl wsX10 := goodIn_of _ (by decide +kernel)
theorem wsL_in_X0 : GoodIn lw_tbl wsX00 := goodIn_of _ (by decide +kernel)
theorem wsL_law_in0 : ∀ w ∈ wsL_law0, w ∈ lw_tbl := fun w h => ((goodIn_app (goodIn_app (goodIn_app (goodIn_app (goodIn_app (goodIn_app wsL_in_r1 (goodIn_app wsL_in_r2 (goodIn_app wsL_in_r3 (goodIn_app wsL_in_r4 (goodIn_app wsL_in_r5 (goodIn_app wsL_in_r6 (goodIn_app wsL_in_r7 (goodIn_app wsL_in_r8 (goodIn_app wsL_in_r9 (goodIn_app wsL_in_r10 (goodIn_app wsL_in_r11 (goodIn_app wsL_in_r12 (goodIn_app wsL_in_r13 (goodIn_app wsL_in_r14 (goodIn_app wsL_in_r15 (goodIn_app wsL_in_r16 (goodIn_app wsL_in_r17 (goodIn_app wsL_in_r18 (goodIn_app wsL_in_r19 (goodIn_app wsL_in_r20 (goodIn_app wsL_in_r21 (goodIn_app wsL_in_r22 (goodIn_app wsL_in_r23 (goodIn_app wsL_in_r24 (goodIn_app wsL_in_r25 (goodIn_app wsL_in_r26 (goodIn_app wsL_in_r27 wsL_in_r28))))))))))))))))))))))))))) wsL_in_X2) wsL_in_X3) wsL_in_X1) wsL_in_X0) (fun _ h => absurd h List.not_mem_nil)) w h).1
