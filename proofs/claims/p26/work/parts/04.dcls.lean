theorem dX0_init_0 : decode cX0_init 0 = .ok (.aload_n 0, 1) := by decide +kernel
theorem dX0_init_1 : decode cX0_init 1 = .ok (.invokespecial 3, 3) := by decide +kernel
theorem dX0_init_4 : decode cX0_init 4 = .ok (.aload_n 0, 1) := by decide +kernel
theorem dX0_init_5 : decode cX0_init 5 = .ok (.iconst 0, 1) := by decide +kernel
theorem dX0_init_6 : decode cX0_init 6 = .ok (.putfield 9, 3) := by decide +kernel
theorem dX0_init_9 : decode cX0_init 9 = .ok (.aload_n 0, 1) := by decide +kernel
theorem dX0_init_10 : decode cX0_init 10 = .ok (.iconst 0, 1) := by decide +kernel
theorem dX0_init_11 : decode cX0_init 11 = .ok (.putfield 15, 3) := by decide +kernel
theorem dX0_init_14 : decode cX0_init 14 = .ok (.aload_n 0, 1) := by decide +kernel
theorem dX0_init_15 : decode cX0_init 15 = .ok (.sipush 424, 3) := by decide +kernel
theorem dX0_init_18 : decode cX0_init 18 = .ok (.newarray .int, 2) := by decide +kernel
theorem dX0_init_20 : decode cX0_init 20 = .ok (.putfield 18, 3) := by decide +kernel
theorem dX0_init_23 : decode cX0_init 23 = .ok (.aload_n 0, 1) := by decide +kernel
theorem dX0_init_24 : decode cX0_init 24 = .ok (.sipush 424, 3) := by decide +kernel
theorem dX0_init_27 : decode cX0_init 27 = .ok (.newarray .int, 2) := by decide +kernel
theorem dX0_init_29 : decode cX0_init 29 = .ok (.putfield 22, 3) := by decide +kernel
theorem dX0_init_32 : decode cX0_init 32 = .ok (.aload_n 0, 1) := by decide +kernel
theorem dX0_init_33 : decode cX0_init 33 = .ok (.sipush 424, 3) := by decide +kernel
theorem dX0_init_36 : decode cX0_init 36 = .ok (.newarray .int, 2) := by decide +kernel
theorem dX0_init_38 : decode cX0_init 38 = .ok (.putfield 25, 3) := by decide +kernel
theorem dX0_init_41 : decode cX0_init 41 = .ok (.aload_n 0, 1) := by decide +kernel
theorem dX0_init_42 : decode cX0_init 42 = .ok (.sipush 424, 3) := by decide +kernel
theorem dX0_init_45 : decode cX0_init 45 = .ok (.newarray .boolean, 2) := by decide +kernel
theorem dX0_init_47 : decode cX0_init 47 = .ok (.putfield 28, 3) := by decide +kernel
theorem dX0_init_50 : decode cX0_init 50 = .ok (.return_, 1) := by decide +kernel
theorem dX0_holds_0 : decode cX0_holds 0 = .ok (.iload_n 1, 1) := by decide +kernel
theorem dX0_holds_1 : decode cX0_holds 1 = .ok (.ifCond .lt 22, 3) := by decide +kernel
theorem dX0_holds_4 : decode cX0_holds 4 = .ok (.iload_n 1, 1) := by decide +kernel
theorem dX0_holds_5 : decode cX0_holds 5 = .ok (.aload_n 0, 1) := by decide +kernel
theorem dX0_holds_6 : decode cX0_holds 6 = .ok (.getfield 9, 3) := by decide +kernel
theorem dX0_holds_9 : decode cX0_holds 9 = .ok (.if_icmp .ge 14, 3) := by decide +kernel
theorem dX0_holds_12 : decode cX0_holds 12 = .ok (.iload_n 1, 1) := by decide +kernel
theorem dX0_holds_13 : decode cX0_holds 13 = .ok (.sipush 424, 3) := by decide +kernel
theorem dX0_holds_16 : decode cX0_holds 16 = .ok (.if_icmp .ge 7, 3) := by decide +kernel
theorem dX0_holds_19 : decode cX0_holds 19 = .ok (.iconst 1, 1) := by decide +kernel
theorem dX0_holds_20 : decode cX0_holds 20 = .ok (.goto 4, 3) := by decide +kernel
theorem dX0_holds_23 : decode cX0_holds 23 = .ok (.iconst 0, 1) := by decide +kernel
theorem dX0_holds_24 : decode cX0_holds 24 = .ok (.ireturn, 1) := by decide +kernel
set_option maxRecDepth 20000 in
theorem ggX0_kindAt_X0_holds : GoodIn wsX0_kindAt wsX0_holds := goodIn_r _ [6, 7, 8, 9, 10, 11, 12, 13] (by decide +kernel) (by decide +kernel)
set_option maxRecDepth 20000 in
theorem gX0_kindAt_X0_holds : GoodIn wsX0_kindAt (wsV RX0 32 RX0 yX0_holds wsX0_holds) := goodIn_app (goodIn_of _ (by decide +kernel)) ggX0_kindAt_X0_holds
theorem dX0_kindAt_0 : decode cX0_kindAt 0 = .ok (.aload_n 0, 1) := by decide +kernel
theorem dX0_kindAt_1 : decode cX0_kindAt 1 = .ok (.iload_n 1, 1) := by decide +kernel
theorem dX0_kindAt_2 : decode cX0_kindAt 2 = .ok (.invokevirtual 32, 3) := by decide +kernel
theorem dX0_kindAt_5 : decode cX0_kindAt 5 = .ok (.ifCond .eq 12, 3) := by decide +kernel
theorem dX0_kindAt_8 : decode cX0_kindAt 8 = .ok (.aload_n 0, 1) := by decide +kernel
theorem dX0_kindAt_9 : decode cX0_kindAt 9 = .ok (.getfield 18, 3) := by decide +kernel
theorem dX0_kindAt_12 : decode cX0_kindAt 12 = .ok (.iload_n 1, 1) := by decide +kernel
theorem dX0_kindAt_13 : decode cX0_kindAt 13 = .ok (.iaload, 1) := by decide +kernel
theorem dX0_kindAt_14 : decode cX0_kindAt 14 = .ok (.goto 4, 3) := by decide +kernel
theorem dX0_kindAt_17 : decode cX0_kindAt 17 = .ok (.iconst 0, 1) := by decide +kernel
theorem dX0_kindAt_18 : decode cX0_kindAt 18 = .ok (.ireturn, 1) := by decide +kernel
set_option maxRecDepth 20000 in
theorem ggX0_keyAt_X0_holds : GoodIn wsX0_keyAt wsX0_holds := goodIn_r _ [6, 7, 8, 9, 10, 11, 12, 13] (by decide +kernel) (by decide +kernel)
set_option maxRecDepth 20000 in
theorem gX0_keyAt_X0_holds : GoodIn wsX0_keyAt (wsV RX0 32 RX0 yX0_holds wsX0_holds) := goodIn_app (goodIn_of _ (by decide +kernel)) ggX0_keyAt_X0_holds
theorem dX0_keyAt_0 : decode cX0_keyAt 0 = .ok (.aload_n 0, 1) := by decide +kernel
theorem dX0_keyAt_1 : decode cX0_keyAt 1 = .ok (.iload_n 1, 1) := by decide +kernel
theorem dX0_keyAt_2 : decode cX0_keyAt 2 = .ok (.invokevirtual 32, 3) := by decide +kernel
theorem dX0_keyAt_5 : decode cX0_keyAt 5 = .ok (.ifCond .eq 12, 3) := by decide +kernel
theorem dX0_keyAt_8 : decode cX0_keyAt 8 = .ok (.aload_n 0, 1) := by decide +kernel
theorem dX0_keyAt_9 : decode cX0_keyAt 9 = .ok (.getfield 22, 3) := by decide +kernel
theorem dX0_keyAt_12 : decode cX0_keyAt 12 = .ok (.iload_n 1, 1) := by decide +kernel
theorem dX0_keyAt_13 : decode cX0_keyAt 13 = .ok (.iaload, 1) := by decide +kernel
theorem dX0_keyAt_14 : decode cX0_keyAt 14 = .ok (.goto 4, 3) := by decide +kernel
theorem dX0_keyAt_17 : decode cX0_keyAt 17 = .ok (.iconst (-1), 1) := by decide +kernel
theorem dX0_keyAt_18 : decode cX0_keyAt 18 = .ok (.ireturn, 1) := by decide +kernel
set_option maxRecDepth 20000 in
theorem ggX0_columnAt_X0_holds : GoodIn wsX0_columnAt wsX0_holds := goodIn_r _ [6, 7, 8, 9, 10, 11, 12, 13] (by decide +kernel) (by decide +kernel)
set_option maxRecDepth 20000 in
theorem gX0_columnAt_X0_holds : GoodIn wsX0_columnAt (wsV RX0 32 RX0 yX0_holds wsX0_holds) := goodIn_app (goodIn_of _ (by decide +kernel)) ggX0_columnAt_X0_holds
theorem dX0_columnAt_0 : decode cX0_columnAt 0 = .ok (.aload_n 0, 1) := by decide +kernel
theorem dX0_columnAt_1 : decode cX0_columnAt 1 = .ok (.iload_n 1, 1) := by decide +kernel
theorem dX0_columnAt_2 : decode cX0_columnAt 2 = .ok (.invokevirtual 32, 3) := by decide +kernel
theorem dX0_columnAt_5 : decode cX0_columnAt 5 = .ok (.ifCond .eq 12, 3) := by decide +kernel
theorem dX0_columnAt_8 : decode cX0_columnAt 8 = .ok (.aload_n 0, 1) := by decide +kernel
theorem dX0_columnAt_9 : decode cX0_columnAt 9 = .ok (.getfield 25, 3) := by decide +kernel
theorem dX0_columnAt_12 : decode cX0_columnAt 12 = .ok (.iload_n 1, 1) := by decide +kernel
theorem dX0_columnAt_13 : decode cX0_columnAt 13 = .ok (.iaload, 1) := by decide +kernel
theorem dX0_columnAt_14 : decode cX0_columnAt 14 = .ok (.goto 4, 3) := by decide +kernel
theorem dX0_columnAt_17 : decode cX0_columnAt 17 = .ok (.iconst (-1), 1) := by decide +kernel
theorem dX0_columnAt_18 : decode cX0_columnAt 18 = .ok (.ireturn, 1) := by decide +kernel
set_option maxRecDepth 20000 in
theorem ggX0_isSettled_X0_holds : GoodIn wsX0_isSettled wsX0_holds := goodIn_r _ [6, 7, 8, 9, 10, 11, 12, 13] (by decide +kernel) (by decide +kernel)
set_option maxRecDepth 20000 in
theorem gX0_isSettled_X0_holds : GoodIn wsX0_isSettled (wsV RX0 32 RX0 yX0_holds wsX0_holds) := goodIn_app (goodIn_of _ (by decide +kernel)) ggX0_isSettled_X0_holds
theorem dX0_isSettled_0 : decode cX0_isSettled 0 = .ok (.aload_n 0, 1) := by decide +kernel
theorem dX0_isSettled_1 : decode cX0_isSettled 1 = .ok (.iload_n 1, 1) := by decide +kernel
theorem dX0_isSettled_2 : decode cX0_isSettled 2 = .ok (.invokevirtual 32, 3) := by decide +kernel
theorem dX0_isSettled_5 : decode cX0_isSettled 5 = .ok (.ifCond .eq 16, 3) := by decide +kernel
theorem dX0_isSettled_8 : decode cX0_isSettled 8 = .ok (.aload_n 0, 1) := by decide +kernel
theorem dX0_isSettled_9 : decode cX0_isSettled 9 = .ok (.getfield 28, 3) := by decide +kernel
theorem dX0_isSettled_12 : decode cX0_isSettled 12 = .ok (.iload_n 1, 1) := by decide +kernel
theorem dX0_isSettled_13 : decode cX0_isSettled 13 = .ok (.baload, 1) := by decide +kernel
theorem dX0_isSettled_14 : decode cX0_isSettled 14 = .ok (.ifCond .eq 7, 3) := by decide +kernel
theorem dX0_isSettled_17 : decode cX0_isSettled 17 = .ok (.iconst 1, 1) := by decide +kernel
theorem dX0_isSettled_18 : decode cX0_isSettled 18 = .ok (.goto 4, 3) := by decide +kernel
theorem dX0_isSettled_21 : decode cX0_isSettled 21 = .ok (.iconst 0, 1) := by decide +kernel
theorem dX0_isSettled_22 : decode cX0_isSettled 22 = .ok (.ireturn, 1) := by decide +kernel
theorem dX0_append_0 : decode cX0_append 0 = .ok (.aload_n 0, 1) := by decide +kernel
theorem dX0_append_1 : decode cX0_append 1 = .ok (.getfield 9, 3) := by decide +kernel
theorem dX0_append_4 : decode cX0_append 4 = .ok (.sipush 424, 3) := by decide +kernel
theorem dX0_append_7 : decode cX0_append 7 = .ok (.if_icmp .lt 4, 3) := by decide +kernel
theorem dX0_append_10 : decode cX0_append 10 = .ok (.return_, 1) := by decide +kernel
theorem dX0_append_11 : decode cX0_append 11 = .ok (.aload_n 0, 1) := by decide +kernel
theorem dX0_append_12 : decode cX0_append 12 = .ok (.getfield 18, 3) := by decide +kernel
theorem dX0_append_15 : decode cX0_append 15 = .ok (.aload_n 0, 1) := by decide +kernel
theorem dX0_append_16 : decode cX0_append 16 = .ok (.getfield 9, 3) := by decide +kernel
theorem dX0_append_19 : decode cX0_append 19 = .ok (.iload_n 1, 1) := by decide +kernel
theorem dX0_append_20 : decode cX0_append 20 = .ok (.iastore, 1) := by decide +kernel
theorem dX0_append_21 : decode cX0_append 21 = .ok (.aload_n 0, 1) := by decide +kernel
theorem dX0_append_22 : decode cX0_append 22 = .ok (.getfield 22, 3) := by decide +kernel
theorem dX0_append_25 : decode cX0_append 25 = .ok (.aload_n 0, 1) := by decide +kernel
theorem dX0_append_26 : decode cX0_append 26 = .ok (.getfield 9, 3) := by decide +kernel
theorem dX0_append_29 : decode cX0_append 29 = .ok (.iload_n 2, 1) := by decide +kernel
theorem dX0_append_30 : decode cX0_append 30 = .ok (.iastore, 1) := by decide +kernel
theorem dX0_append_31 : decode cX0_append 31 = .ok (.aload_n 0, 1) := by decide +kernel
theorem dX0_append_32 : decode cX0_append 32 = .ok (.getfield 25, 3) := by decide +kernel
theorem dX0_append_35 : decode cX0_append 35 = .ok (.aload_n 0, 1) := by decide +kernel
theorem dX0_append_36 : decode cX0_append 36 = .ok (.getfield 9, 3) := by decide +kernel
theorem dX0_append_39 : decode cX0_append 39 = .ok (.iload_n 3, 1) := by decide +kernel
theorem dX0_append_40 : decode cX0_append 40 = .ok (.iastore, 1) := by decide +kernel
theorem dX0_append_41 : decode cX0_append 41 = .ok (.aload_n 0, 1) := by decide +kernel
theorem dX0_append_42 : decode cX0_append 42 = .ok (.getfield 28, 3) := by decide +kernel
theorem dX0_append_45 : decode cX0_append 45 = .ok (.aload_n 0, 1) := by decide +kernel
theorem dX0_append_46 : decode cX0_append 46 = .ok (.getfield 9, 3) := by decide +kernel
theorem dX0_append_49 : decode cX0_append 49 = .ok (.iconst 0, 1) := by decide +kernel
theorem dX0_append_50 : decode cX0_append 50 = .ok (.bastore, 1) := by decide +kernel
theorem dX0_append_51 : decode cX0_append 51 = .ok (.aload_n 0, 1) := by decide +kernel
theorem dX0_append_52 : decode cX0_append 52 = .ok (.dup, 1) := by decide +kernel
theorem dX0_append_53 : decode cX0_append 53 = .ok (.getfield 9, 3) := by decide +kernel
theorem dX0_append_56 : decode cX0_append 56 = .ok (.iconst 1, 1) := by decide +kernel
theorem dX0_append_57 : decode cX0_append 57 = .ok (.iadd, 1) := by decide +kernel
theorem dX0_append_58 : decode cX0_append 58 = .ok (.putfield 9, 3) := by decide +kernel
theorem dX0_append_61 : decode cX0_append 61 = .ok (.aload_n 0, 1) := by decide +kernel
theorem dX0_append_62 : decode cX0_append 62 = .ok (.dup, 1) := by decide +kernel
theorem dX0_append_63 : decode cX0_append 63 = .ok (.getfield 15, 3) := by decide +kernel
theorem dX0_append_66 : decode cX0_append 66 = .ok (.iconst 1, 1) := by decide +kernel
theorem dX0_append_67 : decode cX0_append 67 = .ok (.iadd, 1) := by decide +kernel
theorem dX0_append_68 : decode cX0_append 68 = .ok (.putfield 15, 3) := by decide +kernel
theorem dX0_append_71 : decode cX0_append 71 = .ok (.return_, 1) := by decide +kernel
set_option maxRecDepth 20000 in
theorem ggX0_markSettled_X0_holds : GoodIn wsX0_markSettled wsX0_holds := goodIn_r _ [7, 8, 9, 10, 11, 12, 13, 14] (by decide +kernel) (by decide +kernel)
set_option maxRecDepth 20000 in
theorem gX0_markSettled_X0_holds : GoodIn wsX0_markSettled (wsV RX0 32 RX0 yX0_holds wsX0_holds) := goodIn_app (goodIn_of _ (by decide +kernel)) ggX0_markSettled_X0_holds
theorem dX0_markSettled_0 : decode cX0_markSettled 0 = .ok (.aload_n 0, 1) := by decide +kernel
theorem dX0_markSettled_1 : decode cX0_markSettled 1 = .ok (.iload_n 1, 1) := by decide +kernel
theorem dX0_markSettled_2 : decode cX0_markSettled 2 = .ok (.invokevirtual 32, 3) := by decide +kernel
theorem dX0_markSettled_5 : decode cX0_markSettled 5 = .ok (.ifCond .eq 29, 3) := by decide +kernel
theorem dX0_markSettled_8 : decode cX0_markSettled 8 = .ok (.aload_n 0, 1) := by decide +kernel
theorem dX0_markSettled_9 : decode cX0_markSettled 9 = .ok (.getfield 28, 3) := by decide +kernel
theorem dX0_markSettled_12 : decode cX0_markSettled 12 = .ok (.iload_n 1, 1) := by decide +kernel
theorem dX0_markSettled_13 : decode cX0_markSettled 13 = .ok (.baload, 1) := by decide +kernel
theorem dX0_markSettled_14 : decode cX0_markSettled 14 = .ok (.ifCond .ne 20, 3) := by decide +kernel
theorem dX0_markSettled_17 : decode cX0_markSettled 17 = .ok (.aload_n 0, 1) := by decide +kernel
theorem dX0_markSettled_18 : decode cX0_markSettled 18 = .ok (.getfield 28, 3) := by decide +kernel
theorem dX0_markSettled_21 : decode cX0_markSettled 21 = .ok (.iload_n 1, 1) := by decide +kernel
theorem dX0_markSettled_22 : decode cX0_markSettled 22 = .ok (.iconst 1, 1) := by decide +kernel
theorem dX0_markSettled_23 : decode cX0_markSettled 23 = .ok (.bastore, 1) := by decide +kernel
theorem dX0_markSettled_24 : decode cX0_markSettled 24 = .ok (.aload_n 0, 1) := by decide +kernel
theorem dX0_markSettled_25 : decode cX0_markSettled 25 = .ok (.dup, 1) := by decide +kernel
theorem dX0_markSettled_26 : decode cX0_markSettled 26 = .ok (.getfield 15, 3) := by decide +kernel
theorem dX0_markSettled_29 : decode cX0_markSettled 29 = .ok (.iconst 1, 1) := by decide +kernel
theorem dX0_markSettled_30 : decode cX0_markSettled 30 = .ok (.isub, 1) := by decide +kernel
theorem dX0_markSettled_31 : decode cX0_markSettled 31 = .ok (.putfield 15, 3) := by decide +kernel
theorem dX0_markSettled_34 : decode cX0_markSettled 34 = .ok (.return_, 1) := by decide +kernel
theorem dX0_becomeEmpty_0 : decode cX0_becomeEmpty 0 = .ok (.aload_n 0, 1) := by decide +kernel
theorem dX0_becomeEmpty_1 : decode cX0_becomeEmpty 1 = .ok (.iconst 0, 1) := by decide +kernel
theorem dX0_becomeEmpty_2 : decode cX0_becomeEmpty 2 = .ok (.putfield 9, 3) := by decide +kernel
theorem dX0_becomeEmpty_5 : decode cX0_becomeEmpty 5 = .ok (.aload_n 0, 1) := by decide +kernel
theorem dX0_becomeEmpty_6 : decode cX0_becomeEmpty 6 = .ok (.iconst 0, 1) := by decide +kernel
theorem dX0_becomeEmpty_7 : decode cX0_becomeEmpty 7 = .ok (.putfield 15, 3) := by decide +kernel
theorem dX0_becomeEmpty_10 : decode cX0_becomeEmpty 10 = .ok (.return_, 1) := by decide +kernel
theorem dX1_init_0 : decode cX1_init 0 = .ok (.aload_n 0, 1) := by decide +kernel
theorem dX1_init_1 : decode cX1_init 1 = .ok (.invokespecial 3, 3) := by decide +kernel
theorem dX1_init_4 : decode cX1_init 4 = .ok (.aload_n 0, 1) := by decide +kernel
theorem dX1_init_5 : decode cX1_init 5 = .ok (.iconst 0, 1) := by decide +kernel
theorem dX1_init_6 : decode cX1_init 6 = .ok (.putfield 9, 3) := by decide +kernel
theorem dX1_init_9 : decode cX1_init 9 = .ok (.aload_n 0, 1) := by decide +kernel
theorem dX1_init_10 : decode cX1_init 10 = .ok (.iconst 0, 1) := by decide +kernel
theorem dX1_init_11 : decode cX1_init 11 = .ok (.putfield 15, 3) := by decide +kernel
theorem dX1_init_14 : decode cX1_init 14 = .ok (.aload_n 0, 1) := by decide +kernel
theorem dX1_init_15 : decode cX1_init 15 = .ok (.bipush 8, 2) := by decide +kernel
theorem dX1_init_17 : decode cX1_init 17 = .ok (.newarray .int, 2) := by decide +kernel
theorem dX1_init_19 : decode cX1_init 19 = .ok (.putfield 18, 3) := by decide +kernel
theorem dX1_init_22 : decode cX1_init 22 = .ok (.aload_n 0, 1) := by decide +kernel
theorem dX1_init_23 : decode cX1_init 23 = .ok (.sipush 192, 3) := by decide +kernel
theorem dX1_init_26 : decode cX1_init 26 = .ok (.newarray .int, 2) := by decide +kernel
theorem dX1_init_28 : decode cX1_init 28 = .ok (.putfield 22, 3) := by decide +kernel
theorem dX1_init_31 : decode cX1_init 31 = .ok (.return_, 1) := by decide +kernel
theorem dX1_hasColumn_0 : decode cX1_hasColumn 0 = .ok (.iload_n 1, 1) := by decide +kernel
theorem dX1_hasColumn_1 : decode cX1_hasColumn 1 = .ok (.ifCond .lt 24, 3) := by decide +kernel
theorem dX1_hasColumn_4 : decode cX1_hasColumn 4 = .ok (.iload_n 1, 1) := by decide +kernel
theorem dX1_hasColumn_5 : decode cX1_hasColumn 5 = .ok (.bipush 8, 2) := by decide +kernel
theorem dX1_hasColumn_7 : decode cX1_hasColumn 7 = .ok (.if_icmp .ge 18, 3) := by decide +kernel
theorem dX1_hasColumn_10 : decode cX1_hasColumn 10 = .ok (.aload_n 0, 1) := by decide +kernel
theorem dX1_hasColumn_11 : decode cX1_hasColumn 11 = .ok (.getfield 9, 3) := by decide +kernel
theorem dX1_hasColumn_14 : decode cX1_hasColumn 14 = .ok (.iconst 1, 1) := by decide +kernel
theorem dX1_hasColumn_15 : decode cX1_hasColumn 15 = .ok (.iload_n 1, 1) := by decide +kernel
theorem dX1_hasColumn_16 : decode cX1_hasColumn 16 = .ok (.ishl, 1) := by decide +kernel
theorem dX1_hasColumn_17 : decode cX1_hasColumn 17 = .ok (.iand, 1) := by decide +kernel
theorem dX1_hasColumn_18 : decode cX1_hasColumn 18 = .ok (.ifCond .eq 7, 3) := by decide +kernel
theorem dX1_hasColumn_21 : decode cX1_hasColumn 21 = .ok (.iconst 1, 1) := by decide +kernel
theorem dX1_hasColumn_22 : decode cX1_hasColumn 22 = .ok (.goto 4, 3) := by decide +kernel
theorem dX1_hasColumn_25 : decode cX1_hasColumn 25 = .ok (.iconst 0, 1) := by decide +kernel
theorem dX1_hasColumn_26 : decode cX1_hasColumn 26 = .ok (.ireturn, 1) := by decide +kernel
theorem dX1_hasRow_0 : decode cX1_hasRow 0 = .ok (.iload_n 1, 1) := by decide +kernel
theorem dX1_hasRow_1 : decode cX1_hasRow 1 = .ok (.ifCond .lt 24, 3) := by decide +kernel
theorem dX1_hasRow_4 : decode cX1_hasRow 4 = .ok (.iload_n 1, 1) := by decide +kernel
theorem dX1_hasRow_5 : decode cX1_hasRow 5 = .ok (.bipush 24, 2) := by decide +kernel
theorem dX1_hasRow_7 : decode cX1_hasRow 7 = .ok (.if_icmp .ge 18, 3) := by decide +kernel
theorem dX1_hasRow_10 : decode cX1_hasRow 10 = .ok (.aload_n 0, 1) := by decide +kernel
theorem dX1_hasRow_11 : decode cX1_hasRow 11 = .ok (.getfield 15, 3) := by decide +kernel
theorem dX1_hasRow_14 : decode cX1_hasRow 14 = .ok (.iconst 1, 1) := by decide +kernel
theorem dX1_hasRow_15 : decode cX1_hasRow 15 = .ok (.iload_n 1, 1) := by decide +kernel
theorem dX1_hasRow_16 : decode cX1_hasRow 16 = .ok (.ishl, 1) := by decide +kernel
theorem dX1_hasRow_17 : decode cX1_hasRow 17 = .ok (.iand, 1) := by decide +kernel
theorem dX1_hasRow_18 : decode cX1_hasRow 18 = .ok (.ifCond .eq 7, 3) := by decide +kernel
theorem dX1_hasRow_21 : decode cX1_hasRow 21 = .ok (.iconst 1, 1) := by decide +kernel
theorem dX1_hasRow_22 : decode cX1_hasRow 22 = .ok (.goto 4, 3) := by decide +kernel
theorem dX1_hasRow_25 : decode cX1_hasRow 25 = .ok (.iconst 0, 1) := by decide +kernel
theorem dX1_hasRow_26 : decode cX1_hasRow 26 = .ok (.ireturn, 1) := by decide +kernel
set_option maxRecDepth 20000 in
theorem ggX1_hasCell_X1_hasRow : GoodIn wsX1_hasCell wsX1_hasRow := goodIn_r _ [5, 6, 12, 13, 14, 15] (by decide +kernel) (by decide +kernel)
set_option maxRecDepth 20000 in
theorem gX1_hasCell_X1_hasRow : GoodIn wsX1_hasCell (wsV RX1 25 RX1 yX1_hasRow wsX1_hasRow) := goodIn_app (goodIn_of _ (by decide +kernel)) ggX1_hasCell_X1_hasRow
set_option maxRecDepth 20000 in
theorem ggX1_hasCell_X1_hasColumn : GoodIn wsX1_hasCell wsX1_hasColumn := goodIn_r _ [10, 11, 12, 13, 14, 15] (by decide +kernel) (by decide +kernel)
set_option maxRecDepth 20000 in
theorem gX1_hasCell_X1_hasColumn : GoodIn wsX1_hasCell (wsV RX1 29 RX1 yX1_hasColumn wsX1_hasColumn) := goodIn_app (goodIn_of _ (by decide +kernel)) ggX1_hasCell_X1_hasColumn
theorem dX1_hasCell_0 : decode cX1_hasCell 0 = .ok (.aload_n 0, 1) := by decide +kernel
theorem dX1_hasCell_1 : decode cX1_hasCell 1 = .ok (.iload_n 1, 1) := by decide +kernel
theorem dX1_hasCell_2 : decode cX1_hasCell 2 = .ok (.invokevirtual 25, 3) := by decide +kernel
theorem dX1_hasCell_5 : decode cX1_hasCell 5 = .ok (.ifCond .eq 15, 3) := by decide +kernel
theorem dX1_hasCell_8 : decode cX1_hasCell 8 = .ok (.aload_n 0, 1) := by decide +kernel
theorem dX1_hasCell_9 : decode cX1_hasCell 9 = .ok (.iload_n 2, 1) := by decide +kernel
theorem dX1_hasCell_10 : decode cX1_hasCell 10 = .ok (.invokevirtual 29, 3) := by decide +kernel
theorem dX1_hasCell_13 : decode cX1_hasCell 13 = .ok (.ifCond .eq 7, 3) := by decide +kernel
theorem dX1_hasCell_16 : decode cX1_hasCell 16 = .ok (.iconst 1, 1) := by decide +kernel
theorem dX1_hasCell_17 : decode cX1_hasCell 17 = .ok (.goto 4, 3) := by decide +kernel
theorem dX1_hasCell_20 : decode cX1_hasCell 20 = .ok (.iconst 0, 1) := by decide +kernel
theorem dX1_hasCell_21 : decode cX1_hasCell 21 = .ok (.ireturn, 1) := by decide +kernel
set_option maxRecDepth 20000 in
theorem ggX1_columnCount_J6_bitCount_0f7a4 : GoodIn wsX1_columnCount wsJ6_bitCount_0f7a4 := goodIn_r _ [5, 6, 7, 8] (by decide +kernel) (by decide +kernel)
set_option maxRecDepth 20000 in
theorem gX1_columnCount_J6_bitCount_0f7a4 : GoodIn wsX1_columnCount (va_wsS RX1 32 yJ6_bitCount_0f7a4 wsJ6_bitCount_0f7a4) := goodIn_app (goodIn_of _ (by decide +kernel)) ggX1_columnCount_J6_bitCount_0f7a4
theorem dX1_columnCount_0 : decode cX1_columnCount 0 = .ok (.aload_n 0, 1) := by decide +kernel
theorem dX1_columnCount_1 : decode cX1_columnCount 1 = .ok (.getfield 9, 3) := by decide +kernel
theorem dX1_columnCount_4 : decode cX1_columnCount 4 = .ok (.invokestatic 32, 3) := by decide +kernel
theorem dX1_columnCount_7 : decode cX1_columnCount 7 = .ok (.ireturn, 1) := by decide +kernel
set_option maxRecDepth 20000 in
theorem ggX1_rowCount_J6_bitCount_0f7a4 : GoodIn wsX1_rowCount wsJ6_bitCount_0f7a4 := goodIn_r _ [5, 6, 7, 8] (by decide +kernel) (by decide +kernel)
set_option maxRecDepth 20000 in
theorem gX1_rowCount_J6_bitCount_0f7a4 : GoodIn wsX1_rowCount (va_wsS RX1 32 yJ6_bitCount_0f7a4 wsJ6_bitCount_0f7a4) := goodIn_app (goodIn_of _ (by decide +kernel)) ggX1_rowCount_J6_bitCount_0f7a4
theorem dX1_rowCount_0 : decode cX1_rowCount 0 = .ok (.aload_n 0, 1) := by decide +kernel
theorem dX1_rowCount_1 : decode cX1_rowCount 1 = .ok (.getfield 15, 3) := by decide +kernel
theorem dX1_rowCount_4 : decode cX1_rowCount 4 = .ok (.invokestatic 32, 3) := by decide +kernel
theorem dX1_rowCount_7 : decode cX1_rowCount 7 = .ok (.ireturn, 1) := by decide +kernel
set_option maxRecDepth 20000 in
theorem ggX1_cellCount_X1_columnCount : GoodIn wsX1_cellCount wsX1_columnCount := goodIn_r _ [5, 6, 7, 8, 9, 10, 11, 12, 13, 19, 20, 21, 22] (by decide +kernel) (by decide +kernel)
set_option maxRecDepth 20000 in
theorem gX1_cellCount_X1_columnCount : GoodIn wsX1_cellCount (wsV RX1 38 RX1 yX1_columnCount wsX1_columnCount) := goodIn_app (goodIn_of _ (by decide +kernel)) ggX1_cellCount_X1_columnCount
set_option maxRecDepth 20000 in
theorem ggX1_cellCount_X1_rowCount : GoodIn wsX1_cellCount wsX1_rowCount := goodIn_r _ [17, 18, 7, 8, 9, 10, 11, 12, 13, 19, 20, 21, 22] (by decide +kernel) (by decide +kernel)
set_option maxRecDepth 20000 in
theorem gX1_cellCount_X1_rowCount : GoodIn wsX1_cellCount (wsV RX1 42 RX1 yX1_rowCount wsX1_rowCount) := goodIn_app (goodIn_of _ (by decide +kernel)) ggX1_cellCount_X1_rowCount
theorem dX1_cellCount_0 : decode cX1_cellCount 0 = .ok (.aload_n 0, 1) := by decide +kernel
theorem dX1_cellCount_1 : decode cX1_cellCount 1 = .ok (.invokevirtual 38, 3) := by decide +kernel
theorem dX1_cellCount_4 : decode cX1_cellCount 4 = .ok (.aload_n 0, 1) := by decide +kernel
theorem dX1_cellCount_5 : decode cX1_cellCount 5 = .ok (.invokevirtual 42, 3) := by decide +kernel
theorem dX1_cellCount_8 : decode cX1_cellCount 8 = .ok (.imul, 1) := by decide +kernel
theorem dX1_cellCount_9 : decode cX1_cellCount 9 = .ok (.ireturn, 1) := by decide +kernel
set_option maxRecDepth 20000 in
theorem ggX1_nameAt_X1_hasColumn : GoodIn wsX1_nameAt wsX1_hasColumn := goodIn_r _ [6, 7, 8, 9, 10, 11] (by decide +kernel) (by decide +kernel)
set_option maxRecDepth 20000 in
theorem gX1_nameAt_X1_hasColumn : GoodIn wsX1_nameAt (wsV RX1 29 RX1 yX1_hasColumn wsX1_hasColumn) := goodIn_app (goodIn_of _ (by decide +kernel)) ggX1_nameAt_X1_hasColumn
theorem dX1_nameAt_0 : decode cX1_nameAt 0 = .ok (.aload_n 0, 1) := by decide +kernel
theorem dX1_nameAt_1 : decode cX1_nameAt 1 = .ok (.iload_n 1, 1) := by decide +kernel
theorem dX1_nameAt_2 : decode cX1_nameAt 2 = .ok (.invokevirtual 29, 3) := by decide +kernel
theorem dX1_nameAt_5 : decode cX1_nameAt 5 = .ok (.ifCond .eq 12, 3) := by decide +kernel
theorem dX1_nameAt_8 : decode cX1_nameAt 8 = .ok (.aload_n 0, 1) := by decide +kernel
theorem dX1_nameAt_9 : decode cX1_nameAt 9 = .ok (.getfield 18, 3) := by decide +kernel
theorem dX1_nameAt_12 : decode cX1_nameAt 12 = .ok (.iload_n 1, 1) := by decide +kernel
theorem dX1_nameAt_13 : decode cX1_nameAt 13 = .ok (.iaload, 1) := by decide +kernel
theorem dX1_nameAt_14 : decode cX1_nameAt 14 = .ok (.goto 4, 3) := by decide +kernel
theorem dX1_nameAt_17 : decode cX1_nameAt 17 = .ok (.iconst 0, 1) := by decide +kernel
theorem dX1_nameAt_18 : decode cX1_nameAt 18 = .ok (.ireturn, 1) := by decide +kernel
set_option maxRecDepth 20000 in
theorem ggX1_cellAt_X1_hasCell : GoodIn wsX1_cellAt wsX1_hasCell := goodIn_r _ [6, 7, 8, 9, 5, 10, 11, 12, 13, 14, 15, 16, 17, 18, 19, 20] (by decide +kernel) (by decide +kernel)
set_option maxRecDepth 20000 in
theorem gX1_cellAt_X1_hasCell : GoodIn wsX1_cellAt (wsV RX1 45 RX1 yX1_hasCell wsX1_hasCell) := goodIn_app (goodIn_of _ (by decide +kernel)) ggX1_cellAt_X1_hasCell
theorem dX1_cellAt_0 : decode cX1_cellAt 0 = .ok (.aload_n 0, 1) := by decide +kernel
theorem dX1_cellAt_1 : decode cX1_cellAt 1 = .ok (.iload_n 1, 1) := by decide +kernel
theorem dX1_cellAt_2 : decode cX1_cellAt 2 = .ok (.iload_n 2, 1) := by decide +kernel
theorem dX1_cellAt_3 : decode cX1_cellAt 3 = .ok (.invokevirtual 45, 3) := by decide +kernel
theorem dX1_cellAt_6 : decode cX1_cellAt 6 = .ok (.ifCond .eq 17, 3) := by decide +kernel
theorem dX1_cellAt_9 : decode cX1_cellAt 9 = .ok (.aload_n 0, 1) := by decide +kernel
theorem dX1_cellAt_10 : decode cX1_cellAt 10 = .ok (.getfield 22, 3) := by decide +kernel
theorem dX1_cellAt_13 : decode cX1_cellAt 13 = .ok (.iload_n 1, 1) := by decide +kernel
theorem dX1_cellAt_14 : decode cX1_cellAt 14 = .ok (.bipush 8, 2) := by decide +kernel
theorem dX1_cellAt_16 : decode cX1_cellAt 16 = .ok (.imul, 1) := by decide +kernel
theorem dX1_cellAt_17 : decode cX1_cellAt 17 = .ok (.iload_n 2, 1) := by decide +kernel
theorem dX1_cellAt_18 : decode cX1_cellAt 18 = .ok (.iadd, 1) := by decide +kernel
theorem dX1_cellAt_19 : decode cX1_cellAt 19 = .ok (.iaload, 1) := by decide +kernel
theorem dX1_cellAt_20 : decode cX1_cellAt 20 = .ok (.goto 4, 3) := by decide +kernel
theorem dX1_cellAt_23 : decode cX1_cellAt 23 = .ok (.iconst 0, 1) := by decide +kernel
theorem dX1_cellAt_24 : decode cX1_cellAt 24 = .ok (.ireturn, 1) := by decide +kernel
set_option maxRecDepth 20000 in
theorem ggX1_putColumn_X2_isColumnNumber : GoodIn wsX1_putColumn wsX2_isColumnNumber := goodIn_r _ [5] (by decide +kernel) (by decide +kernel)
set_option maxRecDepth 20000 in
theorem gX1_putColumn_X2_isColumnNumber_n49 : GoodIn wsX1_putColumn (wsX2_isColumnNumber) := ggX1_putColumn_X2_isColumnNumber
theorem dX1_putColumn_0 : decode cX1_putColumn 0 = .ok (.iload_n 1, 1) := by decide +kernel
theorem dX1_putColumn_1 : decode cX1_putColumn 1 = .ok (.invokestatic 49, 3) := by decide +kernel
theorem dX1_putColumn_4 : decode cX1_putColumn 4 = .ok (.ifCond .eq 22, 3) := by decide +kernel
theorem dX1_putColumn_7 : decode cX1_putColumn 7 = .ok (.aload_n 0, 1) := by decide +kernel
theorem dX1_putColumn_8 : decode cX1_putColumn 8 = .ok (.dup, 1) := by decide +kernel
theorem dX1_putColumn_9 : decode cX1_putColumn 9 = .ok (.getfield 9, 3) := by decide +kernel
theorem dX1_putColumn_12 : decode cX1_putColumn 12 = .ok (.iconst 1, 1) := by decide +kernel
theorem dX1_putColumn_13 : decode cX1_putColumn 13 = .ok (.iload_n 1, 1) := by decide +kernel
theorem dX1_putColumn_14 : decode cX1_putColumn 14 = .ok (.ishl, 1) := by decide +kernel
theorem dX1_putColumn_15 : decode cX1_putColumn 15 = .ok (.ior, 1) := by decide +kernel
theorem dX1_putColumn_16 : decode cX1_putColumn 16 = .ok (.putfield 9, 3) := by decide +kernel
theorem dX1_putColumn_19 : decode cX1_putColumn 19 = .ok (.aload_n 0, 1) := by decide +kernel
theorem dX1_putColumn_20 : decode cX1_putColumn 20 = .ok (.getfield 18, 3) := by decide +kernel
theorem dX1_putColumn_23 : decode cX1_putColumn 23 = .ok (.iload_n 1, 1) := by decide +kernel
theorem dX1_putColumn_24 : decode cX1_putColumn 24 = .ok (.iload_n 2, 1) := by decide +kernel
theorem dX1_putColumn_25 : decode cX1_putColumn 25 = .ok (.iastore, 1) := by decide +kernel
theorem dX1_putColumn_26 : decode cX1_putColumn 26 = .ok (.return_, 1) := by decide +kernel
set_option maxRecDepth 20000 in
theorem ggX1_putName_X1_hasColumn : GoodIn wsX1_putName wsX1_hasColumn := goodIn_r _ [6, 7, 8, 9, 10, 11] (by decide +kernel) (by decide +kernel)
set_option maxRecDepth 20000 in
theorem gX1_putName_X1_hasColumn : GoodIn wsX1_putName (wsV RX1 29 RX1 yX1_hasColumn wsX1_hasColumn) := goodIn_app (goodIn_of _ (by decide +kernel)) ggX1_putName_X1_hasColumn
theorem dX1_putName_0 : decode cX1_putName 0 = .ok (.aload_n 0, 1) := by decide +kernel
theorem dX1_putName_1 : decode cX1_putName 1 = .ok (.iload_n 1, 1) := by decide +kernel
theorem dX1_putName_2 : decode cX1_putName 2 = .ok (.invokevirtual 29, 3) := by decide +kernel
theorem dX1_putName_5 : decode cX1_putName 5 = .ok (.ifCond .eq 10, 3) := by decide +kernel
theorem dX1_putName_8 : decode cX1_putName 8 = .ok (.aload_n 0, 1) := by decide +kernel
theorem dX1_putName_9 : decode cX1_putName 9 = .ok (.getfield 18, 3) := by decide +kernel
theorem dX1_putName_12 : decode cX1_putName 12 = .ok (.iload_n 1, 1) := by decide +kernel
theorem dX1_putName_13 : decode cX1_putName 13 = .ok (.iload_n 2, 1) := by decide +kernel
theorem dX1_putName_14 : decode cX1_putName 14 = .ok (.iastore, 1) := by decide +kernel
theorem dX1_putName_15 : decode cX1_putName 15 = .ok (.return_, 1) := by decide +kernel
set_option maxRecDepth 20000 in
theorem ggX1_cutColumn_X1_hasColumn : GoodIn wsX1_cutColumn wsX1_hasColumn := goodIn_r _ [7, 2, 22, 23, 24, 25] (by decide +kernel) (by decide +kernel)
set_option maxRecDepth 20000 in
theorem gX1_cutColumn_X1_hasColumn : GoodIn wsX1_cutColumn (wsV RX1 29 RX1 yX1_hasColumn wsX1_hasColumn) := goodIn_app (goodIn_of _ (by decide +kernel)) ggX1_cutColumn_X1_hasColumn
set_option maxRecDepth 20000 in
theorem ggX1_cutColumn_X1_putCell : GoodIn wsX1_cutColumn wsX1_putCell := goodIn_r _ [11, 12, 13, 14, 15, 6, 16, 17, 18, 19, 20, 21, 3, 4, 5, 7, 2, 22, 23, 24, 25] (by decide +kernel) (by decide +kernel)
set_option maxRecDepth 20000 in
theorem gX1_cutColumn_X1_putCell : GoodIn wsX1_cutColumn (wsV RX1 52 RX1 yX1_putCell wsX1_putCell) := goodIn_app (goodIn_of _ (by decide +kernel)) ggX1_cutColumn_X1_putCell
theorem dX1_cutColumn_0 : decode cX1_cutColumn 0 = .ok (.aload_n 0, 1) := by decide +kernel
theorem dX1_cutColumn_1 : decode cX1_cutColumn 1 = .ok (.iload_n 1, 1) := by decide +kernel
theorem dX1_cutColumn_2 : decode cX1_cutColumn 2 = .ok (.invokevirtual 29, 3) := by decide +kernel
theorem dX1_cutColumn_5 : decode cX1_cutColumn 5 = .ok (.ifCond .ne 4, 3) := by decide +kernel
theorem dX1_cutColumn_8 : decode cX1_cutColumn 8 = .ok (.return_, 1) := by decide +kernel
theorem dX1_cutColumn_9 : decode cX1_cutColumn 9 = .ok (.iconst 0, 1) := by decide +kernel
theorem dX1_cutColumn_10 : decode cX1_cutColumn 10 = .ok (.istore_n 2, 1) := by decide +kernel
theorem dX1_cutColumn_11 : decode cX1_cutColumn 11 = .ok (.iload_n 2, 1) := by decide +kernel
theorem dX1_cutColumn_12 : decode cX1_cutColumn 12 = .ok (.bipush 24, 2) := by decide +kernel
theorem dX1_cutColumn_14 : decode cX1_cutColumn 14 = .ok (.if_icmp .ge 16, 3) := by decide +kernel
theorem dX1_cutColumn_17 : decode cX1_cutColumn 17 = .ok (.aload_n 0, 1) := by decide +kernel
theorem dX1_cutColumn_18 : decode cX1_cutColumn 18 = .ok (.iload_n 2, 1) := by decide +kernel
theorem dX1_cutColumn_19 : decode cX1_cutColumn 19 = .ok (.iload_n 1, 1) := by decide +kernel
theorem dX1_cutColumn_20 : decode cX1_cutColumn 20 = .ok (.iconst 0, 1) := by decide +kernel
theorem dX1_cutColumn_21 : decode cX1_cutColumn 21 = .ok (.invokevirtual 52, 3) := by decide +kernel
theorem dX1_cutColumn_24 : decode cX1_cutColumn 24 = .ok (.iinc 2 1, 3) := by decide +kernel
theorem dX1_cutColumn_27 : decode cX1_cutColumn 27 = .ok (.goto (-16), 3) := by decide +kernel
theorem dX1_cutColumn_30 : decode cX1_cutColumn 30 = .ok (.aload_n 0, 1) := by decide +kernel
theorem dX1_cutColumn_31 : decode cX1_cutColumn 31 = .ok (.getfield 18, 3) := by decide +kernel
theorem dX1_cutColumn_34 : decode cX1_cutColumn 34 = .ok (.iload_n 1, 1) := by decide +kernel
theorem dX1_cutColumn_35 : decode cX1_cutColumn 35 = .ok (.iconst 0, 1) := by decide +kernel
theorem dX1_cutColumn_36 : decode cX1_cutColumn 36 = .ok (.iastore, 1) := by decide +kernel
theorem dX1_cutColumn_37 : decode cX1_cutColumn 37 = .ok (.aload_n 0, 1) := by decide +kernel
theorem dX1_cutColumn_38 : decode cX1_cutColumn 38 = .ok (.dup, 1) := by decide +kernel
theorem dX1_cutColumn_39 : decode cX1_cutColumn 39 = .ok (.getfield 9, 3) := by decide +kernel
theorem dX1_cutColumn_42 : decode cX1_cutColumn 42 = .ok (.iconst 1, 1) := by decide +kernel
theorem dX1_cutColumn_43 : decode cX1_cutColumn 43 = .ok (.iload_n 1, 1) := by decide +kernel
theorem dX1_cutColumn_44 : decode cX1_cutColumn 44 = .ok (.ishl, 1) := by decide +kernel
theorem dX1_cutColumn_45 : decode cX1_cutColumn 45 = .ok (.iconst (-1), 1) := by decide +kernel
theorem dX1_cutColumn_46 : decode cX1_cutColumn 46 = .ok (.ixor, 1) := by decide +kernel
theorem dX1_cutColumn_47 : decode cX1_cutColumn 47 = .ok (.iand, 1) := by decide +kernel
theorem dX1_cutColumn_48 : decode cX1_cutColumn 48 = .ok (.putfield 9, 3) := by decide +kernel
theorem dX1_cutColumn_51 : decode cX1_cutColumn 51 = .ok (.return_, 1) := by decide +kernel
set_option maxRecDepth 20000 in
theorem ggX1_putRow_X2_isKey : GoodIn wsX1_putRow wsX2_isKey := goodIn_r _ [4] (by decide +kernel) (by decide +kernel)
set_option maxRecDepth 20000 in
theorem gX1_putRow_X2_isKey_n56 : GoodIn wsX1_putRow (wsX2_isKey) := ggX1_putRow_X2_isKey
theorem dX1_putRow_0 : decode cX1_putRow 0 = .ok (.iload_n 1, 1) := by decide +kernel
theorem dX1_putRow_1 : decode cX1_putRow 1 = .ok (.invokestatic 56, 3) := by decide +kernel
theorem dX1_putRow_4 : decode cX1_putRow 4 = .ok (.ifCond .eq 15, 3) := by decide +kernel
theorem dX1_putRow_7 : decode cX1_putRow 7 = .ok (.aload_n 0, 1) := by decide +kernel
theorem dX1_putRow_8 : decode cX1_putRow 8 = .ok (.dup, 1) := by decide +kernel
theorem dX1_putRow_9 : decode cX1_putRow 9 = .ok (.getfield 15, 3) := by decide +kernel
theorem dX1_putRow_12 : decode cX1_putRow 12 = .ok (.iconst 1, 1) := by decide +kernel
theorem dX1_putRow_13 : decode cX1_putRow 13 = .ok (.iload_n 1, 1) := by decide +kernel
theorem dX1_putRow_14 : decode cX1_putRow 14 = .ok (.ishl, 1) := by decide +kernel
theorem dX1_putRow_15 : decode cX1_putRow 15 = .ok (.ior, 1) := by decide +kernel
theorem dX1_putRow_16 : decode cX1_putRow 16 = .ok (.putfield 15, 3) := by decide +kernel
theorem dX1_putRow_19 : decode cX1_putRow 19 = .ok (.return_, 1) := by decide +kernel
set_option maxRecDepth 20000 in
theorem ggX1_cutRow_X1_hasRow : GoodIn wsX1_cutRow wsX1_hasRow := goodIn_r _ [6, 1, 21, 22, 23, 24] (by decide +kernel) (by decide +kernel)
set_option maxRecDepth 20000 in
theorem gX1_cutRow_X1_hasRow : GoodIn wsX1_cutRow (wsV RX1 25 RX1 yX1_hasRow wsX1_hasRow) := goodIn_app (goodIn_of _ (by decide +kernel)) ggX1_cutRow_X1_hasRow
set_option maxRecDepth 20000 in
theorem ggX1_cutRow_X1_putCell : GoodIn wsX1_cutRow wsX1_putCell := goodIn_r _ [10, 11, 12, 13, 14, 5, 15, 2, 3, 4, 6, 1, 16, 17, 18, 19, 20, 21, 22, 23, 24] (by decide +kernel) (by decide +kernel)
set_option maxRecDepth 20000 in
theorem gX1_cutRow_X1_putCell : GoodIn wsX1_cutRow (wsV RX1 52 RX1 yX1_putCell wsX1_putCell) := goodIn_app (goodIn_of _ (by decide +kernel)) ggX1_cutRow_X1_putCell
theorem dX1_cutRow_0 : decode cX1_cutRow 0 = .ok (.aload_n 0, 1) := by decide +kernel
theorem dX1_cutRow_1 : decode cX1_cutRow 1 = .ok (.iload_n 1, 1) := by decide +kernel
theorem dX1_cutRow_2 : decode cX1_cutRow 2 = .ok (.invokevirtual 25, 3) := by decide +kernel
theorem dX1_cutRow_5 : decode cX1_cutRow 5 = .ok (.ifCond .ne 4, 3) := by decide +kernel
theorem dX1_cutRow_8 : decode cX1_cutRow 8 = .ok (.return_, 1) := by decide +kernel
theorem dX1_cutRow_9 : decode cX1_cutRow 9 = .ok (.iconst 0, 1) := by decide +kernel
theorem dX1_cutRow_10 : decode cX1_cutRow 10 = .ok (.istore_n 2, 1) := by decide +kernel
theorem dX1_cutRow_11 : decode cX1_cutRow 11 = .ok (.iload_n 2, 1) := by decide +kernel
theorem dX1_cutRow_12 : decode cX1_cutRow 12 = .ok (.bipush 8, 2) := by decide +kernel
theorem dX1_cutRow_14 : decode cX1_cutRow 14 = .ok (.if_icmp .ge 16, 3) := by decide +kernel
theorem dX1_cutRow_17 : decode cX1_cutRow 17 = .ok (.aload_n 0, 1) := by decide +kernel
theorem dX1_cutRow_18 : decode cX1_cutRow 18 = .ok (.iload_n 1, 1) := by decide +kernel
theorem dX1_cutRow_19 : decode cX1_cutRow 19 = .ok (.iload_n 2, 1) := by decide +kernel
theorem dX1_cutRow_20 : decode cX1_cutRow 20 = .ok (.iconst 0, 1) := by decide +kernel
theorem dX1_cutRow_21 : decode cX1_cutRow 21 = .ok (.invokevirtual 52, 3) := by decide +kernel
theorem dX1_cutRow_24 : decode cX1_cutRow 24 = .ok (.iinc 2 1, 3) := by decide +kernel
theorem dX1_cutRow_27 : decode cX1_cutRow 27 = .ok (.goto (-16), 3) := by decide +kernel
theorem dX1_cutRow_30 : decode cX1_cutRow 30 = .ok (.aload_n 0, 1) := by decide +kernel
theorem dX1_cutRow_31 : decode cX1_cutRow 31 = .ok (.dup, 1) := by decide +kernel
theorem dX1_cutRow_32 : decode cX1_cutRow 32 = .ok (.getfield 15, 3) := by decide +kernel
theorem dX1_cutRow_35 : decode cX1_cutRow 35 = .ok (.iconst 1, 1) := by decide +kernel
theorem dX1_cutRow_36 : decode cX1_cutRow 36 = .ok (.iload_n 1, 1) := by decide +kernel
theorem dX1_cutRow_37 : decode cX1_cutRow 37 = .ok (.ishl, 1) := by decide +kernel
theorem dX1_cutRow_38 : decode cX1_cutRow 38 = .ok (.iconst (-1), 1) := by decide +kernel
theorem dX1_cutRow_39 : decode cX1_cutRow 39 = .ok (.ixor, 1) := by decide +kernel
theorem dX1_cutRow_40 : decode cX1_cutRow 40 = .ok (.iand, 1) := by decide +kernel
theorem dX1_cutRow_41 : decode cX1_cutRow 41 = .ok (.putfield 15, 3) := by decide +kernel
theorem dX1_cutRow_44 : decode cX1_cutRow 44 = .ok (.return_, 1) := by decide +kernel
set_option maxRecDepth 20000 in
theorem ggX1_putCell_X1_hasCell : GoodIn wsX1_putCell wsX1_hasCell := goodIn_r _ [6, 7, 8, 9, 5, 10, 11, 12, 13, 14, 15, 16, 17, 18, 19, 20] (by decide +kernel) (by decide +kernel)
set_option maxRecDepth 20000 in
theorem gX1_putCell_X1_hasCell : GoodIn wsX1_putCell (wsV RX1 45 RX1 yX1_hasCell wsX1_hasCell) := goodIn_app (goodIn_of _ (by decide +kernel)) ggX1_putCell_X1_hasCell
theorem dX1_putCell_0 : decode cX1_putCell 0 = .ok (.aload_n 0, 1) := by decide +kernel
theorem dX1_putCell_1 : decode cX1_putCell 1 = .ok (.iload_n 1, 1) := by decide +kernel
theorem dX1_putCell_2 : decode cX1_putCell 2 = .ok (.iload_n 2, 1) := by decide +kernel
theorem dX1_putCell_3 : decode cX1_putCell 3 = .ok (.invokevirtual 45, 3) := by decide +kernel
theorem dX1_putCell_6 : decode cX1_putCell 6 = .ok (.ifCond .eq 15, 3) := by decide +kernel
theorem dX1_putCell_9 : decode cX1_putCell 9 = .ok (.aload_n 0, 1) := by decide +kernel
theorem dX1_putCell_10 : decode cX1_putCell 10 = .ok (.getfield 22, 3) := by decide +kernel
theorem dX1_putCell_13 : decode cX1_putCell 13 = .ok (.iload_n 1, 1) := by decide +kernel
theorem dX1_putCell_14 : decode cX1_putCell 14 = .ok (.bipush 8, 2) := by decide +kernel
theorem dX1_putCell_16 : decode cX1_putCell 16 = .ok (.imul, 1) := by decide +kernel
theorem dX1_putCell_17 : decode cX1_putCell 17 = .ok (.iload_n 2, 1) := by decide +kernel
theorem dX1_putCell_18 : decode cX1_putCell 18 = .ok (.iadd, 1) := by decide +kernel
theorem dX1_putCell_19 : decode cX1_putCell 19 = .ok (.iload_n 3, 1) := by decide +kernel
theorem dX1_putCell_20 : decode cX1_putCell 20 = .ok (.iastore, 1) := by decide +kernel
theorem dX1_putCell_21 : decode cX1_putCell 21 = .ok (.return_, 1) := by decide +kernel
set_option maxRecDepth 20000 in
theorem ggX1_becomeEmpty_J7_fill_53178 : GoodIn wsX1_becomeEmpty wsJ7_fill_53178 := goodIn_r _ [8] (by decide +kernel) (by decide +kernel)
set_option maxRecDepth 20000 in
theorem gX1_becomeEmpty_J7_fill_53178 : GoodIn wsX1_becomeEmpty (va_wsS RX1 59 yJ7_fill_53178 wsJ7_fill_53178) := goodIn_app (goodIn_of _ (by decide +kernel)) ggX1_becomeEmpty_J7_fill_53178
theorem dX1_becomeEmpty_0 : decode cX1_becomeEmpty 0 = .ok (.aload_n 0, 1) := by decide +kernel
theorem dX1_becomeEmpty_1 : decode cX1_becomeEmpty 1 = .ok (.iconst 0, 1) := by decide +kernel
theorem dX1_becomeEmpty_2 : decode cX1_becomeEmpty 2 = .ok (.putfield 9, 3) := by decide +kernel
theorem dX1_becomeEmpty_5 : decode cX1_becomeEmpty 5 = .ok (.aload_n 0, 1) := by decide +kernel
theorem dX1_becomeEmpty_6 : decode cX1_becomeEmpty 6 = .ok (.iconst 0, 1) := by decide +kernel
theorem dX1_becomeEmpty_7 : decode cX1_becomeEmpty 7 = .ok (.putfield 15, 3) := by decide +kernel
theorem dX1_becomeEmpty_10 : decode cX1_becomeEmpty 10 = .ok (.aload_n 0, 1) := by decide +kernel
theorem dX1_becomeEmpty_11 : decode cX1_becomeEmpty 11 = .ok (.getfield 18, 3) := by decide +kernel
theorem dX1_becomeEmpty_14 : decode cX1_becomeEmpty 14 = .ok (.iconst 0, 1) := by decide +kernel
theorem dX1_becomeEmpty_15 : decode cX1_becomeEmpty 15 = .ok (.invokestatic 59, 3) := by decide +kernel
theorem dX1_becomeEmpty_18 : decode cX1_becomeEmpty 18 = .ok (.aload_n 0, 1) := by decide +kernel
theorem dX1_becomeEmpty_19 : decode cX1_becomeEmpty 19 = .ok (.getfield 22, 3) := by decide +kernel
theorem dX1_becomeEmpty_22 : decode cX1_becomeEmpty 22 = .ok (.iconst 0, 1) := by decide +kernel
theorem dX1_becomeEmpty_23 : decode cX1_becomeEmpty 23 = .ok (.invokestatic 59, 3) := by decide +kernel
theorem dX1_becomeEmpty_26 : decode cX1_becomeEmpty 26 = .ok (.return_, 1) := by decide +kernel
theorem dX1_becomeLike_0 : decode cX1_becomeLike 0 = .ok (.aload_n 0, 1) := by decide +kernel
theorem dX1_becomeLike_1 : decode cX1_becomeLike 1 = .ok (.aload_n 1, 1) := by decide +kernel
theorem dX1_becomeLike_2 : decode cX1_becomeLike 2 = .ok (.getfield 9, 3) := by decide +kernel
theorem dX1_becomeLike_5 : decode cX1_becomeLike 5 = .ok (.putfield 9, 3) := by decide +kernel
theorem dX1_becomeLike_8 : decode cX1_becomeLike 8 = .ok (.aload_n 0, 1) := by decide +kernel
theorem dX1_becomeLike_9 : decode cX1_becomeLike 9 = .ok (.aload_n 1, 1) := by decide +kernel
theorem dX1_becomeLike_10 : decode cX1_becomeLike 10 = .ok (.getfield 15, 3) := by decide +kernel
theorem dX1_becomeLike_13 : decode cX1_becomeLike 13 = .ok (.putfield 15, 3) := by decide +kernel
theorem dX1_becomeLike_16 : decode cX1_becomeLike 16 = .ok (.aload_n 1, 1) := by decide +kernel
theorem dX1_becomeLike_17 : decode cX1_becomeLike 17 = .ok (.getfield 18, 3) := by decide +kernel
theorem dX1_becomeLike_20 : decode cX1_becomeLike 20 = .ok (.iconst 0, 1) := by decide +kernel
theorem dX1_becomeLike_21 : decode cX1_becomeLike 21 = .ok (.aload_n 0, 1) := by decide +kernel
theorem dX1_becomeLike_22 : decode cX1_becomeLike 22 = .ok (.getfield 18, 3) := by decide +kernel
theorem dX1_becomeLike_25 : decode cX1_becomeLike 25 = .ok (.iconst 0, 1) := by decide +kernel
theorem dX1_becomeLike_26 : decode cX1_becomeLike 26 = .ok (.bipush 8, 2) := by decide +kernel
theorem dX1_becomeLike_28 : decode cX1_becomeLike 28 = .ok (.invokestatic 65, 3) := by decide +kernel
theorem dX1_becomeLike_31 : decode cX1_becomeLike 31 = .ok (.aload_n 1, 1) := by decide +kernel
theorem dX1_becomeLike_32 : decode cX1_becomeLike 32 = .ok (.getfield 22, 3) := by decide +kernel
theorem dX1_becomeLike_35 : decode cX1_becomeLike 35 = .ok (.iconst 0, 1) := by decide +kernel
theorem dX1_becomeLike_36 : decode cX1_becomeLike 36 = .ok (.aload_n 0, 1) := by decide +kernel
theorem dX1_becomeLike_37 : decode cX1_becomeLike 37 = .ok (.getfield 22, 3) := by decide +kernel
theorem dX1_becomeLike_40 : decode cX1_becomeLike 40 = .ok (.iconst 0, 1) := by decide +kernel
theorem dX1_becomeLike_41 : decode cX1_becomeLike 41 = .ok (.sipush 192, 3) := by decide +kernel
theorem dX1_becomeLike_44 : decode cX1_becomeLike 44 = .ok (.invokestatic 65, 3) := by decide +kernel
theorem dX1_becomeLike_47 : decode cX1_becomeLike 47 = .ok (.return_, 1) := by decide +kernel
set_option maxRecDepth 20000 in
theorem ggX1_changedCellOf_X1_hasCell : GoodIn wsX1_changedCellOf wsX1_hasCell := goodIn_r _ [6, 7, 8, 9, 5, 10, 11, 12, 13, 14, 15, 16, 17, 18, 19, 20] (by decide +kernel) (by decide +kernel)
set_option maxRecDepth 20000 in
theorem gX1_changedCellOf_X1_hasCell : GoodIn wsX1_changedCellOf (wsV RX1 45 RX1 yX1_hasCell wsX1_hasCell) := goodIn_app (goodIn_of _ (by decide +kernel)) ggX1_changedCellOf_X1_hasCell
theorem dX1_changedCellOf_0 : decode cX1_changedCellOf 0 = .ok (.iload_n 2, 1) := by decide +kernel
theorem dX1_changedCellOf_1 : decode cX1_changedCellOf 1 = .ok (.bipush 8, 2) := by decide +kernel
theorem dX1_changedCellOf_3 : decode cX1_changedCellOf 3 = .ok (.imul, 1) := by decide +kernel
theorem dX1_changedCellOf_4 : decode cX1_changedCellOf 4 = .ok (.iload_n 3, 1) := by decide +kernel
theorem dX1_changedCellOf_5 : decode cX1_changedCellOf 5 = .ok (.iadd, 1) := by decide +kernel
theorem dX1_changedCellOf_6 : decode cX1_changedCellOf 6 = .ok (.istore 4, 2) := by decide +kernel
theorem dX1_changedCellOf_8 : decode cX1_changedCellOf 8 = .ok (.aload_n 0, 1) := by decide +kernel
theorem dX1_changedCellOf_9 : decode cX1_changedCellOf 9 = .ok (.iload_n 2, 1) := by decide +kernel
theorem dX1_changedCellOf_10 : decode cX1_changedCellOf 10 = .ok (.iload_n 3, 1) := by decide +kernel
theorem dX1_changedCellOf_11 : decode cX1_changedCellOf 11 = .ok (.invokevirtual 45, 3) := by decide +kernel
theorem dX1_changedCellOf_14 : decode cX1_changedCellOf 14 = .ok (.ifCond .eq 33, 3) := by decide +kernel
theorem dX1_changedCellOf_17 : decode cX1_changedCellOf 17 = .ok (.aload_n 1, 1) := by decide +kernel
theorem dX1_changedCellOf_18 : decode cX1_changedCellOf 18 = .ok (.iload_n 2, 1) := by decide +kernel
theorem dX1_changedCellOf_19 : decode cX1_changedCellOf 19 = .ok (.iload_n 3, 1) := by decide +kernel
theorem dX1_changedCellOf_20 : decode cX1_changedCellOf 20 = .ok (.invokevirtual 45, 3) := by decide +kernel
theorem dX1_changedCellOf_23 : decode cX1_changedCellOf 23 = .ok (.ifCond .eq 24, 3) := by decide +kernel
theorem dX1_changedCellOf_26 : decode cX1_changedCellOf 26 = .ok (.aload_n 0, 1) := by decide +kernel
theorem dX1_changedCellOf_27 : decode cX1_changedCellOf 27 = .ok (.getfield 22, 3) := by decide +kernel
theorem dX1_changedCellOf_30 : decode cX1_changedCellOf 30 = .ok (.iload 4, 2) := by decide +kernel
theorem dX1_changedCellOf_32 : decode cX1_changedCellOf 32 = .ok (.iaload, 1) := by decide +kernel
theorem dX1_changedCellOf_33 : decode cX1_changedCellOf 33 = .ok (.aload_n 1, 1) := by decide +kernel
theorem dX1_changedCellOf_34 : decode cX1_changedCellOf 34 = .ok (.getfield 22, 3) := by decide +kernel
theorem dX1_changedCellOf_37 : decode cX1_changedCellOf 37 = .ok (.iload 4, 2) := by decide +kernel
theorem dX1_changedCellOf_39 : decode cX1_changedCellOf 39 = .ok (.iaload, 1) := by decide +kernel
theorem dX1_changedCellOf_40 : decode cX1_changedCellOf 40 = .ok (.if_icmp .eq 7, 3) := by decide +kernel
theorem dX1_changedCellOf_43 : decode cX1_changedCellOf 43 = .ok (.iconst 1, 1) := by decide +kernel
theorem dX1_changedCellOf_44 : decode cX1_changedCellOf 44 = .ok (.goto 4, 3) := by decide +kernel
theorem dX1_changedCellOf_47 : decode cX1_changedCellOf 47 = .ok (.iconst 0, 1) := by decide +kernel
theorem dX1_changedCellOf_48 : decode cX1_changedCellOf 48 = .ok (.ireturn, 1) := by decide +kernel
set_option maxRecDepth 20000 in
theorem ggX1_addedOrChangedCellOf_X1_hasCell : GoodIn wsX1_addedOrChangedCellOf wsX1_hasCell := goodIn_r _ [5, 6, 7, 8, 4, 9, 10, 11, 12, 13, 14, 15, 21, 22, 23, 24] (by decide +kernel) (by decide +kernel)
set_option maxRecDepth 20000 in
theorem gX1_addedOrChangedCellOf_X1_hasCell : GoodIn wsX1_addedOrChangedCellOf (wsV RX1 45 RX1 yX1_hasCell wsX1_hasCell) := goodIn_app (goodIn_of _ (by decide +kernel)) ggX1_addedOrChangedCellOf_X1_hasCell
set_option maxRecDepth 20000 in
theorem ggX1_addedOrChangedCellOf_X1_changedCellOf : GoodIn wsX1_addedOrChangedCellOf wsX1_changedCellOf := goodIn_r _ [19, 20, 1, 2, 3, 4, 5, 6, 7, 8, 9, 10, 11, 12, 13, 14, 15, 21, 22, 23, 24] (by decide +kernel) (by decide +kernel)
set_option maxRecDepth 20000 in
theorem gX1_addedOrChangedCellOf_X1_changedCellOf : GoodIn wsX1_addedOrChangedCellOf (wsV RX1 71 RX1 yX1_changedCellOf wsX1_changedCellOf) := goodIn_app (goodIn_of _ (by decide +kernel)) ggX1_addedOrChangedCellOf_X1_changedCellOf
theorem dX1_addedOrChangedCellOf_0 : decode cX1_addedOrChangedCellOf 0 = .ok (.aload_n 0, 1) := by decide +kernel
theorem dX1_addedOrChangedCellOf_1 : decode cX1_addedOrChangedCellOf 1 = .ok (.iload_n 2, 1) := by decide +kernel
theorem dX1_addedOrChangedCellOf_2 : decode cX1_addedOrChangedCellOf 2 = .ok (.iload_n 3, 1) := by decide +kernel
theorem dX1_addedOrChangedCellOf_3 : decode cX1_addedOrChangedCellOf 3 = .ok (.invokevirtual 45, 3) := by decide +kernel
theorem dX1_addedOrChangedCellOf_6 : decode cX1_addedOrChangedCellOf 6 = .ok (.ifCond .eq 26, 3) := by decide +kernel
theorem dX1_addedOrChangedCellOf_9 : decode cX1_addedOrChangedCellOf 9 = .ok (.aload_n 1, 1) := by decide +kernel
theorem dX1_addedOrChangedCellOf_10 : decode cX1_addedOrChangedCellOf 10 = .ok (.iload_n 2, 1) := by decide +kernel
theorem dX1_addedOrChangedCellOf_11 : decode cX1_addedOrChangedCellOf 11 = .ok (.iload_n 3, 1) := by decide +kernel
theorem dX1_addedOrChangedCellOf_12 : decode cX1_addedOrChangedCellOf 12 = .ok (.invokevirtual 45, 3) := by decide +kernel
theorem dX1_addedOrChangedCellOf_15 : decode cX1_addedOrChangedCellOf 15 = .ok (.ifCond .eq 13, 3) := by decide +kernel
theorem dX1_addedOrChangedCellOf_18 : decode cX1_addedOrChangedCellOf 18 = .ok (.aload_n 0, 1) := by decide +kernel
theorem dX1_addedOrChangedCellOf_19 : decode cX1_addedOrChangedCellOf 19 = .ok (.aload_n 1, 1) := by decide +kernel
theorem dX1_addedOrChangedCellOf_20 : decode cX1_addedOrChangedCellOf 20 = .ok (.iload_n 2, 1) := by decide +kernel
theorem dX1_addedOrChangedCellOf_21 : decode cX1_addedOrChangedCellOf 21 = .ok (.iload_n 3, 1) := by decide +kernel
theorem dX1_addedOrChangedCellOf_22 : decode cX1_addedOrChangedCellOf 22 = .ok (.invokevirtual 71, 3) := by decide +kernel
theorem dX1_addedOrChangedCellOf_25 : decode cX1_addedOrChangedCellOf 25 = .ok (.ifCond .eq 7, 3) := by decide +kernel
theorem dX1_addedOrChangedCellOf_28 : decode cX1_addedOrChangedCellOf 28 = .ok (.iconst 1, 1) := by decide +kernel
theorem dX1_addedOrChangedCellOf_29 : decode cX1_addedOrChangedCellOf 29 = .ok (.goto 4, 3) := by decide +kernel
theorem dX1_addedOrChangedCellOf_32 : decode cX1_addedOrChangedCellOf 32 = .ok (.iconst 0, 1) := by decide +kernel
theorem dX1_addedOrChangedCellOf_33 : decode cX1_addedOrChangedCellOf 33 = .ok (.ireturn, 1) := by decide +kernel
set_option maxRecDepth 20000 in
theorem ggX1_renamedColumnOf_X1_hasColumn : GoodIn wsX1_renamedColumnOf wsX1_hasColumn := goodIn_r _ [5, 6, 12, 13, 14, 15] (by decide +kernel) (by decide +kernel)
set_option maxRecDepth 20000 in
theorem gX1_renamedColumnOf_X1_hasColumn : GoodIn wsX1_renamedColumnOf (wsV RX1 29 RX1 yX1_hasColumn wsX1_hasColumn) := goodIn_app (goodIn_of _ (by decide +kernel)) ggX1_renamedColumnOf_X1_hasColumn
set_option maxRecDepth 20000 in
theorem ggX1_renamedColumnOf_X1_nameAt : GoodIn wsX1_renamedColumnOf wsX1_nameAt := goodIn_r _ [10, 11, 1, 2, 3, 4, 5, 6, 12, 13, 14, 15] (by decide +kernel) (by decide +kernel)
set_option maxRecDepth 20000 in
theorem gX1_renamedColumnOf_X1_nameAt : GoodIn wsX1_renamedColumnOf (wsV RX1 75 RX1 yX1_nameAt wsX1_nameAt) := goodIn_app (goodIn_of _ (by decide +kernel)) ggX1_renamedColumnOf_X1_nameAt
theorem dX1_renamedColumnOf_0 : decode cX1_renamedColumnOf 0 = .ok (.aload_n 0, 1) := by decide +kernel
theorem dX1_renamedColumnOf_1 : decode cX1_renamedColumnOf 1 = .ok (.iload_n 2, 1) := by decide +kernel
theorem dX1_renamedColumnOf_2 : decode cX1_renamedColumnOf 2 = .ok (.invokevirtual 29, 3) := by decide +kernel
theorem dX1_renamedColumnOf_5 : decode cX1_renamedColumnOf 5 = .ok (.ifCond .eq 28, 3) := by decide +kernel
theorem dX1_renamedColumnOf_8 : decode cX1_renamedColumnOf 8 = .ok (.aload_n 1, 1) := by decide +kernel
theorem dX1_renamedColumnOf_9 : decode cX1_renamedColumnOf 9 = .ok (.iload_n 2, 1) := by decide +kernel
theorem dX1_renamedColumnOf_10 : decode cX1_renamedColumnOf 10 = .ok (.invokevirtual 29, 3) := by decide +kernel
theorem dX1_renamedColumnOf_13 : decode cX1_renamedColumnOf 13 = .ok (.ifCond .eq 20, 3) := by decide +kernel
theorem dX1_renamedColumnOf_16 : decode cX1_renamedColumnOf 16 = .ok (.aload_n 0, 1) := by decide +kernel
theorem dX1_renamedColumnOf_17 : decode cX1_renamedColumnOf 17 = .ok (.iload_n 2, 1) := by decide +kernel
theorem dX1_renamedColumnOf_18 : decode cX1_renamedColumnOf 18 = .ok (.invokevirtual 75, 3) := by decide +kernel
theorem dX1_renamedColumnOf_21 : decode cX1_renamedColumnOf 21 = .ok (.aload_n 1, 1) := by decide +kernel
theorem dX1_renamedColumnOf_22 : decode cX1_renamedColumnOf 22 = .ok (.iload_n 2, 1) := by decide +kernel
theorem dX1_renamedColumnOf_23 : decode cX1_renamedColumnOf 23 = .ok (.invokevirtual 75, 3) := by decide +kernel
theorem dX1_renamedColumnOf_26 : decode cX1_renamedColumnOf 26 = .ok (.if_icmp .eq 7, 3) := by decide +kernel
theorem dX1_renamedColumnOf_29 : decode cX1_renamedColumnOf 29 = .ok (.iconst 1, 1) := by decide +kernel
theorem dX1_renamedColumnOf_30 : decode cX1_renamedColumnOf 30 = .ok (.goto 4, 3) := by decide +kernel
theorem dX1_renamedColumnOf_33 : decode cX1_renamedColumnOf 33 = .ok (.iconst 0, 1) := by decide +kernel
theorem dX1_renamedColumnOf_34 : decode cX1_renamedColumnOf 34 = .ok (.ireturn, 1) := by decide +kernel
set_option maxRecDepth 20000 in
theorem ggX1_changedColumnOf_X1_renamedColumnOf : GoodIn wsX1_changedColumnOf wsX1_renamedColumnOf := goodIn_r _ [5, 6, 7, 8, 4, 9, 10, 11, 12, 13, 14, 15, 30, 31, 32, 33] (by decide +kernel) (by decide +kernel)
set_option maxRecDepth 20000 in
theorem gX1_changedColumnOf_X1_renamedColumnOf : GoodIn wsX1_changedColumnOf (wsV RX1 78 RX1 yX1_renamedColumnOf wsX1_renamedColumnOf) := goodIn_app (goodIn_of _ (by decide +kernel)) ggX1_changedColumnOf_X1_renamedColumnOf
set_option maxRecDepth 20000 in
theorem ggX1_changedColumnOf_X1_changedCellOf : GoodIn wsX1_changedColumnOf wsX1_changedCellOf := goodIn_r _ [19, 20, 21, 22, 23, 4, 24, 25, 26, 27, 28, 29, 6, 7, 8, 9, 10, 30, 31, 32, 33] (by decide +kernel) (by decide +kernel)
set_option maxRecDepth 20000 in
theorem gX1_changedColumnOf_X1_changedCellOf : GoodIn wsX1_changedColumnOf (wsV RX1 71 RX1 yX1_changedCellOf wsX1_changedCellOf) := goodIn_app (goodIn_of _ (by decide +kernel)) ggX1_changedColumnOf_X1_changedCellOf
theorem dX1_changedColumnOf_0 : decode cX1_changedColumnOf 0 = .ok (.aload_n 0, 1) := by decide +kernel
theorem dX1_changedColumnOf_1 : decode cX1_changedColumnOf 1 = .ok (.aload_n 1, 1) := by decide +kernel
theorem dX1_changedColumnOf_2 : decode cX1_changedColumnOf 2 = .ok (.iload_n 2, 1) := by decide +kernel
theorem dX1_changedColumnOf_3 : decode cX1_changedColumnOf 3 = .ok (.invokevirtual 78, 3) := by decide +kernel
theorem dX1_changedColumnOf_6 : decode cX1_changedColumnOf 6 = .ok (.ifCond .eq 5, 3) := by decide +kernel
theorem dX1_changedColumnOf_9 : decode cX1_changedColumnOf 9 = .ok (.iconst 1, 1) := by decide +kernel
theorem dX1_changedColumnOf_10 : decode cX1_changedColumnOf 10 = .ok (.ireturn, 1) := by decide +kernel
theorem dX1_changedColumnOf_11 : decode cX1_changedColumnOf 11 = .ok (.iconst 0, 1) := by decide +kernel
theorem dX1_changedColumnOf_12 : decode cX1_changedColumnOf 12 = .ok (.istore_n 3, 1) := by decide +kernel
theorem dX1_changedColumnOf_13 : decode cX1_changedColumnOf 13 = .ok (.iload_n 3, 1) := by decide +kernel
theorem dX1_changedColumnOf_14 : decode cX1_changedColumnOf 14 = .ok (.bipush 24, 2) := by decide +kernel
theorem dX1_changedColumnOf_16 : decode cX1_changedColumnOf 16 = .ok (.if_icmp .ge 21, 3) := by decide +kernel
theorem dX1_changedColumnOf_19 : decode cX1_changedColumnOf 19 = .ok (.aload_n 0, 1) := by decide +kernel
theorem dX1_changedColumnOf_20 : decode cX1_changedColumnOf 20 = .ok (.aload_n 1, 1) := by decide +kernel
theorem dX1_changedColumnOf_21 : decode cX1_changedColumnOf 21 = .ok (.iload_n 3, 1) := by decide +kernel
theorem dX1_changedColumnOf_22 : decode cX1_changedColumnOf 22 = .ok (.iload_n 2, 1) := by decide +kernel
theorem dX1_changedColumnOf_23 : decode cX1_changedColumnOf 23 = .ok (.invokevirtual 71, 3) := by decide +kernel
theorem dX1_changedColumnOf_26 : decode cX1_changedColumnOf 26 = .ok (.ifCond .eq 5, 3) := by decide +kernel
theorem dX1_changedColumnOf_29 : decode cX1_changedColumnOf 29 = .ok (.iconst 1, 1) := by decide +kernel
theorem dX1_changedColumnOf_30 : decode cX1_changedColumnOf 30 = .ok (.ireturn, 1) := by decide +kernel
theorem dX1_changedColumnOf_31 : decode cX1_changedColumnOf 31 = .ok (.iinc 3 1, 3) := by decide +kernel
theorem dX1_changedColumnOf_34 : decode cX1_changedColumnOf 34 = .ok (.goto (-21), 3) := by decide +kernel
theorem dX1_changedColumnOf_37 : decode cX1_changedColumnOf 37 = .ok (.iconst 0, 1) := by decide +kernel
theorem dX1_changedColumnOf_38 : decode cX1_changedColumnOf 38 = .ok (.ireturn, 1) := by decide +kernel
set_option maxRecDepth 20000 in
theorem ggX1_countCellsChanged_X1_changedCellOf : GoodIn wsX1_countCellsChanged wsX1_changedCellOf := goodIn_r _ [5, 6, 7, 8, 9, 4, 10, 11, 12, 13, 14, 15, 16, 17, 18, 19, 20, 21, 22, 23, 24] (by decide +kernel) (by decide +kernel)
set_option maxRecDepth 20000 in
theorem gX1_countCellsChanged_X1_changedCellOf : GoodIn wsX1_countCellsChanged (wsV RX1 71 RX1 yX1_changedCellOf wsX1_changedCellOf) := goodIn_app (goodIn_of _ (by decide +kernel)) ggX1_countCellsChanged_X1_changedCellOf
theorem dX1_countCellsChanged_0 : decode cX1_countCellsChanged 0 = .ok (.iconst 0, 1) := by decide +kernel
theorem dX1_countCellsChanged_1 : decode cX1_countCellsChanged 1 = .ok (.istore_n 3, 1) := by decide +kernel
theorem dX1_countCellsChanged_2 : decode cX1_countCellsChanged 2 = .ok (.iconst 0, 1) := by decide +kernel
theorem dX1_countCellsChanged_3 : decode cX1_countCellsChanged 3 = .ok (.istore 4, 2) := by decide +kernel
theorem dX1_countCellsChanged_5 : decode cX1_countCellsChanged 5 = .ok (.iload 4, 2) := by decide +kernel
theorem dX1_countCellsChanged_7 : decode cX1_countCellsChanged 7 = .ok (.bipush 8, 2) := by decide +kernel
theorem dX1_countCellsChanged_9 : decode cX1_countCellsChanged 9 = .ok (.if_icmp .ge 23, 3) := by decide +kernel
theorem dX1_countCellsChanged_12 : decode cX1_countCellsChanged 12 = .ok (.aload_n 0, 1) := by decide +kernel
theorem dX1_countCellsChanged_13 : decode cX1_countCellsChanged 13 = .ok (.aload_n 1, 1) := by decide +kernel
theorem dX1_countCellsChanged_14 : decode cX1_countCellsChanged 14 = .ok (.iload_n 2, 1) := by decide +kernel
theorem dX1_countCellsChanged_15 : decode cX1_countCellsChanged 15 = .ok (.iload 4, 2) := by decide +kernel
theorem dX1_countCellsChanged_17 : decode cX1_countCellsChanged 17 = .ok (.invokevirtual 71, 3) := by decide +kernel
theorem dX1_countCellsChanged_20 : decode cX1_countCellsChanged 20 = .ok (.ifCond .eq 6, 3) := by decide +kernel
theorem dX1_countCellsChanged_23 : decode cX1_countCellsChanged 23 = .ok (.iinc 3 1, 3) := by decide +kernel
theorem dX1_countCellsChanged_26 : decode cX1_countCellsChanged 26 = .ok (.iinc 4 1, 3) := by decide +kernel
theorem dX1_countCellsChanged_29 : decode cX1_countCellsChanged 29 = .ok (.goto (-24), 3) := by decide +kernel
theorem dX1_countCellsChanged_32 : decode cX1_countCellsChanged 32 = .ok (.iload_n 3, 1) := by decide +kernel
theorem dX1_countCellsChanged_33 : decode cX1_countCellsChanged 33 = .ok (.ireturn, 1) := by decide +kernel
set_option maxRecDepth 20000 in
theorem ggX1_countChangesFrom_J6_bitCount_0f7a4 : GoodIn wsX1_countChangesFrom wsJ6_bitCount_0f7a4 := goodIn_r _ [6, 7, 8, 9] (by decide +kernel) (by decide +kernel)
set_option maxRecDepth 20000 in
theorem gX1_countChangesFrom_J6_bitCount_0f7a4 : GoodIn wsX1_countChangesFrom (va_wsS RX1 32 yJ6_bitCount_0f7a4 wsJ6_bitCount_0f7a4) := goodIn_app (goodIn_of _ (by decide +kernel)) ggX1_countChangesFrom_J6_bitCount_0f7a4
set_option maxRecDepth 20000 in
theorem ggX1_countChangesFrom_X1_renamedColumnOf : GoodIn wsX1_countChangesFrom wsX1_renamedColumnOf := goodIn_r _ [14, 15, 16, 17, 13, 18, 1, 19, 20, 21, 22, 23, 41, 42, 43, 44] (by decide +kernel) (by decide +kernel)
set_option maxRecDepth 20000 in
theorem gX1_countChangesFrom_X1_renamedColumnOf : GoodIn wsX1_countChangesFrom (wsV RX1 78 RX1 yX1_renamedColumnOf wsX1_renamedColumnOf) := goodIn_app (goodIn_of _ (by decide +kernel)) ggX1_countChangesFrom_X1_renamedColumnOf
set_option maxRecDepth 20000 in
theorem ggX1_countChangesFrom_X1_countCellsChanged : GoodIn wsX1_countChangesFrom wsX1_countCellsChanged := goodIn_r _ [27, 28, 29, 30, 13, 31, 32, 33, 34, 35, 36, 37, 38, 39, 40, 2, 15, 16, 17, 18, 1, 41, 42, 43, 44] (by decide +kernel) (by decide +kernel)
set_option maxRecDepth 20000 in
theorem gX1_countChangesFrom_X1_countCellsChanged : GoodIn wsX1_countChangesFrom (wsV RX1 82 RX1 yX1_countCellsChanged wsX1_countCellsChanged) := goodIn_app (goodIn_of _ (by decide +kernel)) ggX1_countChangesFrom_X1_countCellsChanged
theorem dX1_countChangesFrom_0 : decode cX1_countChangesFrom 0 = .ok (.aload_n 0, 1) := by decide +kernel
theorem dX1_countChangesFrom_1 : decode cX1_countChangesFrom 1 = .ok (.getfield 9, 3) := by decide +kernel
theorem dX1_countChangesFrom_4 : decode cX1_countChangesFrom 4 = .ok (.aload_n 1, 1) := by decide +kernel
theorem dX1_countChangesFrom_5 : decode cX1_countChangesFrom 5 = .ok (.getfield 9, 3) := by decide +kernel
theorem dX1_countChangesFrom_8 : decode cX1_countChangesFrom 8 = .ok (.ixor, 1) := by decide +kernel
theorem dX1_countChangesFrom_9 : decode cX1_countChangesFrom 9 = .ok (.invokestatic 32, 3) := by decide +kernel
theorem dX1_countChangesFrom_12 : decode cX1_countChangesFrom 12 = .ok (.aload_n 0, 1) := by decide +kernel
theorem dX1_countChangesFrom_13 : decode cX1_countChangesFrom 13 = .ok (.getfield 15, 3) := by decide +kernel
theorem dX1_countChangesFrom_16 : decode cX1_countChangesFrom 16 = .ok (.aload_n 1, 1) := by decide +kernel
theorem dX1_countChangesFrom_17 : decode cX1_countChangesFrom 17 = .ok (.getfield 15, 3) := by decide +kernel
theorem dX1_countChangesFrom_20 : decode cX1_countChangesFrom 20 = .ok (.ixor, 1) := by decide +kernel
theorem dX1_countChangesFrom_21 : decode cX1_countChangesFrom 21 = .ok (.invokestatic 32, 3) := by decide +kernel
theorem dX1_countChangesFrom_24 : decode cX1_countChangesFrom 24 = .ok (.iadd, 1) := by decide +kernel
theorem dX1_countChangesFrom_25 : decode cX1_countChangesFrom 25 = .ok (.istore_n 2, 1) := by decide +kernel
theorem dX1_countChangesFrom_26 : decode cX1_countChangesFrom 26 = .ok (.iconst 0, 1) := by decide +kernel
theorem dX1_countChangesFrom_27 : decode cX1_countChangesFrom 27 = .ok (.istore_n 3, 1) := by decide +kernel
theorem dX1_countChangesFrom_28 : decode cX1_countChangesFrom 28 = .ok (.iload_n 3, 1) := by decide +kernel
theorem dX1_countChangesFrom_29 : decode cX1_countChangesFrom 29 = .ok (.bipush 8, 2) := by decide +kernel
theorem dX1_countChangesFrom_31 : decode cX1_countChangesFrom 31 = .ok (.if_icmp .ge 21, 3) := by decide +kernel
theorem dX1_countChangesFrom_34 : decode cX1_countChangesFrom 34 = .ok (.aload_n 0, 1) := by decide +kernel
theorem dX1_countChangesFrom_35 : decode cX1_countChangesFrom 35 = .ok (.aload_n 1, 1) := by decide +kernel
theorem dX1_countChangesFrom_36 : decode cX1_countChangesFrom 36 = .ok (.iload_n 3, 1) := by decide +kernel
theorem dX1_countChangesFrom_37 : decode cX1_countChangesFrom 37 = .ok (.invokevirtual 78, 3) := by decide +kernel
theorem dX1_countChangesFrom_40 : decode cX1_countChangesFrom 40 = .ok (.ifCond .eq 6, 3) := by decide +kernel
theorem dX1_countChangesFrom_43 : decode cX1_countChangesFrom 43 = .ok (.iinc 2 1, 3) := by decide +kernel
theorem dX1_countChangesFrom_46 : decode cX1_countChangesFrom 46 = .ok (.iinc 3 1, 3) := by decide +kernel
theorem dX1_countChangesFrom_49 : decode cX1_countChangesFrom 49 = .ok (.goto (-21), 3) := by decide +kernel
theorem dX1_countChangesFrom_52 : decode cX1_countChangesFrom 52 = .ok (.iconst 0, 1) := by decide +kernel
theorem dX1_countChangesFrom_53 : decode cX1_countChangesFrom 53 = .ok (.istore_n 3, 1) := by decide +kernel
theorem dX1_countChangesFrom_54 : decode cX1_countChangesFrom 54 = .ok (.iload_n 3, 1) := by decide +kernel
theorem dX1_countChangesFrom_55 : decode cX1_countChangesFrom 55 = .ok (.bipush 24, 2) := by decide +kernel
theorem dX1_countChangesFrom_57 : decode cX1_countChangesFrom 57 = .ok (.if_icmp .ge 18, 3) := by decide +kernel
theorem dX1_countChangesFrom_60 : decode cX1_countChangesFrom 60 = .ok (.iload_n 2, 1) := by decide +kernel
theorem dX1_countChangesFrom_61 : decode cX1_countChangesFrom 61 = .ok (.aload_n 0, 1) := by decide +kernel
theorem dX1_countChangesFrom_62 : decode cX1_countChangesFrom 62 = .ok (.aload_n 1, 1) := by decide +kernel
theorem dX1_countChangesFrom_63 : decode cX1_countChangesFrom 63 = .ok (.iload_n 3, 1) := by decide +kernel
theorem dX1_countChangesFrom_64 : decode cX1_countChangesFrom 64 = .ok (.invokevirtual 82, 3) := by decide +kernel
theorem dX1_countChangesFrom_67 : decode cX1_countChangesFrom 67 = .ok (.iadd, 1) := by decide +kernel
theorem dX1_countChangesFrom_68 : decode cX1_countChangesFrom 68 = .ok (.istore_n 2, 1) := by decide +kernel
theorem dX1_countChangesFrom_69 : decode cX1_countChangesFrom 69 = .ok (.iinc 3 1, 3) := by decide +kernel
theorem dX1_countChangesFrom_72 : decode cX1_countChangesFrom 72 = .ok (.goto (-18), 3) := by decide +kernel
theorem dX1_countChangesFrom_75 : decode cX1_countChangesFrom 75 = .ok (.iload_n 2, 1) := by decide +kernel
theorem dX1_countChangesFrom_76 : decode cX1_countChangesFrom 76 = .ok (.ireturn, 1) := by decide +kernel
set_option maxRecDepth 20000 in
theorem ggX2_init_X1_init : GoodIn wsX2_init wsX1_init := goodIn_r _ [21, 22, 2, 3, 23, 24, 11, 25, 26, 36, 37, 38, 39] (by decide +kernel) (by decide +kernel)
set_option maxRecDepth 20000 in
theorem gX2_init_X1_init_n9 : GoodIn wsX2_init (wsX1_init) := ggX2_init_X1_init
set_option maxRecDepth 20000 in
theorem ggX2_init_X0_init : GoodIn wsX2_init wsX0_init := goodIn_r _ [28, 29, 2, 3, 30, 31, 11, 32, 33, 34, 13, 35, 48, 49, 50, 51, 52, 53] (by decide +kernel) (by decide +kernel)
set_option maxRecDepth 20000 in
theorem gX2_init_X0_init_n35 : GoodIn wsX2_init (wsX0_init) := ggX2_init_X0_init
theorem dX2_init_0 : decode cX2_init 0 = .ok (.aload_n 0, 1) := by decide +kernel
theorem dX2_init_1 : decode cX2_init 1 = .ok (.invokespecial 1, 3) := by decide +kernel
theorem dX2_init_4 : decode cX2_init 4 = .ok (.aload_n 0, 1) := by decide +kernel
theorem dX2_init_5 : decode cX2_init 5 = .ok (.new 7, 3) := by decide +kernel
theorem dX2_init_8 : decode cX2_init 8 = .ok (.dup, 1) := by decide +kernel
theorem dX2_init_9 : decode cX2_init 9 = .ok (.invokespecial 9, 3) := by decide +kernel
theorem dX2_init_12 : decode cX2_init 12 = .ok (.putfield 10, 3) := by decide +kernel
theorem dX2_init_15 : decode cX2_init 15 = .ok (.aload_n 0, 1) := by decide +kernel
theorem dX2_init_16 : decode cX2_init 16 = .ok (.new 7, 3) := by decide +kernel
theorem dX2_init_19 : decode cX2_init 19 = .ok (.dup, 1) := by decide +kernel
theorem dX2_init_20 : decode cX2_init 20 = .ok (.invokespecial 9, 3) := by decide +kernel
theorem dX2_init_23 : decode cX2_init 23 = .ok (.putfield 16, 3) := by decide +kernel
theorem dX2_init_26 : decode cX2_init 26 = .ok (.aload_n 0, 1) := by decide +kernel
theorem dX2_init_27 : decode cX2_init 27 = .ok (.new 7, 3) := by decide +kernel
theorem dX2_init_30 : decode cX2_init 30 = .ok (.dup, 1) := by decide +kernel
theorem dX2_init_31 : decode cX2_init 31 = .ok (.invokespecial 9, 3) := by decide +kernel
theorem dX2_init_34 : decode cX2_init 34 = .ok (.putfield 19, 3) := by decide +kernel
theorem dX2_init_37 : decode cX2_init 37 = .ok (.aload_n 0, 1) := by decide +kernel
theorem dX2_init_38 : decode cX2_init 38 = .ok (.new 7, 3) := by decide +kernel
theorem dX2_init_41 : decode cX2_init 41 = .ok (.dup, 1) := by decide +kernel
theorem dX2_init_42 : decode cX2_init 42 = .ok (.invokespecial 9, 3) := by decide +kernel
theorem dX2_init_45 : decode cX2_init 45 = .ok (.putfield 22, 3) := by decide +kernel
theorem dX2_init_48 : decode cX2_init 48 = .ok (.aload_n 0, 1) := by decide +kernel
theorem dX2_init_49 : decode cX2_init 49 = .ok (.bipush 8, 2) := by decide +kernel
theorem dX2_init_51 : decode cX2_init 51 = .ok (.newarray .int, 2) := by decide +kernel
theorem dX2_init_53 : decode cX2_init 53 = .ok (.putfield 25, 3) := by decide +kernel
theorem dX2_init_56 : decode cX2_init 56 = .ok (.aload_n 0, 1) := by decide +kernel
theorem dX2_init_57 : decode cX2_init 57 = .ok (.bipush 8, 2) := by decide +kernel
theorem dX2_init_59 : decode cX2_init 59 = .ok (.newarray .boolean, 2) := by decide +kernel
theorem dX2_init_61 : decode cX2_init 61 = .ok (.putfield 29, 3) := by decide +kernel
theorem dX2_init_64 : decode cX2_init 64 = .ok (.aload_n 0, 1) := by decide +kernel
theorem dX2_init_65 : decode cX2_init 65 = .ok (.new 33, 3) := by decide +kernel
theorem dX2_init_68 : decode cX2_init 68 = .ok (.dup, 1) := by decide +kernel
theorem dX2_init_69 : decode cX2_init 69 = .ok (.invokespecial 35, 3) := by decide +kernel
theorem dX2_init_72 : decode cX2_init 72 = .ok (.putfield 36, 3) := by decide +kernel
theorem dX2_init_75 : decode cX2_init 75 = .ok (.aload_n 0, 1) := by decide +kernel
theorem dX2_init_76 : decode cX2_init 76 = .ok (.iconst 0, 1) := by decide +kernel
theorem dX2_init_77 : decode cX2_init 77 = .ok (.putfield 40, 3) := by decide +kernel
theorem dX2_init_80 : decode cX2_init 80 = .ok (.return_, 1) := by decide +kernel
set_option maxRecDepth 20000 in
theorem ggX2_addColumn_X2_tableToFill : GoodIn wsX2_addColumn wsX2_tableToFill := goodIn_ca (goodIn_r _ [8, 9, 10, 11, 12, 13, 7, 14, 15, 16, 17, 18, 49, 50, 51, 52, 53, 54, 55, 56] (by decide +kernel) (by decide +kernel)) (goodIn_sub (fun _ h => List.mem_cons_of_mem _ (List.mem_append_left _ (List.mem_append_right _ h))) (by decide +kernel))
set_option maxRecDepth 20000 in
theorem gX2_addColumn_X2_tableToFill : GoodIn wsX2_addColumn (wsV RX2 44 RX2 yX2_tableToFill wsX2_tableToFill) := goodIn_app (goodIn_of _ (by decide +kernel)) ggX2_addColumn_X2_tableToFill
set_option maxRecDepth 20000 in
theorem ggX2_addColumn_X2_requireColumnNumber : GoodIn wsX2_addColumn wsX2_requireColumnNumber := goodIn_ca (goodIn_r _ [21, 9, 10, 22, 23, 7, 24] (by decide +kernel) (by decide +kernel)) (goodIn_sub (fun _ h => List.mem_cons_of_mem _ (List.mem_append_left _ (List.mem_append_right _ h))) (by decide +kernel))
set_option maxRecDepth 20000 in
theorem gX2_addColumn_X2_requireColumnNumber : GoodIn wsX2_addColumn (va_wsS RX2 48 yX2_requireColumnNumber wsX2_requireColumnNumber) := goodIn_app (goodIn_of _ (by decide +kernel)) ggX2_addColumn_X2_requireColumnNumber
set_option maxRecDepth 20000 in
theorem ggX2_addColumn_X2_requireName : GoodIn wsX2_addColumn wsX2_requireName := goodIn_ca (goodIn_r _ [27, 28, 29] (by decide +kernel) (by decide +kernel)) (goodIn_sub (fun _ h => List.mem_cons_of_mem _ (List.mem_append_right _ h)) (by decide +kernel))
set_option maxRecDepth 20000 in
theorem gX2_addColumn_X2_requireName : GoodIn wsX2_addColumn (va_wsS RX2 52 yX2_requireName wsX2_requireName) := goodIn_app (goodIn_of _ (by decide +kernel)) ggX2_addColumn_X2_requireName
set_option maxRecDepth 20000 in
theorem ggX2_addColumn_X1_hasColumn : GoodIn wsX2_addColumn wsX1_hasColumn := goodIn_r _ [33, 34, 57, 58, 59, 60] (by decide +kernel) (by decide +kernel)
set_option maxRecDepth 20000 in
theorem gX2_addColumn_X1_hasColumn_n55 : GoodIn wsX2_addColumn (wsX1_hasColumn) := ggX2_addColumn_X1_hasColumn
set_option maxRecDepth 20000 in
theorem ggX2_addColumn_X1_putColumn : GoodIn wsX2_addColumn wsX1_putColumn := goodIn_r _ [37, 34, 38, 23, 7, 24, 57, 58, 59, 60] (by decide +kernel) (by decide +kernel)
set_option maxRecDepth 20000 in
theorem gX2_addColumn_X1_putColumn_n66 : GoodIn wsX2_addColumn (wsX1_putColumn) := ggX2_addColumn_X1_putColumn
set_option maxRecDepth 20000 in
theorem ggX2_addColumn_X1_columnCount : GoodIn wsX2_addColumn wsX1_columnCount := goodIn_r _ [41, 34, 42, 43, 44, 45, 46, 47, 48, 57, 58, 59, 60] (by decide +kernel) (by decide +kernel)
set_option maxRecDepth 20000 in
theorem gX2_addColumn_X1_columnCount_n70 : GoodIn wsX2_addColumn (wsX1_columnCount) := ggX2_addColumn_X1_columnCount
theorem dX2_addColumn_0 : decode cX2_addColumn 0 = .ok (.aload_n 0, 1) := by decide +kernel
theorem dX2_addColumn_1 : decode cX2_addColumn 1 = .ok (.iload_n 1, 1) := by decide +kernel
theorem dX2_addColumn_2 : decode cX2_addColumn 2 = .ok (.invokevirtual 44, 3) := by decide +kernel
theorem dX2_addColumn_5 : decode cX2_addColumn 5 = .ok (.astore 4, 2) := by decide +kernel
theorem dX2_addColumn_7 : decode cX2_addColumn 7 = .ok (.iload_n 2, 1) := by decide +kernel
theorem dX2_addColumn_8 : decode cX2_addColumn 8 = .ok (.invokestatic 48, 3) := by decide +kernel
theorem dX2_addColumn_11 : decode cX2_addColumn 11 = .ok (.iload_n 3, 1) := by decide +kernel
theorem dX2_addColumn_12 : decode cX2_addColumn 12 = .ok (.invokestatic 52, 3) := by decide +kernel
theorem dX2_addColumn_15 : decode cX2_addColumn 15 = .ok (.aload 4, 2) := by decide +kernel
theorem dX2_addColumn_17 : decode cX2_addColumn 17 = .ok (.iload_n 2, 1) := by decide +kernel
theorem dX2_addColumn_18 : decode cX2_addColumn 18 = .ok (.invokevirtual 55, 3) := by decide +kernel
theorem dX2_addColumn_21 : decode cX2_addColumn 21 = .ok (.ifCond .eq 13, 3) := by decide +kernel
theorem dX2_addColumn_24 : decode cX2_addColumn 24 = .ok (.new 59, 3) := by decide +kernel
theorem dX2_addColumn_27 : decode cX2_addColumn 27 = .ok (.dup, 1) := by decide +kernel
theorem dX2_addColumn_28 : decode cX2_addColumn 28 = .ok (.ldc 61, 2) := by decide +kernel
theorem dX2_addColumn_30 : decode cX2_addColumn 30 = .ok (.invokespecial 63, 3) := by decide +kernel
theorem dX2_addColumn_33 : decode cX2_addColumn 33 = .ok (.athrow, 1) := by decide +kernel
theorem dX2_addColumn_34 : decode cX2_addColumn 34 = .ok (.aload 4, 2) := by decide +kernel
theorem dX2_addColumn_36 : decode cX2_addColumn 36 = .ok (.iload_n 2, 1) := by decide +kernel
theorem dX2_addColumn_37 : decode cX2_addColumn 37 = .ok (.iload_n 3, 1) := by decide +kernel
theorem dX2_addColumn_38 : decode cX2_addColumn 38 = .ok (.invokevirtual 66, 3) := by decide +kernel
theorem dX2_addColumn_41 : decode cX2_addColumn 41 = .ok (.aload_n 0, 1) := by decide +kernel
theorem dX2_addColumn_42 : decode cX2_addColumn 42 = .ok (.iconst 0, 1) := by decide +kernel
theorem dX2_addColumn_43 : decode cX2_addColumn 43 = .ok (.putfield 40, 3) := by decide +kernel
theorem dX2_addColumn_46 : decode cX2_addColumn 46 = .ok (.aload 4, 2) := by decide +kernel
theorem dX2_addColumn_48 : decode cX2_addColumn 48 = .ok (.invokevirtual 70, 3) := by decide +kernel
theorem dX2_addColumn_51 : decode cX2_addColumn 51 = .ok (.ireturn, 1) := by decide +kernel
set_option maxRecDepth 20000 in
theorem ggX2_dropColumn_X2_tableToFill : GoodIn wsX2_dropColumn wsX2_tableToFill := goodIn_ca (goodIn_r _ [6, 7, 8, 9, 10, 11, 5, 12, 13, 14, 15, 16, 47, 48, 49, 50, 51, 52, 53, 54] (by decide +kernel) (by decide +kernel)) (goodIn_sub (fun _ h => List.mem_cons_of_mem _ (List.mem_append_right _ h)) (by decide +kernel))
set_option maxRecDepth 20000 in
theorem gX2_dropColumn_X2_tableToFill : GoodIn wsX2_dropColumn (wsV RX2 44 RX2 yX2_tableToFill wsX2_tableToFill) := goodIn_app (goodIn_of _ (by decide +kernel)) ggX2_dropColumn_X2_tableToFill
set_option maxRecDepth 20000 in
theorem ggX2_dropColumn_X2_requireColumnOf : GoodIn wsX2_dropColumn wsX2_requireColumnOf := goodIn_ca (goodIn_r _ [19, 7, 8, 20, 21, 22, 23, 24, 55, 56, 57, 58] (by decide +kernel) (by decide +kernel)) (goodIn_sub (fun _ h => List.mem_cons_of_mem _ (List.mem_append_right _ h)) (by decide +kernel))
set_option maxRecDepth 20000 in
theorem gX2_dropColumn_X2_requireColumnOf : GoodIn wsX2_dropColumn (va_wsS RX2 74 yX2_requireColumnOf wsX2_requireColumnOf) := goodIn_app (goodIn_of _ (by decide +kernel)) ggX2_dropColumn_X2_requireColumnOf
set_option maxRecDepth 20000 in
theorem ggX2_dropColumn_X1_nameAt : GoodIn wsX2_dropColumn wsX1_nameAt := goodIn_r _ [27, 28, 29, 20, 22, 21, 23, 24, 55, 56, 57, 58] (by decide +kernel) (by decide +kernel)
set_option maxRecDepth 20000 in
theorem gX2_dropColumn_X1_nameAt_n78 : GoodIn wsX2_dropColumn (wsX1_nameAt) := ggX2_dropColumn_X1_nameAt
set_option maxRecDepth 20000 in
theorem ggX2_dropColumn_X1_cutColumn : GoodIn wsX2_dropColumn wsX1_cutColumn := goodIn_r _ [32, 28, 24, 29, 20, 22, 21, 23, 33, 34, 35, 36, 37, 38, 39, 40, 41, 42, 43, 44, 45, 46, 55, 56, 57, 58] (by decide +kernel) (by decide +kernel)
set_option maxRecDepth 20000 in
theorem gX2_dropColumn_X1_cutColumn_n82 : GoodIn wsX2_dropColumn (wsX1_cutColumn) := ggX2_dropColumn_X1_cutColumn
theorem dX2_dropColumn_0 : decode cX2_dropColumn 0 = .ok (.aload_n 0, 1) := by decide +kernel
theorem dX2_dropColumn_1 : decode cX2_dropColumn 1 = .ok (.iload_n 1, 1) := by decide +kernel
theorem dX2_dropColumn_2 : decode cX2_dropColumn 2 = .ok (.invokevirtual 44, 3) := by decide +kernel
theorem dX2_dropColumn_5 : decode cX2_dropColumn 5 = .ok (.astore_n 3, 1) := by decide +kernel
theorem dX2_dropColumn_6 : decode cX2_dropColumn 6 = .ok (.aload_n 3, 1) := by decide +kernel
theorem dX2_dropColumn_7 : decode cX2_dropColumn 7 = .ok (.iload_n 2, 1) := by decide +kernel
theorem dX2_dropColumn_8 : decode cX2_dropColumn 8 = .ok (.invokestatic 74, 3) := by decide +kernel
theorem dX2_dropColumn_11 : decode cX2_dropColumn 11 = .ok (.aload_n 3, 1) := by decide +kernel
theorem dX2_dropColumn_12 : decode cX2_dropColumn 12 = .ok (.iload_n 2, 1) := by decide +kernel
theorem dX2_dropColumn_13 : decode cX2_dropColumn 13 = .ok (.invokevirtual 78, 3) := by decide +kernel
theorem dX2_dropColumn_16 : decode cX2_dropColumn 16 = .ok (.istore 4, 2) := by decide +kernel
theorem dX2_dropColumn_18 : decode cX2_dropColumn 18 = .ok (.aload_n 3, 1) := by decide +kernel
theorem dX2_dropColumn_19 : decode cX2_dropColumn 19 = .ok (.iload_n 2, 1) := by decide +kernel
theorem dX2_dropColumn_20 : decode cX2_dropColumn 20 = .ok (.invokevirtual 82, 3) := by decide +kernel
theorem dX2_dropColumn_23 : decode cX2_dropColumn 23 = .ok (.aload_n 0, 1) := by decide +kernel
theorem dX2_dropColumn_24 : decode cX2_dropColumn 24 = .ok (.iconst 0, 1) := by decide +kernel
theorem dX2_dropColumn_25 : decode cX2_dropColumn 25 = .ok (.putfield 40, 3) := by decide +kernel
theorem dX2_dropColumn_28 : decode cX2_dropColumn 28 = .ok (.iload 4, 2) := by decide +kernel
theorem dX2_dropColumn_30 : decode cX2_dropColumn 30 = .ok (.ireturn, 1) := by decide +kernel
set_option maxRecDepth 20000 in
theorem ggX2_rename_X2_tableToFill : GoodIn wsX2_rename wsX2_tableToFill := goodIn_ca (goodIn_r _ [6, 7, 8, 9, 10, 11, 5, 12, 13, 14, 15, 16, 38, 39, 40, 41, 42, 43, 44, 45] (by decide +kernel) (by decide +kernel)) (goodIn_sub (fun _ h => List.mem_cons_of_mem _ (List.mem_append_left _ (List.mem_append_right _ h))) (by decide +kernel))
set_option maxRecDepth 20000 in
theorem gX2_rename_X2_tableToFill : GoodIn wsX2_rename (wsV RX2 44 RX2 yX2_tableToFill wsX2_tableToFill) := goodIn_app (goodIn_of _ (by decide +kernel)) ggX2_rename_X2_tableToFill
set_option maxRecDepth 20000 in
theorem ggX2_rename_X2_requireColumnOf : GoodIn wsX2_rename wsX2_requireColumnOf := goodIn_ca (goodIn_r _ [19, 7, 8, 20, 21, 22, 23, 24, 46, 47, 48, 49] (by decide +kernel) (by decide +kernel)) (goodIn_sub (fun _ h => List.mem_cons_of_mem _ (List.mem_append_left _ (List.mem_append_right _ h))) (by decide +kernel))
set_option maxRecDepth 20000 in
theorem gX2_rename_X2_requireColumnOf : GoodIn wsX2_rename (va_wsS RX2 74 yX2_requireColumnOf wsX2_requireColumnOf) := goodIn_app (goodIn_of _ (by decide +kernel)) ggX2_rename_X2_requireColumnOf
set_option maxRecDepth 20000 in
theorem ggX2_rename_X2_requireName : GoodIn wsX2_rename wsX2_requireName := goodIn_ca (goodIn_r _ [27, 28, 29] (by decide +kernel) (by decide +kernel)) (goodIn_sub (fun _ h => List.mem_cons_of_mem _ (List.mem_append_right _ h)) (by decide +kernel))
set_option maxRecDepth 20000 in
theorem gX2_rename_X2_requireName : GoodIn wsX2_rename (va_wsS RX2 52 yX2_requireName wsX2_requireName) := goodIn_app (goodIn_of _ (by decide +kernel)) ggX2_rename_X2_requireName
set_option maxRecDepth 20000 in
theorem ggX2_rename_X1_nameAt : GoodIn wsX2_rename wsX1_nameAt := goodIn_r _ [32, 33, 34, 20, 22, 21, 23, 24, 46, 47, 48, 49] (by decide +kernel) (by decide +kernel)
set_option maxRecDepth 20000 in
theorem gX2_rename_X1_nameAt_n78 : GoodIn wsX2_rename (wsX1_nameAt) := ggX2_rename_X1_nameAt
set_option maxRecDepth 20000 in
theorem ggX2_rename_X1_putName : GoodIn wsX2_rename wsX1_putName := goodIn_r _ [37, 33, 34, 20, 22, 21, 23, 24, 46, 47, 48, 49] (by decide +kernel) (by decide +kernel)
set_option maxRecDepth 20000 in
theorem gX2_rename_X1_putName_n85 : GoodIn wsX2_rename (wsX1_putName) := ggX2_rename_X1_putName
theorem dX2_rename_0 : decode cX2_rename 0 = .ok (.aload_n 0, 1) := by decide +kernel
theorem dX2_rename_1 : decode cX2_rename 1 = .ok (.iload_n 1, 1) := by decide +kernel
theorem dX2_rename_2 : decode cX2_rename 2 = .ok (.invokevirtual 44, 3) := by decide +kernel
theorem dX2_rename_5 : decode cX2_rename 5 = .ok (.astore 4, 2) := by decide +kernel
theorem dX2_rename_7 : decode cX2_rename 7 = .ok (.aload 4, 2) := by decide +kernel
theorem dX2_rename_9 : decode cX2_rename 9 = .ok (.iload_n 2, 1) := by decide +kernel
theorem dX2_rename_10 : decode cX2_rename 10 = .ok (.invokestatic 74, 3) := by decide +kernel
theorem dX2_rename_13 : decode cX2_rename 13 = .ok (.iload_n 3, 1) := by decide +kernel
theorem dX2_rename_14 : decode cX2_rename 14 = .ok (.invokestatic 52, 3) := by decide +kernel
theorem dX2_rename_17 : decode cX2_rename 17 = .ok (.aload 4, 2) := by decide +kernel
theorem dX2_rename_19 : decode cX2_rename 19 = .ok (.iload_n 2, 1) := by decide +kernel
theorem dX2_rename_20 : decode cX2_rename 20 = .ok (.invokevirtual 78, 3) := by decide +kernel
theorem dX2_rename_23 : decode cX2_rename 23 = .ok (.istore 5, 2) := by decide +kernel
theorem dX2_rename_25 : decode cX2_rename 25 = .ok (.aload 4, 2) := by decide +kernel
theorem dX2_rename_27 : decode cX2_rename 27 = .ok (.iload_n 2, 1) := by decide +kernel
theorem dX2_rename_28 : decode cX2_rename 28 = .ok (.iload_n 3, 1) := by decide +kernel
theorem dX2_rename_29 : decode cX2_rename 29 = .ok (.invokevirtual 85, 3) := by decide +kernel
theorem dX2_rename_32 : decode cX2_rename 32 = .ok (.aload_n 0, 1) := by decide +kernel
theorem dX2_rename_33 : decode cX2_rename 33 = .ok (.iconst 0, 1) := by decide +kernel
theorem dX2_rename_34 : decode cX2_rename 34 = .ok (.putfield 40, 3) := by decide +kernel
theorem dX2_rename_37 : decode cX2_rename 37 = .ok (.iload 5, 2) := by decide +kernel
theorem dX2_rename_39 : decode cX2_rename 39 = .ok (.ireturn, 1) := by decide +kernel
set_option maxRecDepth 20000 in
theorem ggX2_addRow_X2_tableToFill : GoodIn wsX2_addRow wsX2_tableToFill := goodIn_ca (goodIn_r _ [8, 9, 10, 11, 12, 13, 7, 14, 15, 16, 17, 18, 43, 44, 45, 46, 47, 48, 49, 50] (by decide +kernel) (by decide +kernel)) (goodIn_sub (fun _ h => List.mem_cons_of_mem _ (List.mem_append_right _ h)) (by decide +kernel))
set_option maxRecDepth 20000 in
theorem gX2_addRow_X2_tableToFill : GoodIn wsX2_addRow (wsV RX2 44 RX2 yX2_tableToFill wsX2_tableToFill) := goodIn_app (goodIn_of _ (by decide +kernel)) ggX2_addRow_X2_tableToFill
set_option maxRecDepth 20000 in
theorem ggX2_addRow_X2_requireKey : GoodIn wsX2_addRow wsX2_requireKey := goodIn_ca (goodIn_r _ [21, 9, 10, 22, 23, 7, 24] (by decide +kernel) (by decide +kernel)) (goodIn_sub (fun _ h => List.mem_cons_of_mem _ (List.mem_append_right _ h)) (by decide +kernel))
set_option maxRecDepth 20000 in
theorem gX2_addRow_X2_requireKey : GoodIn wsX2_addRow (va_wsS RX2 88 yX2_requireKey wsX2_requireKey) := goodIn_app (goodIn_of _ (by decide +kernel)) ggX2_addRow_X2_requireKey
set_option maxRecDepth 20000 in
theorem ggX2_addRow_X1_hasRow : GoodIn wsX2_addRow wsX1_hasRow := goodIn_r _ [28, 29, 51, 52, 53, 54] (by decide +kernel) (by decide +kernel)
set_option maxRecDepth 20000 in
theorem gX2_addRow_X1_hasRow_n91 : GoodIn wsX2_addRow (wsX1_hasRow) := ggX2_addRow_X1_hasRow
set_option maxRecDepth 20000 in
theorem ggX2_addRow_X1_putRow : GoodIn wsX2_addRow wsX1_putRow := goodIn_r _ [32, 29, 23, 7, 24, 51, 52, 53, 54] (by decide +kernel) (by decide +kernel)
set_option maxRecDepth 20000 in
theorem gX2_addRow_X1_putRow_n96 : GoodIn wsX2_addRow (wsX1_putRow) := ggX2_addRow_X1_putRow
set_option maxRecDepth 20000 in
theorem ggX2_addRow_X1_rowCount : GoodIn wsX2_addRow wsX1_rowCount := goodIn_r _ [35, 29, 36, 37, 38, 39, 40, 41, 42, 51, 52, 53, 54] (by decide +kernel) (by decide +kernel)
set_option maxRecDepth 20000 in
theorem gX2_addRow_X1_rowCount_n99 : GoodIn wsX2_addRow (wsX1_rowCount) := ggX2_addRow_X1_rowCount
theorem dX2_addRow_0 : decode cX2_addRow 0 = .ok (.aload_n 0, 1) := by decide +kernel
theorem dX2_addRow_1 : decode cX2_addRow 1 = .ok (.iload_n 1, 1) := by decide +kernel
theorem dX2_addRow_2 : decode cX2_addRow 2 = .ok (.invokevirtual 44, 3) := by decide +kernel
theorem dX2_addRow_5 : decode cX2_addRow 5 = .ok (.astore_n 3, 1) := by decide +kernel
theorem dX2_addRow_6 : decode cX2_addRow 6 = .ok (.iload_n 2, 1) := by decide +kernel
theorem dX2_addRow_7 : decode cX2_addRow 7 = .ok (.invokestatic 88, 3) := by decide +kernel
theorem dX2_addRow_10 : decode cX2_addRow 10 = .ok (.aload_n 3, 1) := by decide +kernel
theorem dX2_addRow_11 : decode cX2_addRow 11 = .ok (.iload_n 2, 1) := by decide +kernel
theorem dX2_addRow_12 : decode cX2_addRow 12 = .ok (.invokevirtual 91, 3) := by decide +kernel
theorem dX2_addRow_15 : decode cX2_addRow 15 = .ok (.ifCond .eq 13, 3) := by decide +kernel
theorem dX2_addRow_18 : decode cX2_addRow 18 = .ok (.new 59, 3) := by decide +kernel
theorem dX2_addRow_21 : decode cX2_addRow 21 = .ok (.dup, 1) := by decide +kernel
theorem dX2_addRow_22 : decode cX2_addRow 22 = .ok (.ldc 94, 2) := by decide +kernel
theorem dX2_addRow_24 : decode cX2_addRow 24 = .ok (.invokespecial 63, 3) := by decide +kernel
theorem dX2_addRow_27 : decode cX2_addRow 27 = .ok (.athrow, 1) := by decide +kernel
theorem dX2_addRow_28 : decode cX2_addRow 28 = .ok (.aload_n 3, 1) := by decide +kernel
theorem dX2_addRow_29 : decode cX2_addRow 29 = .ok (.iload_n 2, 1) := by decide +kernel
theorem dX2_addRow_30 : decode cX2_addRow 30 = .ok (.invokevirtual 96, 3) := by decide +kernel
theorem dX2_addRow_33 : decode cX2_addRow 33 = .ok (.aload_n 0, 1) := by decide +kernel
theorem dX2_addRow_34 : decode cX2_addRow 34 = .ok (.iconst 0, 1) := by decide +kernel
theorem dX2_addRow_35 : decode cX2_addRow 35 = .ok (.putfield 40, 3) := by decide +kernel
theorem dX2_addRow_38 : decode cX2_addRow 38 = .ok (.aload_n 3, 1) := by decide +kernel
theorem dX2_addRow_39 : decode cX2_addRow 39 = .ok (.invokevirtual 99, 3) := by decide +kernel
theorem dX2_addRow_42 : decode cX2_addRow 42 = .ok (.ireturn, 1) := by decide +kernel
set_option maxRecDepth 20000 in
theorem ggX2_removeRow_X2_tableToFill : GoodIn wsX2_removeRow wsX2_tableToFill := goodIn_ca (goodIn_r _ [6, 7, 8, 9, 10, 11, 5, 12, 13, 14, 15, 16, 53, 54, 55, 56, 57, 58, 59, 60] (by decide +kernel) (by decide +kernel)) (goodIn_sub (fun _ h => List.mem_cons_of_mem _ (List.mem_append_right _ h)) (by decide +kernel))
set_option maxRecDepth 20000 in
theorem gX2_removeRow_X2_tableToFill : GoodIn wsX2_removeRow (wsV RX2 44 RX2 yX2_tableToFill wsX2_tableToFill) := goodIn_app (goodIn_of _ (by decide +kernel)) ggX2_removeRow_X2_tableToFill
set_option maxRecDepth 20000 in
theorem ggX2_removeRow_X2_requireRowOf : GoodIn wsX2_removeRow wsX2_requireRowOf := goodIn_ca (goodIn_r _ [19, 7, 8, 20, 21, 22, 23, 24, 61, 62, 63, 64] (by decide +kernel) (by decide +kernel)) (goodIn_sub (fun _ h => List.mem_cons_of_mem _ (List.mem_append_right _ h)) (by decide +kernel))
set_option maxRecDepth 20000 in
theorem gX2_removeRow_X2_requireRowOf : GoodIn wsX2_removeRow (va_wsS RX2 102 yX2_requireRowOf wsX2_requireRowOf) := goodIn_app (goodIn_of _ (by decide +kernel)) ggX2_removeRow_X2_requireRowOf
set_option maxRecDepth 20000 in
theorem ggX2_removeRow_X1_cutRow : GoodIn wsX2_removeRow wsX1_cutRow := goodIn_r _ [27, 24, 28, 20, 22, 21, 23, 29, 30, 31, 32, 33, 34, 35, 36, 37, 38, 39, 40, 41, 42, 61, 62, 63, 64] (by decide +kernel) (by decide +kernel)
set_option maxRecDepth 20000 in
theorem gX2_removeRow_X1_cutRow_n105 : GoodIn wsX2_removeRow (wsX1_cutRow) := ggX2_removeRow_X1_cutRow
set_option maxRecDepth 20000 in
theorem ggX2_removeRow_X1_rowCount : GoodIn wsX2_removeRow wsX1_rowCount := goodIn_r _ [45, 24, 46, 47, 48, 49, 50, 51, 52, 61, 62, 63, 64] (by decide +kernel) (by decide +kernel)
set_option maxRecDepth 20000 in
theorem gX2_removeRow_X1_rowCount_n99 : GoodIn wsX2_removeRow (wsX1_rowCount) := ggX2_removeRow_X1_rowCount
theorem dX2_removeRow_0 : decode cX2_removeRow 0 = .ok (.aload_n 0, 1) := by decide +kernel
theorem dX2_removeRow_1 : decode cX2_removeRow 1 = .ok (.iload_n 1, 1) := by decide +kernel
theorem dX2_removeRow_2 : decode cX2_removeRow 2 = .ok (.invokevirtual 44, 3) := by decide +kernel
theorem dX2_removeRow_5 : decode cX2_removeRow 5 = .ok (.astore_n 3, 1) := by decide +kernel
theorem dX2_removeRow_6 : decode cX2_removeRow 6 = .ok (.aload_n 3, 1) := by decide +kernel
theorem dX2_removeRow_7 : decode cX2_removeRow 7 = .ok (.iload_n 2, 1) := by decide +kernel
theorem dX2_removeRow_8 : decode cX2_removeRow 8 = .ok (.invokestatic 102, 3) := by decide +kernel
theorem dX2_removeRow_11 : decode cX2_removeRow 11 = .ok (.aload_n 3, 1) := by decide +kernel
theorem dX2_removeRow_12 : decode cX2_removeRow 12 = .ok (.iload_n 2, 1) := by decide +kernel
theorem dX2_removeRow_13 : decode cX2_removeRow 13 = .ok (.invokevirtual 105, 3) := by decide +kernel
theorem dX2_removeRow_16 : decode cX2_removeRow 16 = .ok (.aload_n 0, 1) := by decide +kernel
theorem dX2_removeRow_17 : decode cX2_removeRow 17 = .ok (.iconst 0, 1) := by decide +kernel
theorem dX2_removeRow_18 : decode cX2_removeRow 18 = .ok (.putfield 40, 3) := by decide +kernel
theorem dX2_removeRow_21 : decode cX2_removeRow 21 = .ok (.aload_n 3, 1) := by decide +kernel
theorem dX2_removeRow_22 : decode cX2_removeRow 22 = .ok (.invokevirtual 99, 3) := by decide +kernel
theorem dX2_removeRow_25 : decode cX2_removeRow 25 = .ok (.ireturn, 1) := by decide +kernel
set_option maxRecDepth 20000 in
theorem ggX2_set_X2_tableToFill : GoodIn wsX2_set wsX2_tableToFill := goodIn_ca (goodIn_r _ [8, 9, 10, 11, 12, 13, 7, 14, 15, 16, 17, 18, 47, 48, 49, 50, 51, 52, 53, 54] (by decide +kernel) (by decide +kernel)) (goodIn_sub (fun _ h => List.mem_cons_of_mem _ (List.mem_append_right _ h)) (by decide +kernel))
set_option maxRecDepth 20000 in
theorem gX2_set_X2_tableToFill : GoodIn wsX2_set (wsV RX2 44 RX2 yX2_tableToFill wsX2_tableToFill) := goodIn_app (goodIn_of _ (by decide +kernel)) ggX2_set_X2_tableToFill
set_option maxRecDepth 20000 in
theorem ggX2_set_X2_requireRowOf : GoodIn wsX2_set wsX2_requireRowOf := goodIn_ca (goodIn_r _ [21, 9, 10, 22, 23, 24, 25, 26, 55, 56, 57, 58] (by decide +kernel) (by decide +kernel)) (goodIn_sub (fun _ h => List.mem_cons_of_mem _ (List.mem_append_right _ h)) (by decide +kernel))
set_option maxRecDepth 20000 in
theorem gX2_set_X2_requireRowOf : GoodIn wsX2_set (va_wsS RX2 102 yX2_requireRowOf wsX2_requireRowOf) := goodIn_app (goodIn_of _ (by decide +kernel)) ggX2_set_X2_requireRowOf
set_option maxRecDepth 20000 in
theorem ggX2_set_X2_requireColumnOf : GoodIn wsX2_set wsX2_requireColumnOf := goodIn_ca (goodIn_r _ [29, 9, 10, 30, 23, 31, 32, 33, 55, 56, 57, 58] (by decide +kernel) (by decide +kernel)) (goodIn_sub (fun _ h => List.mem_cons_of_mem _ (List.mem_append_right _ h)) (by decide +kernel))
set_option maxRecDepth 20000 in
theorem gX2_set_X2_requireColumnOf : GoodIn wsX2_set (va_wsS RX2 74 yX2_requireColumnOf wsX2_requireColumnOf) := goodIn_app (goodIn_of _ (by decide +kernel)) ggX2_set_X2_requireColumnOf
set_option maxRecDepth 20000 in
theorem ggX2_set_X1_cellAt : GoodIn wsX2_set wsX1_cellAt := goodIn_r _ [36, 37, 38, 39, 40, 23, 41, 42, 22, 24, 25, 26, 43, 30, 31, 32, 33, 55, 56, 57, 58] (by decide +kernel) (by decide +kernel)
set_option maxRecDepth 20000 in
theorem gX2_set_X1_cellAt_n113 : GoodIn wsX2_set (wsX1_cellAt) := ggX2_set_X1_cellAt
set_option maxRecDepth 20000 in
theorem ggX2_set_X1_putCell : GoodIn wsX2_set wsX1_putCell := goodIn_r _ [46, 37, 38, 39, 40, 23, 41, 42, 22, 24, 25, 26, 43, 30, 31, 32, 33, 55, 56, 57, 58] (by decide +kernel) (by decide +kernel)
set_option maxRecDepth 20000 in
theorem gX2_set_X1_putCell_n117 : GoodIn wsX2_set (wsX1_putCell) := ggX2_set_X1_putCell
theorem dX2_set_0 : decode cX2_set 0 = .ok (.aload_n 0, 1) := by decide +kernel
theorem dX2_set_1 : decode cX2_set 1 = .ok (.iload_n 1, 1) := by decide +kernel
theorem dX2_set_2 : decode cX2_set 2 = .ok (.invokevirtual 44, 3) := by decide +kernel
theorem dX2_set_5 : decode cX2_set 5 = .ok (.astore 5, 2) := by decide +kernel
theorem dX2_set_7 : decode cX2_set 7 = .ok (.aload 5, 2) := by decide +kernel
theorem dX2_set_9 : decode cX2_set 9 = .ok (.iload_n 2, 1) := by decide +kernel
theorem dX2_set_10 : decode cX2_set 10 = .ok (.invokestatic 102, 3) := by decide +kernel
theorem dX2_set_13 : decode cX2_set 13 = .ok (.aload 5, 2) := by decide +kernel
theorem dX2_set_15 : decode cX2_set 15 = .ok (.iload_n 3, 1) := by decide +kernel
theorem dX2_set_16 : decode cX2_set 16 = .ok (.invokestatic 74, 3) := by decide +kernel
theorem dX2_set_19 : decode cX2_set 19 = .ok (.iload 4, 2) := by decide +kernel
theorem dX2_set_21 : decode cX2_set 21 = .ok (.sipush (-9999), 3) := by decide +kernel
theorem dX2_set_24 : decode cX2_set 24 = .ok (.if_icmp .lt 11, 3) := by decide +kernel
theorem dX2_set_27 : decode cX2_set 27 = .ok (.iload 4, 2) := by decide +kernel
theorem dX2_set_29 : decode cX2_set 29 = .ok (.sipush 9999, 3) := by decide +kernel
theorem dX2_set_32 : decode cX2_set 32 = .ok (.if_icmp .le 13, 3) := by decide +kernel
theorem dX2_set_35 : decode cX2_set 35 = .ok (.new 108, 3) := by decide +kernel
theorem dX2_set_38 : decode cX2_set 38 = .ok (.dup, 1) := by decide +kernel
theorem dX2_set_39 : decode cX2_set 39 = .ok (.ldc 110, 2) := by decide +kernel
theorem dX2_set_41 : decode cX2_set 41 = .ok (.invokespecial 112, 3) := by decide +kernel
theorem dX2_set_44 : decode cX2_set 44 = .ok (.athrow, 1) := by decide +kernel
theorem dX2_set_45 : decode cX2_set 45 = .ok (.aload 5, 2) := by decide +kernel
theorem dX2_set_47 : decode cX2_set 47 = .ok (.iload_n 2, 1) := by decide +kernel
theorem dX2_set_48 : decode cX2_set 48 = .ok (.iload_n 3, 1) := by decide +kernel
theorem dX2_set_49 : decode cX2_set 49 = .ok (.invokevirtual 113, 3) := by decide +kernel
theorem dX2_set_52 : decode cX2_set 52 = .ok (.istore 6, 2) := by decide +kernel
theorem dX2_set_54 : decode cX2_set 54 = .ok (.aload 5, 2) := by decide +kernel
theorem dX2_set_56 : decode cX2_set 56 = .ok (.iload_n 2, 1) := by decide +kernel
theorem dX2_set_57 : decode cX2_set 57 = .ok (.iload_n 3, 1) := by decide +kernel
theorem dX2_set_58 : decode cX2_set 58 = .ok (.iload 4, 2) := by decide +kernel
theorem dX2_set_60 : decode cX2_set 60 = .ok (.invokevirtual 117, 3) := by decide +kernel
theorem dX2_set_63 : decode cX2_set 63 = .ok (.aload_n 0, 1) := by decide +kernel
theorem dX2_set_64 : decode cX2_set 64 = .ok (.iconst 0, 1) := by decide +kernel
theorem dX2_set_65 : decode cX2_set 65 = .ok (.putfield 40, 3) := by decide +kernel
theorem dX2_set_68 : decode cX2_set 68 = .ok (.iload 6, 2) := by decide +kernel
theorem dX2_set_70 : decode cX2_set 70 = .ok (.ireturn, 1) := by decide +kernel
set_option maxRecDepth 20000 in
theorem ggX2_setRule_X2_requireColumnNumber : GoodIn wsX2_setRule wsX2_requireColumnNumber := goodIn_ca (goodIn_r _ [8, 9, 10, 11, 12, 7, 13] (by decide +kernel) (by decide +kernel)) (goodIn_sub (fun _ h => List.mem_cons_of_mem _ (List.mem_append_right _ h)) (by decide +kernel))
set_option maxRecDepth 20000 in
theorem gX2_setRule_X2_requireColumnNumber : GoodIn wsX2_setRule (va_wsS RX2 48 yX2_requireColumnNumber wsX2_requireColumnNumber) := goodIn_app (goodIn_of _ (by decide +kernel)) ggX2_setRule_X2_requireColumnNumber
theorem dX2_setRule_0 : decode cX2_setRule 0 = .ok (.iload_n 1, 1) := by decide +kernel
theorem dX2_setRule_1 : decode cX2_setRule 1 = .ok (.invokestatic 48, 3) := by decide +kernel
theorem dX2_setRule_4 : decode cX2_setRule 4 = .ok (.iload_n 2, 1) := by decide +kernel
theorem dX2_setRule_5 : decode cX2_setRule 5 = .ok (.ifCond .lt 8, 3) := by decide +kernel
theorem dX2_setRule_8 : decode cX2_setRule 8 = .ok (.iload_n 2, 1) := by decide +kernel
theorem dX2_setRule_9 : decode cX2_setRule 9 = .ok (.iconst 3, 1) := by decide +kernel
theorem dX2_setRule_10 : decode cX2_setRule 10 = .ok (.if_icmp .le 13, 3) := by decide +kernel
theorem dX2_setRule_13 : decode cX2_setRule 13 = .ok (.new 108, 3) := by decide +kernel
theorem dX2_setRule_16 : decode cX2_setRule 16 = .ok (.dup, 1) := by decide +kernel
theorem dX2_setRule_17 : decode cX2_setRule 17 = .ok (.ldc 121, 2) := by decide +kernel
theorem dX2_setRule_19 : decode cX2_setRule 19 = .ok (.invokespecial 112, 3) := by decide +kernel
theorem dX2_setRule_22 : decode cX2_setRule 22 = .ok (.athrow, 1) := by decide +kernel
theorem dX2_setRule_23 : decode cX2_setRule 23 = .ok (.aload_n 0, 1) := by decide +kernel
theorem dX2_setRule_24 : decode cX2_setRule 24 = .ok (.getfield 25, 3) := by decide +kernel
theorem dX2_setRule_27 : decode cX2_setRule 27 = .ok (.iload_n 1, 1) := by decide +kernel
theorem dX2_setRule_28 : decode cX2_setRule 28 = .ok (.iaload, 1) := by decide +kernel
theorem dX2_setRule_29 : decode cX2_setRule 29 = .ok (.istore_n 3, 1) := by decide +kernel
theorem dX2_setRule_30 : decode cX2_setRule 30 = .ok (.aload_n 0, 1) := by decide +kernel
theorem dX2_setRule_31 : decode cX2_setRule 31 = .ok (.getfield 25, 3) := by decide +kernel
theorem dX2_setRule_34 : decode cX2_setRule 34 = .ok (.iload_n 1, 1) := by decide +kernel
theorem dX2_setRule_35 : decode cX2_setRule 35 = .ok (.iload_n 2, 1) := by decide +kernel
theorem dX2_setRule_36 : decode cX2_setRule 36 = .ok (.iastore, 1) := by decide +kernel
theorem dX2_setRule_37 : decode cX2_setRule 37 = .ok (.aload_n 0, 1) := by decide +kernel
theorem dX2_setRule_38 : decode cX2_setRule 38 = .ok (.iconst 0, 1) := by decide +kernel
theorem dX2_setRule_39 : decode cX2_setRule 39 = .ok (.putfield 40, 3) := by decide +kernel
theorem dX2_setRule_42 : decode cX2_setRule 42 = .ok (.iload_n 3, 1) := by decide +kernel
theorem dX2_setRule_43 : decode cX2_setRule 43 = .ok (.ireturn, 1) := by decide +kernel
set_option maxRecDepth 20000 in
theorem ggX2_setReference_X2_requireColumnNumber : GoodIn wsX2_setReference wsX2_requireColumnNumber := goodIn_ca (goodIn_r _ [6, 7, 8, 9, 10, 5, 11] (by decide +kernel) (by decide +kernel)) (goodIn_sub (fun _ h => List.mem_cons_of_mem _ (List.mem_append_right _ h)) (by decide +kernel))
set_option maxRecDepth 20000 in
theorem gX2_setReference_X2_requireColumnNumber : GoodIn wsX2_setReference (va_wsS RX2 48 yX2_requireColumnNumber wsX2_requireColumnNumber) := goodIn_app (goodIn_of _ (by decide +kernel)) ggX2_setReference_X2_requireColumnNumber
theorem dX2_setReference_0 : decode cX2_setReference 0 = .ok (.iload_n 1, 1) := by decide +kernel
theorem dX2_setReference_1 : decode cX2_setReference 1 = .ok (.invokestatic 48, 3) := by decide +kernel
theorem dX2_setReference_4 : decode cX2_setReference 4 = .ok (.aload_n 0, 1) := by decide +kernel
theorem dX2_setReference_5 : decode cX2_setReference 5 = .ok (.getfield 29, 3) := by decide +kernel
theorem dX2_setReference_8 : decode cX2_setReference 8 = .ok (.iload_n 1, 1) := by decide +kernel
theorem dX2_setReference_9 : decode cX2_setReference 9 = .ok (.baload, 1) := by decide +kernel
theorem dX2_setReference_10 : decode cX2_setReference 10 = .ok (.istore_n 3, 1) := by decide +kernel
theorem dX2_setReference_11 : decode cX2_setReference 11 = .ok (.aload_n 0, 1) := by decide +kernel
theorem dX2_setReference_12 : decode cX2_setReference 12 = .ok (.getfield 29, 3) := by decide +kernel
theorem dX2_setReference_15 : decode cX2_setReference 15 = .ok (.iload_n 1, 1) := by decide +kernel
theorem dX2_setReference_16 : decode cX2_setReference 16 = .ok (.iload_n 2, 1) := by decide +kernel
theorem dX2_setReference_17 : decode cX2_setReference 17 = .ok (.bastore, 1) := by decide +kernel
theorem dX2_setReference_18 : decode cX2_setReference 18 = .ok (.aload_n 0, 1) := by decide +kernel
theorem dX2_setReference_19 : decode cX2_setReference 19 = .ok (.iconst 0, 1) := by decide +kernel
theorem dX2_setReference_20 : decode cX2_setReference 20 = .ok (.putfield 40, 3) := by decide +kernel
theorem dX2_setReference_23 : decode cX2_setReference 23 = .ok (.iload_n 3, 1) := by decide +kernel
theorem dX2_setReference_24 : decode cX2_setReference 24 = .ok (.iload_n 2, 1) := by decide +kernel
theorem dX2_setReference_25 : decode cX2_setReference 25 = .ok (.if_icmp .eq 7, 3) := by decide +kernel
theorem dX2_setReference_28 : decode cX2_setReference 28 = .ok (.iconst 1, 1) := by decide +kernel
theorem dX2_setReference_29 : decode cX2_setReference 29 = .ok (.goto 4, 3) := by decide +kernel
theorem dX2_setReference_32 : decode cX2_setReference 32 = .ok (.iconst 0, 1) := by decide +kernel
theorem dX2_setReference_33 : decode cX2_setReference 33 = .ok (.ireturn, 1) := by decide +kernel
set_option maxRecDepth 20000 in
theorem ggX2_columns_X2_tableToRead : GoodIn wsX2_columns wsX2_tableToRead := goodIn_ca (goodIn_r _ [5, 6, 7, 8, 9, 10, 11, 16, 17, 18, 19, 20, 21, 22, 23] (by decide +kernel) (by decide +kernel)) (goodIn_sub (fun _ h => List.mem_cons_of_mem _ (List.mem_append_right _ h)) (by decide +kernel))
set_option maxRecDepth 20000 in
theorem gX2_columns_X2_tableToRead : GoodIn wsX2_columns (wsV RX2 123 RX2 yX2_tableToRead wsX2_tableToRead) := goodIn_app (goodIn_of _ (by decide +kernel)) ggX2_columns_X2_tableToRead
theorem dX2_columns_0 : decode cX2_columns 0 = .ok (.aload_n 0, 1) := by decide +kernel
theorem dX2_columns_1 : decode cX2_columns 1 = .ok (.iload_n 1, 1) := by decide +kernel
theorem dX2_columns_2 : decode cX2_columns 2 = .ok (.invokevirtual 123, 3) := by decide +kernel
theorem dX2_columns_5 : decode cX2_columns 5 = .ok (.getfield 126, 3) := by decide +kernel
theorem dX2_columns_8 : decode cX2_columns 8 = .ok (.ireturn, 1) := by decide +kernel
set_option maxRecDepth 20000 in
theorem ggX2_rows_X2_tableToRead : GoodIn wsX2_rows wsX2_tableToRead := goodIn_ca (goodIn_r _ [5, 6, 7, 8, 9, 10, 11, 16, 17, 18, 19, 20, 21, 22, 23] (by decide +kernel) (by decide +kernel)) (goodIn_sub (fun _ h => List.mem_cons_of_mem _ (List.mem_append_right _ h)) (by decide +kernel))
set_option maxRecDepth 20000 in
theorem gX2_rows_X2_tableToRead : GoodIn wsX2_rows (wsV RX2 123 RX2 yX2_tableToRead wsX2_tableToRead) := goodIn_app (goodIn_of _ (by decide +kernel)) ggX2_rows_X2_tableToRead
theorem dX2_rows_0 : decode cX2_rows 0 = .ok (.aload_n 0, 1) := by decide +kernel
theorem dX2_rows_1 : decode cX2_rows 1 = .ok (.iload_n 1, 1) := by decide +kernel
theorem dX2_rows_2 : decode cX2_rows 2 = .ok (.invokevirtual 123, 3) := by decide +kernel
theorem dX2_rows_5 : decode cX2_rows 5 = .ok (.getfield 130, 3) := by decide +kernel
theorem dX2_rows_8 : decode cX2_rows 8 = .ok (.ireturn, 1) := by decide +kernel
set_option maxRecDepth 20000 in
theorem ggX2_name_X2_tableToRead : GoodIn wsX2_name wsX2_tableToRead := goodIn_ca (goodIn_r _ [5, 6, 7, 8, 9, 10, 11, 25, 26, 27, 28, 29, 30, 31, 32] (by decide +kernel) (by decide +kernel)) (goodIn_sub (fun _ h => List.mem_cons_of_mem _ (List.mem_append_right _ h)) (by decide +kernel))
set_option maxRecDepth 20000 in
theorem gX2_name_X2_tableToRead : GoodIn wsX2_name (wsV RX2 123 RX2 yX2_tableToRead wsX2_tableToRead) := goodIn_app (goodIn_of _ (by decide +kernel)) ggX2_name_X2_tableToRead
set_option maxRecDepth 20000 in
theorem ggX2_name_X2_requireColumnOf : GoodIn wsX2_name wsX2_requireColumnOf := goodIn_ca (goodIn_r _ [14, 6, 7, 15, 16, 17, 18, 19, 33, 34, 35, 36] (by decide +kernel) (by decide +kernel)) (goodIn_sub (fun _ h => List.mem_cons_of_mem _ (List.mem_append_right _ h)) (by decide +kernel))
set_option maxRecDepth 20000 in
theorem gX2_name_X2_requireColumnOf : GoodIn wsX2_name (va_wsS RX2 74 yX2_requireColumnOf wsX2_requireColumnOf) := goodIn_app (goodIn_of _ (by decide +kernel)) ggX2_name_X2_requireColumnOf
set_option maxRecDepth 20000 in
theorem ggX2_name_X1_nameAt : GoodIn wsX2_name wsX1_nameAt := goodIn_r _ [22, 23, 24, 15, 17, 16, 18, 19, 33, 34, 35, 36] (by decide +kernel) (by decide +kernel)
set_option maxRecDepth 20000 in
theorem gX2_name_X1_nameAt_n78 : GoodIn wsX2_name (wsX1_nameAt) := ggX2_name_X1_nameAt
theorem dX2_name_0 : decode cX2_name 0 = .ok (.aload_n 0, 1) := by decide +kernel
theorem dX2_name_1 : decode cX2_name 1 = .ok (.iload_n 1, 1) := by decide +kernel
theorem dX2_name_2 : decode cX2_name 2 = .ok (.invokevirtual 123, 3) := by decide +kernel
theorem dX2_name_5 : decode cX2_name 5 = .ok (.astore_n 3, 1) := by decide +kernel
theorem dX2_name_6 : decode cX2_name 6 = .ok (.aload_n 3, 1) := by decide +kernel
theorem dX2_name_7 : decode cX2_name 7 = .ok (.iload_n 2, 1) := by decide +kernel
theorem dX2_name_8 : decode cX2_name 8 = .ok (.invokestatic 74, 3) := by decide +kernel
theorem dX2_name_11 : decode cX2_name 11 = .ok (.aload_n 3, 1) := by decide +kernel
theorem dX2_name_12 : decode cX2_name 12 = .ok (.iload_n 2, 1) := by decide +kernel
theorem dX2_name_13 : decode cX2_name 13 = .ok (.invokevirtual 78, 3) := by decide +kernel
theorem dX2_name_16 : decode cX2_name 16 = .ok (.ireturn, 1) := by decide +kernel
set_option maxRecDepth 20000 in
theorem ggX2_get_X2_tableToRead : GoodIn wsX2_get wsX2_tableToRead := goodIn_ca (goodIn_r _ [5, 6, 7, 8, 9, 10, 11, 37, 38, 39, 40, 41, 42, 43, 44] (by decide +kernel) (by decide +kernel)) (goodIn_sub (fun _ h => List.mem_cons_of_mem _ (List.mem_append_right _ h)) (by decide +kernel))
set_option maxRecDepth 20000 in
theorem gX2_get_X2_tableToRead : GoodIn wsX2_get (wsV RX2 123 RX2 yX2_tableToRead wsX2_tableToRead) := goodIn_app (goodIn_of _ (by decide +kernel)) ggX2_get_X2_tableToRead
set_option maxRecDepth 20000 in
theorem ggX2_get_X2_requireRowOf : GoodIn wsX2_get wsX2_requireRowOf := goodIn_ca (goodIn_r _ [14, 6, 7, 15, 16, 17, 18, 19, 45, 46, 47, 48] (by decide +kernel) (by decide +kernel)) (goodIn_sub (fun _ h => List.mem_cons_of_mem _ (List.mem_append_right _ h)) (by decide +kernel))
set_option maxRecDepth 20000 in
theorem gX2_get_X2_requireRowOf : GoodIn wsX2_get (va_wsS RX2 102 yX2_requireRowOf wsX2_requireRowOf) := goodIn_app (goodIn_of _ (by decide +kernel)) ggX2_get_X2_requireRowOf
set_option maxRecDepth 20000 in
theorem ggX2_get_X2_requireColumnOf : GoodIn wsX2_get wsX2_requireColumnOf := goodIn_ca (goodIn_r _ [22, 6, 7, 23, 16, 24, 25, 26, 45, 46, 47, 48] (by decide +kernel) (by decide +kernel)) (goodIn_sub (fun _ h => List.mem_cons_of_mem _ (List.mem_append_right _ h)) (by decide +kernel))
set_option maxRecDepth 20000 in
theorem gX2_get_X2_requireColumnOf : GoodIn wsX2_get (va_wsS RX2 74 yX2_requireColumnOf wsX2_requireColumnOf) := goodIn_app (goodIn_of _ (by decide +kernel)) ggX2_get_X2_requireColumnOf
set_option maxRecDepth 20000 in
theorem ggX2_get_X1_cellAt : GoodIn wsX2_get wsX1_cellAt := goodIn_r _ [29, 30, 31, 32, 33, 16, 34, 35, 15, 17, 18, 19, 36, 23, 24, 25, 26, 45, 46, 47, 48] (by decide +kernel) (by decide +kernel)
set_option maxRecDepth 20000 in
theorem gX2_get_X1_cellAt_n113 : GoodIn wsX2_get (wsX1_cellAt) := ggX2_get_X1_cellAt
theorem dX2_get_0 : decode cX2_get 0 = .ok (.aload_n 0, 1) := by decide +kernel
theorem dX2_get_1 : decode cX2_get 1 = .ok (.iload_n 1, 1) := by decide +kernel
theorem dX2_get_2 : decode cX2_get 2 = .ok (.invokevirtual 123, 3) := by decide +kernel
theorem dX2_get_5 : decode cX2_get 5 = .ok (.astore 4, 2) := by decide +kernel
theorem dX2_get_7 : decode cX2_get 7 = .ok (.aload 4, 2) := by decide +kernel
theorem dX2_get_9 : decode cX2_get 9 = .ok (.iload_n 2, 1) := by decide +kernel
theorem dX2_get_10 : decode cX2_get 10 = .ok (.invokestatic 102, 3) := by decide +kernel
theorem dX2_get_13 : decode cX2_get 13 = .ok (.aload 4, 2) := by decide +kernel
theorem dX2_get_15 : decode cX2_get 15 = .ok (.iload_n 3, 1) := by decide +kernel
theorem dX2_get_16 : decode cX2_get 16 = .ok (.invokestatic 74, 3) := by decide +kernel
theorem dX2_get_19 : decode cX2_get 19 = .ok (.aload 4, 2) := by decide +kernel
theorem dX2_get_21 : decode cX2_get 21 = .ok (.iload_n 2, 1) := by decide +kernel
theorem dX2_get_22 : decode cX2_get 22 = .ok (.iload_n 3, 1) := by decide +kernel
theorem dX2_get_23 : decode cX2_get 23 = .ok (.invokevirtual 113, 3) := by decide +kernel
theorem dX2_get_26 : decode cX2_get 26 = .ok (.ireturn, 1) := by decide +kernel
set_option maxRecDepth 20000 in
theorem ggX2_changes_X2_sideTable : GoodIn wsX2_changes wsX2_sideTable := goodIn_ca (goodIn_r _ [6, 7, 8, 9, 10, 54, 55, 56, 57, 58, 59, 60, 61] (by decide +kernel) (by decide +kernel)) (goodIn_sub (fun _ h => List.mem_cons_of_mem _ (List.mem_append_right _ h)) (by decide +kernel))
set_option maxRecDepth 20000 in
theorem gX2_changes_X2_sideTable : GoodIn wsX2_changes (wsV RX2 133 RX2 yX2_sideTable wsX2_sideTable) := goodIn_app (goodIn_of _ (by decide +kernel)) ggX2_changes_X2_sideTable
set_option maxRecDepth 20000 in
theorem ggX2_changes_X1_countChangesFrom : GoodIn wsX2_changes wsX1_countChangesFrom := goodIn_r _ [14, 15, 16, 17, 18, 19, 20, 21, 22, 23, 24, 25, 26, 12, 27, 28, 29, 30, 31, 32, 33, 34, 35, 36, 37, 38, 39, 40, 41, 42, 43, 44, 45, 46, 47, 48, 49, 50, 51, 52, 53, 62, 63, 64, 65] (by decide +kernel) (by decide +kernel)
set_option maxRecDepth 20000 in
theorem gX2_changes_X1_countChangesFrom_n136 : GoodIn wsX2_changes (wsX1_countChangesFrom) := ggX2_changes_X1_countChangesFrom
theorem dX2_changes_0 : decode cX2_changes 0 = .ok (.aload_n 0, 1) := by decide +kernel
theorem dX2_changes_1 : decode cX2_changes 1 = .ok (.iload_n 1, 1) := by decide +kernel
theorem dX2_changes_2 : decode cX2_changes 2 = .ok (.invokevirtual 133, 3) := by decide +kernel
theorem dX2_changes_5 : decode cX2_changes 5 = .ok (.aload_n 0, 1) := by decide +kernel
theorem dX2_changes_6 : decode cX2_changes 6 = .ok (.getfield 10, 3) := by decide +kernel
theorem dX2_changes_9 : decode cX2_changes 9 = .ok (.invokevirtual 136, 3) := by decide +kernel
theorem dX2_changes_12 : decode cX2_changes 12 = .ok (.ireturn, 1) := by decide +kernel
set_option maxRecDepth 20000 in
theorem ggX2_fork_X1_becomeLike : GoodIn wsX2_fork wsX1_becomeLike := goodIn_r _ [10, 11, 12, 13, 14, 15, 16, 17, 18, 58, 59, 60, 61] (by decide +kernel) (by decide +kernel)
set_option maxRecDepth 20000 in
theorem gX2_fork_X1_becomeLike_n140 : GoodIn wsX2_fork (wsX1_becomeLike) := ggX2_fork_X1_becomeLike
set_option maxRecDepth 20000 in
theorem ggX2_fork_X1_becomeEmpty : GoodIn wsX2_fork wsX1_becomeEmpty := goodIn_r _ [21, 11, 12, 13, 18, 22, 23, 24, 25, 58, 59, 60, 61] (by decide +kernel) (by decide +kernel)
set_option maxRecDepth 20000 in
theorem gX2_fork_X1_becomeEmpty_n144 : GoodIn wsX2_fork (wsX1_becomeEmpty) := ggX2_fork_X1_becomeEmpty
set_option maxRecDepth 20000 in
theorem ggX2_fork_X0_becomeEmpty : GoodIn wsX2_fork wsX0_becomeEmpty := goodIn_r _ [29, 30, 31, 62, 63, 64, 65, 66, 67] (by decide +kernel) (by decide +kernel)
set_option maxRecDepth 20000 in
theorem gX2_fork_X0_becomeEmpty_n147 : GoodIn wsX2_fork (wsX0_becomeEmpty) := ggX2_fork_X0_becomeEmpty
set_option maxRecDepth 20000 in
theorem ggX2_fork_X1_cellCount : GoodIn wsX2_fork wsX1_cellCount := goodIn_r _ [34, 35, 36, 37, 8, 38, 11, 39, 40, 41, 42, 43, 44, 45, 46, 47, 48, 49, 12, 58, 59, 60, 61] (by decide +kernel) (by decide +kernel)
set_option maxRecDepth 20000 in
theorem gX2_fork_X1_cellCount_n148 : GoodIn wsX2_fork (wsX1_cellCount) := ggX2_fork_X1_cellCount
theorem dX2_fork_0 : decode cX2_fork 0 = .ok (.aload_n 0, 1) := by decide +kernel
theorem dX2_fork_1 : decode cX2_fork 1 = .ok (.getfield 16, 3) := by decide +kernel
theorem dX2_fork_4 : decode cX2_fork 4 = .ok (.aload_n 0, 1) := by decide +kernel
theorem dX2_fork_5 : decode cX2_fork 5 = .ok (.getfield 10, 3) := by decide +kernel
theorem dX2_fork_8 : decode cX2_fork 8 = .ok (.invokevirtual 140, 3) := by decide +kernel
theorem dX2_fork_11 : decode cX2_fork 11 = .ok (.aload_n 0, 1) := by decide +kernel
theorem dX2_fork_12 : decode cX2_fork 12 = .ok (.getfield 19, 3) := by decide +kernel
theorem dX2_fork_15 : decode cX2_fork 15 = .ok (.aload_n 0, 1) := by decide +kernel
theorem dX2_fork_16 : decode cX2_fork 16 = .ok (.getfield 10, 3) := by decide +kernel
theorem dX2_fork_19 : decode cX2_fork 19 = .ok (.invokevirtual 140, 3) := by decide +kernel
theorem dX2_fork_22 : decode cX2_fork 22 = .ok (.aload_n 0, 1) := by decide +kernel
theorem dX2_fork_23 : decode cX2_fork 23 = .ok (.getfield 22, 3) := by decide +kernel
theorem dX2_fork_26 : decode cX2_fork 26 = .ok (.invokevirtual 144, 3) := by decide +kernel
theorem dX2_fork_29 : decode cX2_fork 29 = .ok (.aload_n 0, 1) := by decide +kernel
theorem dX2_fork_30 : decode cX2_fork 30 = .ok (.getfield 36, 3) := by decide +kernel
theorem dX2_fork_33 : decode cX2_fork 33 = .ok (.invokevirtual 147, 3) := by decide +kernel
theorem dX2_fork_36 : decode cX2_fork 36 = .ok (.aload_n 0, 1) := by decide +kernel
theorem dX2_fork_37 : decode cX2_fork 37 = .ok (.iconst 0, 1) := by decide +kernel
theorem dX2_fork_38 : decode cX2_fork 38 = .ok (.putfield 40, 3) := by decide +kernel
theorem dX2_fork_41 : decode cX2_fork 41 = .ok (.aload_n 0, 1) := by decide +kernel
theorem dX2_fork_42 : decode cX2_fork 42 = .ok (.getfield 10, 3) := by decide +kernel
theorem dX2_fork_45 : decode cX2_fork 45 = .ok (.invokevirtual 148, 3) := by decide +kernel
theorem dX2_fork_48 : decode cX2_fork 48 = .ok (.ireturn, 1) := by decide +kernel
set_option maxRecDepth 20000 in
theorem ggX2_merge_X1_becomeEmpty : GoodIn wsX2_merge wsX1_becomeEmpty := goodIn_r _ [7, 8, 9, 10, 11, 12, 13, 14, 15, 156, 157, 158, 159] (by decide +kernel) (by decide +kernel)
set_option maxRecDepth 20000 in
theorem gX2_merge_X1_becomeEmpty_n144 : GoodIn wsX2_merge (wsX1_becomeEmpty) := ggX2_merge_X1_becomeEmpty
set_option maxRecDepth 20000 in
theorem ggX2_merge_X0_becomeEmpty : GoodIn wsX2_merge wsX0_becomeEmpty := goodIn_r _ [19, 20, 21, 150, 151, 152, 153, 154, 155] (by decide +kernel) (by decide +kernel)
set_option maxRecDepth 20000 in
theorem gX2_merge_X0_becomeEmpty_n147 : GoodIn wsX2_merge (wsX0_becomeEmpty) := ggX2_merge_X0_becomeEmpty
set_option maxRecDepth 20000 in
theorem ggX2_merge_X2_mergeColumn : GoodIn wsX2_merge wsX2_mergeColumn := goodIn_r _ [26, 1, 27, 28, 29, 2, 30, 31, 32, 25, 33, 34, 5, 35, 36, 8, 37, 38, 39, 40, 41, 42, 43, 44, 45, 46, 47, 48, 10, 49, 50, 51, 52, 11, 53, 54, 55, 56, 57, 58, 59, 60, 9, 61, 62, 63, 64, 65, 66, 67, 68, 69, 70, 17, 71, 72, 20, 73, 74, 75, 76, 21, 77, 78, 79, 80, 142, 143, 144, 145, 146, 147, 148, 149, 156, 157, 158, 159, 150, 151, 152, 153, 154, 155] (by decide +kernel) (by decide +kernel)
set_option maxRecDepth 20000 in
theorem gX2_merge_X2_mergeColumn : GoodIn wsX2_merge (wsV RX2 151 RX2 yX2_mergeColumn wsX2_mergeColumn) := goodIn_app (goodIn_of _ (by decide +kernel)) ggX2_merge_X2_mergeColumn
set_option maxRecDepth 20000 in
theorem ggX2_merge_X2_mergeRow : GoodIn wsX2_merge wsX2_mergeRow := goodIn_r _ [84, 1, 27, 28, 29, 2, 85, 86, 87, 25, 88, 58, 5, 59, 60, 9, 89, 90, 91, 49, 50, 51, 52, 11, 53, 54, 55, 56, 57, 44, 34, 35, 36, 8, 92, 93, 94, 95, 96, 70, 17, 71, 72, 20, 73, 74, 75, 76, 21, 142, 143, 144, 145, 146, 147, 148, 149, 156, 157, 158, 159, 150, 151, 152, 153, 154, 155] (by decide +kernel) (by decide +kernel)
set_option maxRecDepth 20000 in
theorem gX2_merge_X2_mergeRow : GoodIn wsX2_merge (wsV RX2 154 RX2 yX2_mergeRow wsX2_mergeRow) := goodIn_app (goodIn_of _ (by decide +kernel)) ggX2_merge_X2_mergeRow
set_option maxRecDepth 20000 in
theorem ggX2_merge_X2_mergeCells : GoodIn wsX2_merge wsX2_mergeCells := goodIn_r _ [100, 101, 102, 103, 25, 104, 1, 105, 2, 106, 68, 69, 54, 5, 55, 56, 57, 58, 59, 60, 9, 44, 34, 35, 36, 8, 107, 108, 109, 110, 27, 28, 29, 111, 112, 113, 11, 53, 114, 115, 116, 117, 118, 119, 120, 121, 122, 123, 124, 70, 17, 71, 72, 20, 73, 74, 75, 76, 21, 142, 143, 144, 145, 146, 147, 148, 149, 156, 157, 158, 159, 150, 151, 152, 153, 154, 155] (by decide +kernel) (by decide +kernel)
set_option maxRecDepth 20000 in
theorem gX2_merge_X2_mergeCells : GoodIn wsX2_merge (wsV RX2 157 RX2 yX2_mergeCells wsX2_mergeCells) := goodIn_app (goodIn_of _ (by decide +kernel)) ggX2_merge_X2_mergeCells
set_option maxRecDepth 20000 in
theorem ggX2_merge_X2_listNamesTwice : GoodIn wsX2_merge wsX2_listNamesTwice := goodIn_r _ [128, 2, 129, 130, 131, 25, 132, 1, 34, 5, 35, 36, 8, 46, 47, 48, 10, 44, 70, 17, 71, 72, 20, 73, 74, 75, 76, 21, 142, 143, 144, 145, 146, 147, 148, 149, 156, 157, 158, 159, 150, 151, 152, 153, 154, 155] (by decide +kernel) (by decide +kernel)
set_option maxRecDepth 20000 in
theorem gX2_merge_X2_listNamesTwice : GoodIn wsX2_merge (wsV RX2 160 RX2 yX2_listNamesTwice wsX2_listNamesTwice) := goodIn_app (goodIn_of _ (by decide +kernel)) ggX2_merge_X2_listNamesTwice
set_option maxRecDepth 20000 in
theorem ggX2_merge_X2_listReferencesToNoRow : GoodIn wsX2_merge wsX2_listReferencesToNoRow := goodIn_r _ [136, 2, 137, 138, 139, 25, 140, 141, 1, 106, 68, 69, 54, 5, 55, 56, 57, 58, 59, 60, 9, 44, 34, 35, 36, 8, 111, 112, 113, 11, 53, 70, 17, 71, 72, 20, 73, 74, 75, 76, 21, 142, 143, 144, 145, 146, 147, 148, 149, 156, 157, 158, 159, 150, 151, 152, 153, 154, 155] (by decide +kernel) (by decide +kernel)
set_option maxRecDepth 20000 in
theorem gX2_merge_X2_listReferencesToNoRow : GoodIn wsX2_merge (wsV RX2 163 RX2 yX2_listReferencesToNoRow wsX2_listReferencesToNoRow) := goodIn_app (goodIn_of _ (by decide +kernel)) ggX2_merge_X2_listReferencesToNoRow
theorem dX2_merge_0 : decode cX2_merge 0 = .ok (.aload_n 0, 1) := by decide +kernel
theorem dX2_merge_1 : decode cX2_merge 1 = .ok (.getfield 22, 3) := by decide +kernel
theorem dX2_merge_4 : decode cX2_merge 4 = .ok (.invokevirtual 144, 3) := by decide +kernel
theorem dX2_merge_7 : decode cX2_merge 7 = .ok (.aload_n 0, 1) := by decide +kernel
theorem dX2_merge_8 : decode cX2_merge 8 = .ok (.getfield 36, 3) := by decide +kernel
theorem dX2_merge_11 : decode cX2_merge 11 = .ok (.invokevirtual 147, 3) := by decide +kernel
theorem dX2_merge_14 : decode cX2_merge 14 = .ok (.iconst 0, 1) := by decide +kernel
theorem dX2_merge_15 : decode cX2_merge 15 = .ok (.istore_n 1, 1) := by decide +kernel
theorem dX2_merge_16 : decode cX2_merge 16 = .ok (.iload_n 1, 1) := by decide +kernel
theorem dX2_merge_17 : decode cX2_merge 17 = .ok (.bipush 8, 2) := by decide +kernel
theorem dX2_merge_19 : decode cX2_merge 19 = .ok (.if_icmp .ge 14, 3) := by decide +kernel
theorem dX2_merge_22 : decode cX2_merge 22 = .ok (.aload_n 0, 1) := by decide +kernel
theorem dX2_merge_23 : decode cX2_merge 23 = .ok (.iload_n 1, 1) := by decide +kernel
theorem dX2_merge_24 : decode cX2_merge 24 = .ok (.invokevirtual 151, 3) := by decide +kernel
theorem dX2_merge_27 : decode cX2_merge 27 = .ok (.iinc 1 1, 3) := by decide +kernel
theorem dX2_merge_30 : decode cX2_merge 30 = .ok (.goto (-14), 3) := by decide +kernel
theorem dX2_merge_33 : decode cX2_merge 33 = .ok (.iconst 0, 1) := by decide +kernel
theorem dX2_merge_34 : decode cX2_merge 34 = .ok (.istore_n 1, 1) := by decide +kernel
theorem dX2_merge_35 : decode cX2_merge 35 = .ok (.iload_n 1, 1) := by decide +kernel
theorem dX2_merge_36 : decode cX2_merge 36 = .ok (.bipush 24, 2) := by decide +kernel
theorem dX2_merge_38 : decode cX2_merge 38 = .ok (.if_icmp .ge 14, 3) := by decide +kernel
theorem dX2_merge_41 : decode cX2_merge 41 = .ok (.aload_n 0, 1) := by decide +kernel
theorem dX2_merge_42 : decode cX2_merge 42 = .ok (.iload_n 1, 1) := by decide +kernel
theorem dX2_merge_43 : decode cX2_merge 43 = .ok (.invokevirtual 154, 3) := by decide +kernel
theorem dX2_merge_46 : decode cX2_merge 46 = .ok (.iinc 1 1, 3) := by decide +kernel
theorem dX2_merge_49 : decode cX2_merge 49 = .ok (.goto (-14), 3) := by decide +kernel
theorem dX2_merge_52 : decode cX2_merge 52 = .ok (.aload_n 0, 1) := by decide +kernel
theorem dX2_merge_53 : decode cX2_merge 53 = .ok (.invokevirtual 157, 3) := by decide +kernel
theorem dX2_merge_56 : decode cX2_merge 56 = .ok (.aload_n 0, 1) := by decide +kernel
theorem dX2_merge_57 : decode cX2_merge 57 = .ok (.invokevirtual 160, 3) := by decide +kernel
theorem dX2_merge_60 : decode cX2_merge 60 = .ok (.aload_n 0, 1) := by decide +kernel
theorem dX2_merge_61 : decode cX2_merge 61 = .ok (.invokevirtual 163, 3) := by decide +kernel
theorem dX2_merge_64 : decode cX2_merge 64 = .ok (.aload_n 0, 1) := by decide +kernel
theorem dX2_merge_65 : decode cX2_merge 65 = .ok (.iconst 1, 1) := by decide +kernel
theorem dX2_merge_66 : decode cX2_merge 66 = .ok (.putfield 40, 3) := by decide +kernel
theorem dX2_merge_69 : decode cX2_merge 69 = .ok (.aload_n 0, 1) := by decide +kernel
theorem dX2_merge_70 : decode cX2_merge 70 = .ok (.getfield 36, 3) := by decide +kernel
theorem dX2_merge_73 : decode cX2_merge 73 = .ok (.getfield 166, 3) := by decide +kernel
theorem dX2_merge_76 : decode cX2_merge 76 = .ok (.ireturn, 1) := by decide +kernel
set_option maxRecDepth 20000 in
theorem ggX2_accept_X1_becomeLike : GoodIn wsX2_accept wsX1_becomeLike := goodIn_r _ [10, 11, 12, 13, 14, 15, 16, 17, 18, 71, 72, 73, 74] (by decide +kernel) (by decide +kernel)
set_option maxRecDepth 20000 in
theorem gX2_accept_X1_becomeLike_n140 : GoodIn wsX2_accept (wsX1_becomeLike) := ggX2_accept_X1_becomeLike
set_option maxRecDepth 20000 in
theorem ggX2_accept_X2_fork : GoodIn wsX2_accept wsX2_fork := goodIn_r _ [23, 24, 5, 25, 6, 4, 3, 7, 8, 9, 10, 11, 12, 13, 14, 15, 16, 17, 18, 26, 27, 28, 29, 30, 31, 32, 33, 34, 35, 36, 37, 38, 39, 40, 41, 42, 43, 44, 45, 46, 47, 48, 49, 50, 51, 52, 53, 54, 55, 56, 57, 58, 59, 60, 61, 62, 63, 64, 71, 72, 73, 74, 65, 66, 67, 68, 69, 70] (by decide +kernel) (by decide +kernel)
set_option maxRecDepth 20000 in
theorem gX2_accept_X2_fork : GoodIn wsX2_accept (wsV RX2 176 RX2 yX2_fork wsX2_fork) := goodIn_app (goodIn_of _ (by decide +kernel)) ggX2_accept_X2_fork
theorem dX2_accept_0 : decode cX2_accept 0 = .ok (.aload_n 0, 1) := by decide +kernel
theorem dX2_accept_1 : decode cX2_accept 1 = .ok (.getfield 40, 3) := by decide +kernel
theorem dX2_accept_4 : decode cX2_accept 4 = .ok (.ifCond .ne 13, 3) := by decide +kernel
theorem dX2_accept_7 : decode cX2_accept 7 = .ok (.new 59, 3) := by decide +kernel
theorem dX2_accept_10 : decode cX2_accept 10 = .ok (.dup, 1) := by decide +kernel
theorem dX2_accept_11 : decode cX2_accept 11 = .ok (.ldc 169, 2) := by decide +kernel
theorem dX2_accept_13 : decode cX2_accept 13 = .ok (.invokespecial 63, 3) := by decide +kernel
theorem dX2_accept_16 : decode cX2_accept 16 = .ok (.athrow, 1) := by decide +kernel
theorem dX2_accept_17 : decode cX2_accept 17 = .ok (.aload_n 0, 1) := by decide +kernel
theorem dX2_accept_18 : decode cX2_accept 18 = .ok (.getfield 36, 3) := by decide +kernel
theorem dX2_accept_21 : decode cX2_accept 21 = .ok (.getfield 171, 3) := by decide +kernel
theorem dX2_accept_24 : decode cX2_accept 24 = .ok (.ifCond .le 13, 3) := by decide +kernel
theorem dX2_accept_27 : decode cX2_accept 27 = .ok (.new 59, 3) := by decide +kernel
theorem dX2_accept_30 : decode cX2_accept 30 = .ok (.dup, 1) := by decide +kernel
theorem dX2_accept_31 : decode cX2_accept 31 = .ok (.ldc 174, 2) := by decide +kernel
theorem dX2_accept_33 : decode cX2_accept 33 = .ok (.invokespecial 63, 3) := by decide +kernel
theorem dX2_accept_36 : decode cX2_accept 36 = .ok (.athrow, 1) := by decide +kernel
theorem dX2_accept_37 : decode cX2_accept 37 = .ok (.aload_n 0, 1) := by decide +kernel
theorem dX2_accept_38 : decode cX2_accept 38 = .ok (.getfield 10, 3) := by decide +kernel
theorem dX2_accept_41 : decode cX2_accept 41 = .ok (.aload_n 0, 1) := by decide +kernel
theorem dX2_accept_42 : decode cX2_accept 42 = .ok (.getfield 22, 3) := by decide +kernel
theorem dX2_accept_45 : decode cX2_accept 45 = .ok (.invokevirtual 140, 3) := by decide +kernel
theorem dX2_accept_48 : decode cX2_accept 48 = .ok (.aload_n 0, 1) := by decide +kernel
theorem dX2_accept_49 : decode cX2_accept 49 = .ok (.invokevirtual 176, 3) := by decide +kernel
theorem dX2_accept_52 : decode cX2_accept 52 = .ok (.ireturn, 1) := by decide +kernel
set_option maxRecDepth 20000 in
theorem ggX2_cellByChanges_X2_requireKey : GoodIn wsX2_cellByChanges wsX2_requireKey := goodIn_ca (goodIn_r _ [7, 8, 9, 10, 11, 6, 12] (by decide +kernel) (by decide +kernel)) (goodIn_sub (fun _ h => List.mem_cons_of_mem _ (List.mem_append_right _ h)) (by decide +kernel))
set_option maxRecDepth 20000 in
theorem gX2_cellByChanges_X2_requireKey : GoodIn wsX2_cellByChanges (va_wsS RX2 88 yX2_requireKey wsX2_requireKey) := goodIn_app (goodIn_of _ (by decide +kernel)) ggX2_cellByChanges_X2_requireKey
set_option maxRecDepth 20000 in
theorem ggX2_cellByChanges_X2_requireColumnNumber : GoodIn wsX2_cellByChanges wsX2_requireColumnNumber := goodIn_ca (goodIn_r _ [15, 8, 9, 16, 17, 6, 18] (by decide +kernel) (by decide +kernel)) (goodIn_sub (fun _ h => List.mem_cons_of_mem _ (List.mem_append_right _ h)) (by decide +kernel))
set_option maxRecDepth 20000 in
theorem gX2_cellByChanges_X2_requireColumnNumber : GoodIn wsX2_cellByChanges (va_wsS RX2 48 yX2_requireColumnNumber wsX2_requireColumnNumber) := goodIn_app (goodIn_of _ (by decide +kernel)) ggX2_cellByChanges_X2_requireColumnNumber
set_option maxRecDepth 20000 in
theorem ggX2_cellByChanges_X2_rowStaysByChanges : GoodIn wsX2_cellByChanges wsX2_rowStaysByChanges := goodIn_r _ [22, 23, 1, 2, 24, 25, 26, 27, 28, 29, 30, 31, 6, 32, 33, 34, 35, 36, 37, 38, 39, 40, 41, 42, 43, 44, 45, 46, 47, 48, 49, 50, 89, 90, 91, 92, 93, 94, 95, 96, 97, 98, 99, 100] (by decide +kernel) (by decide +kernel)
set_option maxRecDepth 20000 in
theorem gX2_cellByChanges_X2_rowStaysByChanges : GoodIn wsX2_cellByChanges (wsV RX2 179 RX2 yX2_rowStaysByChanges wsX2_rowStaysByChanges) := goodIn_app (goodIn_of _ (by decide +kernel)) ggX2_cellByChanges_X2_rowStaysByChanges
set_option maxRecDepth 20000 in
theorem ggX2_cellByChanges_X2_columnStaysByChanges : GoodIn wsX2_cellByChanges wsX2_columnStaysByChanges := goodIn_r _ [54, 23, 1, 2, 47, 25, 48, 49, 50, 55, 56, 57, 6, 58, 59, 60, 61, 62, 63, 64, 65, 46, 66, 67, 68, 69, 70, 36, 37, 38, 39, 40, 41, 42, 43, 44, 45, 24, 26, 27, 28, 89, 90, 91, 92, 93, 94, 95, 96, 97, 98, 99, 100] (by decide +kernel) (by decide +kernel)
set_option maxRecDepth 20000 in
theorem gX2_cellByChanges_X2_columnStaysByChanges : GoodIn wsX2_cellByChanges (wsV RX2 182 RX2 yX2_columnStaysByChanges wsX2_columnStaysByChanges) := goodIn_app (goodIn_of _ (by decide +kernel)) ggX2_cellByChanges_X2_columnStaysByChanges
set_option maxRecDepth 20000 in
theorem ggX2_cellByChanges_X1_hasCell : GoodIn wsX2_cellByChanges wsX1_hasCell := goodIn_r _ [44, 45, 24, 26, 25, 27, 28, 46, 47, 48, 49, 50, 97, 98, 99, 100] (by decide +kernel) (by decide +kernel)
set_option maxRecDepth 20000 in
theorem gX2_cellByChanges_X1_hasCell_n185 : GoodIn wsX2_cellByChanges (wsX1_hasCell) := ggX2_cellByChanges_X1_hasCell
set_option maxRecDepth 20000 in
theorem ggX2_cellByChanges_X2_sumByChanges : GoodIn wsX2_cellByChanges wsX2_sumByChanges := goodIn_r _ [74, 23, 1, 2, 75, 25, 76, 77, 40, 41, 42, 43, 44, 45, 24, 26, 27, 28, 46, 47, 48, 49, 50, 89, 90, 91, 92, 93, 94, 95, 96, 97, 98, 99, 100] (by decide +kernel) (by decide +kernel)
set_option maxRecDepth 20000 in
theorem gX2_cellByChanges_X2_sumByChanges : GoodIn wsX2_cellByChanges (wsV RX2 189 RX2 yX2_sumByChanges wsX2_sumByChanges) := goodIn_app (goodIn_of _ (by decide +kernel)) ggX2_cellByChanges_X2_sumByChanges
set_option maxRecDepth 20000 in
theorem ggX2_cellByChanges_X2_choiceByChanges : GoodIn wsX2_cellByChanges wsX2_choiceByChanges := goodIn_r _ [81, 1, 23, 2, 82, 83, 84, 85, 86, 25, 87, 88, 41, 42, 43, 44, 45, 24, 26, 27, 28, 46, 47, 48, 49, 50, 36, 37, 38, 39, 40, 75, 76, 77, 89, 90, 91, 92, 93, 94, 95, 96, 97, 98, 99, 100] (by decide +kernel) (by decide +kernel)
set_option maxRecDepth 20000 in
theorem gX2_cellByChanges_X2_choiceByChanges : GoodIn wsX2_cellByChanges (wsV RX2 192 RX2 yX2_choiceByChanges wsX2_choiceByChanges) := goodIn_app (goodIn_of _ (by decide +kernel)) ggX2_cellByChanges_X2_choiceByChanges
theorem dX2_cellByChanges_0 : decode cX2_cellByChanges 0 = .ok (.iload_n 1, 1) := by decide +kernel
theorem dX2_cellByChanges_1 : decode cX2_cellByChanges 1 = .ok (.invokestatic 88, 3) := by decide +kernel
theorem dX2_cellByChanges_4 : decode cX2_cellByChanges 4 = .ok (.iload_n 2, 1) := by decide +kernel
theorem dX2_cellByChanges_5 : decode cX2_cellByChanges 5 = .ok (.invokestatic 48, 3) := by decide +kernel
theorem dX2_cellByChanges_8 : decode cX2_cellByChanges 8 = .ok (.aload_n 0, 1) := by decide +kernel
theorem dX2_cellByChanges_9 : decode cX2_cellByChanges 9 = .ok (.iload_n 1, 1) := by decide +kernel
theorem dX2_cellByChanges_10 : decode cX2_cellByChanges 10 = .ok (.invokevirtual 179, 3) := by decide +kernel
theorem dX2_cellByChanges_13 : decode cX2_cellByChanges 13 = .ok (.ifCond .eq 11, 3) := by decide +kernel
theorem dX2_cellByChanges_16 : decode cX2_cellByChanges 16 = .ok (.aload_n 0, 1) := by decide +kernel
theorem dX2_cellByChanges_17 : decode cX2_cellByChanges 17 = .ok (.iload_n 2, 1) := by decide +kernel
theorem dX2_cellByChanges_18 : decode cX2_cellByChanges 18 = .ok (.invokevirtual 182, 3) := by decide +kernel
theorem dX2_cellByChanges_21 : decode cX2_cellByChanges 21 = .ok (.ifCond .ne 5, 3) := by decide +kernel
theorem dX2_cellByChanges_24 : decode cX2_cellByChanges 24 = .ok (.iconst 0, 1) := by decide +kernel
theorem dX2_cellByChanges_25 : decode cX2_cellByChanges 25 = .ok (.ireturn, 1) := by decide +kernel
theorem dX2_cellByChanges_26 : decode cX2_cellByChanges 26 = .ok (.aload_n 0, 1) := by decide +kernel
theorem dX2_cellByChanges_27 : decode cX2_cellByChanges 27 = .ok (.getfield 16, 3) := by decide +kernel
theorem dX2_cellByChanges_30 : decode cX2_cellByChanges 30 = .ok (.iload_n 1, 1) := by decide +kernel
theorem dX2_cellByChanges_31 : decode cX2_cellByChanges 31 = .ok (.iload_n 2, 1) := by decide +kernel
theorem dX2_cellByChanges_32 : decode cX2_cellByChanges 32 = .ok (.invokevirtual 185, 3) := by decide +kernel
theorem dX2_cellByChanges_35 : decode cX2_cellByChanges 35 = .ok (.ifCond .ne 17, 3) := by decide +kernel
theorem dX2_cellByChanges_38 : decode cX2_cellByChanges 38 = .ok (.aload_n 0, 1) := by decide +kernel
theorem dX2_cellByChanges_39 : decode cX2_cellByChanges 39 = .ok (.getfield 19, 3) := by decide +kernel
theorem dX2_cellByChanges_42 : decode cX2_cellByChanges 42 = .ok (.iload_n 1, 1) := by decide +kernel
theorem dX2_cellByChanges_43 : decode cX2_cellByChanges 43 = .ok (.iload_n 2, 1) := by decide +kernel
theorem dX2_cellByChanges_44 : decode cX2_cellByChanges 44 = .ok (.invokevirtual 185, 3) := by decide +kernel
theorem dX2_cellByChanges_47 : decode cX2_cellByChanges 47 = .ok (.ifCond .ne 5, 3) := by decide +kernel
theorem dX2_cellByChanges_50 : decode cX2_cellByChanges 50 = .ok (.iconst 0, 1) := by decide +kernel
theorem dX2_cellByChanges_51 : decode cX2_cellByChanges 51 = .ok (.ireturn, 1) := by decide +kernel
theorem dX2_cellByChanges_52 : decode cX2_cellByChanges 52 = .ok (.aload_n 0, 1) := by decide +kernel
theorem dX2_cellByChanges_53 : decode cX2_cellByChanges 53 = .ok (.getfield 25, 3) := by decide +kernel
theorem dX2_cellByChanges_56 : decode cX2_cellByChanges 56 = .ok (.iload_n 2, 1) := by decide +kernel
theorem dX2_cellByChanges_57 : decode cX2_cellByChanges 57 = .ok (.iaload, 1) := by decide +kernel
theorem dX2_cellByChanges_58 : decode cX2_cellByChanges 58 = .ok (.iconst 3, 1) := by decide +kernel
theorem dX2_cellByChanges_59 : decode cX2_cellByChanges 59 = .ok (.if_icmp .ne 12, 3) := by decide +kernel
theorem dX2_cellByChanges_62 : decode cX2_cellByChanges 62 = .ok (.aload_n 0, 1) := by decide +kernel
theorem dX2_cellByChanges_63 : decode cX2_cellByChanges 63 = .ok (.iload_n 1, 1) := by decide +kernel
theorem dX2_cellByChanges_64 : decode cX2_cellByChanges 64 = .ok (.iload_n 2, 1) := by decide +kernel
theorem dX2_cellByChanges_65 : decode cX2_cellByChanges 65 = .ok (.invokevirtual 189, 3) := by decide +kernel
theorem dX2_cellByChanges_68 : decode cX2_cellByChanges 68 = .ok (.goto 15, 3) := by decide +kernel
theorem dX2_cellByChanges_71 : decode cX2_cellByChanges 71 = .ok (.aload_n 0, 1) := by decide +kernel
theorem dX2_cellByChanges_72 : decode cX2_cellByChanges 72 = .ok (.iload_n 1, 1) := by decide +kernel
theorem dX2_cellByChanges_73 : decode cX2_cellByChanges 73 = .ok (.iload_n 2, 1) := by decide +kernel
theorem dX2_cellByChanges_74 : decode cX2_cellByChanges 74 = .ok (.aload_n 0, 1) := by decide +kernel
theorem dX2_cellByChanges_75 : decode cX2_cellByChanges 75 = .ok (.getfield 25, 3) := by decide +kernel
theorem dX2_cellByChanges_78 : decode cX2_cellByChanges 78 = .ok (.iload_n 2, 1) := by decide +kernel
theorem dX2_cellByChanges_79 : decode cX2_cellByChanges 79 = .ok (.iaload, 1) := by decide +kernel
theorem dX2_cellByChanges_80 : decode cX2_cellByChanges 80 = .ok (.invokevirtual 192, 3) := by decide +kernel
theorem dX2_cellByChanges_83 : decode cX2_cellByChanges 83 = .ok (.ireturn, 1) := by decide +kernel
theorem dX2_conflicts_0 : decode cX2_conflicts 0 = .ok (.aload_n 0, 1) := by decide +kernel
theorem dX2_conflicts_1 : decode cX2_conflicts 1 = .ok (.getfield 36, 3) := by decide +kernel
theorem dX2_conflicts_4 : decode cX2_conflicts 4 = .ok (.getfield 166, 3) := by decide +kernel
theorem dX2_conflicts_7 : decode cX2_conflicts 7 = .ok (.ireturn, 1) := by decide +kernel
theorem dX2_open_0 : decode cX2_open 0 = .ok (.aload_n 0, 1) := by decide +kernel
theorem dX2_open_1 : decode cX2_open 1 = .ok (.getfield 36, 3) := by decide +kernel
theorem dX2_open_4 : decode cX2_open 4 = .ok (.getfield 171, 3) := by decide +kernel
theorem dX2_open_7 : decode cX2_open 7 = .ok (.ireturn, 1) := by decide +kernel
set_option maxRecDepth 20000 in
theorem ggX2_kindOf_X2_requireConflict : GoodIn wsX2_kindOf wsX2_requireConflict := goodIn_ca (goodIn_r _ [6, 7, 8, 1, 9, 10, 11, 12, 13, 19, 20, 21, 22, 23, 24, 25, 26, 27, 28, 29, 30, 31, 32] (by decide +kernel) (by decide +kernel)) (goodIn_sub (fun _ h => List.mem_cons_of_mem _ (List.mem_append_right _ h)) (by decide +kernel))
set_option maxRecDepth 20000 in
theorem gX2_kindOf_X2_requireConflict : GoodIn wsX2_kindOf (wsV RX2 196 RX2 yX2_requireConflict wsX2_requireConflict) := goodIn_app (goodIn_of _ (by decide +kernel)) ggX2_kindOf_X2_requireConflict
set_option maxRecDepth 20000 in
theorem ggX2_kindOf_X0_kindAt : GoodIn wsX2_kindOf wsX0_kindAt := goodIn_r _ [16, 17, 18, 9, 11, 10, 12, 13, 27, 28, 29, 30, 31, 32] (by decide +kernel) (by decide +kernel)
set_option maxRecDepth 20000 in
theorem gX2_kindOf_X0_kindAt_n199 : GoodIn wsX2_kindOf (wsX0_kindAt) := ggX2_kindOf_X0_kindAt
theorem dX2_kindOf_0 : decode cX2_kindOf 0 = .ok (.aload_n 0, 1) := by decide +kernel
theorem dX2_kindOf_1 : decode cX2_kindOf 1 = .ok (.iload_n 1, 1) := by decide +kernel
theorem dX2_kindOf_2 : decode cX2_kindOf 2 = .ok (.invokevirtual 196, 3) := by decide +kernel
theorem dX2_kindOf_5 : decode cX2_kindOf 5 = .ok (.aload_n 0, 1) := by decide +kernel
theorem dX2_kindOf_6 : decode cX2_kindOf 6 = .ok (.getfield 36, 3) := by decide +kernel
theorem dX2_kindOf_9 : decode cX2_kindOf 9 = .ok (.iload_n 1, 1) := by decide +kernel
theorem dX2_kindOf_10 : decode cX2_kindOf 10 = .ok (.invokevirtual 199, 3) := by decide +kernel
theorem dX2_kindOf_13 : decode cX2_kindOf 13 = .ok (.ireturn, 1) := by decide +kernel
set_option maxRecDepth 20000 in
theorem ggX2_keyOf_X2_requireConflict : GoodIn wsX2_keyOf wsX2_requireConflict := goodIn_ca (goodIn_r _ [6, 7, 8, 1, 9, 10, 11, 12, 13, 19, 20, 21, 22, 23, 24, 25, 26, 27, 28, 29, 30, 31, 32] (by decide +kernel) (by decide +kernel)) (goodIn_sub (fun _ h => List.mem_cons_of_mem _ (List.mem_append_right _ h)) (by decide +kernel))
set_option maxRecDepth 20000 in
theorem gX2_keyOf_X2_requireConflict : GoodIn wsX2_keyOf (wsV RX2 196 RX2 yX2_requireConflict wsX2_requireConflict) := goodIn_app (goodIn_of _ (by decide +kernel)) ggX2_keyOf_X2_requireConflict
set_option maxRecDepth 20000 in
theorem ggX2_keyOf_X0_keyAt : GoodIn wsX2_keyOf wsX0_keyAt := goodIn_r _ [16, 17, 18, 9, 11, 10, 12, 13, 27, 28, 29, 30, 31, 32] (by decide +kernel) (by decide +kernel)
set_option maxRecDepth 20000 in
theorem gX2_keyOf_X0_keyAt_n202 : GoodIn wsX2_keyOf (wsX0_keyAt) := ggX2_keyOf_X0_keyAt
theorem dX2_keyOf_0 : decode cX2_keyOf 0 = .ok (.aload_n 0, 1) := by decide +kernel
theorem dX2_keyOf_1 : decode cX2_keyOf 1 = .ok (.iload_n 1, 1) := by decide +kernel
theorem dX2_keyOf_2 : decode cX2_keyOf 2 = .ok (.invokevirtual 196, 3) := by decide +kernel
theorem dX2_keyOf_5 : decode cX2_keyOf 5 = .ok (.aload_n 0, 1) := by decide +kernel
theorem dX2_keyOf_6 : decode cX2_keyOf 6 = .ok (.getfield 36, 3) := by decide +kernel
theorem dX2_keyOf_9 : decode cX2_keyOf 9 = .ok (.iload_n 1, 1) := by decide +kernel
theorem dX2_keyOf_10 : decode cX2_keyOf 10 = .ok (.invokevirtual 202, 3) := by decide +kernel
theorem dX2_keyOf_13 : decode cX2_keyOf 13 = .ok (.ireturn, 1) := by decide +kernel
set_option maxRecDepth 20000 in
theorem ggX2_columnOf_X2_requireConflict : GoodIn wsX2_columnOf wsX2_requireConflict := goodIn_ca (goodIn_r _ [6, 7, 8, 1, 9, 10, 11, 12, 13, 19, 20, 21, 22, 23, 24, 25, 26, 27, 28, 29, 30, 31, 32] (by decide +kernel) (by decide +kernel)) (goodIn_sub (fun _ h => List.mem_cons_of_mem _ (List.mem_append_right _ h)) (by decide +kernel))
set_option maxRecDepth 20000 in
theorem gX2_columnOf_X2_requireConflict : GoodIn wsX2_columnOf (wsV RX2 196 RX2 yX2_requireConflict wsX2_requireConflict) := goodIn_app (goodIn_of _ (by decide +kernel)) ggX2_columnOf_X2_requireConflict
set_option maxRecDepth 20000 in
theorem ggX2_columnOf_X0_columnAt : GoodIn wsX2_columnOf wsX0_columnAt := goodIn_r _ [16, 17, 18, 9, 11, 10, 12, 13, 27, 28, 29, 30, 31, 32] (by decide +kernel) (by decide +kernel)
set_option maxRecDepth 20000 in
theorem gX2_columnOf_X0_columnAt_n205 : GoodIn wsX2_columnOf (wsX0_columnAt) := ggX2_columnOf_X0_columnAt
theorem dX2_columnOf_0 : decode cX2_columnOf 0 = .ok (.aload_n 0, 1) := by decide +kernel
theorem dX2_columnOf_1 : decode cX2_columnOf 1 = .ok (.iload_n 1, 1) := by decide +kernel
theorem dX2_columnOf_2 : decode cX2_columnOf 2 = .ok (.invokevirtual 196, 3) := by decide +kernel
theorem dX2_columnOf_5 : decode cX2_columnOf 5 = .ok (.aload_n 0, 1) := by decide +kernel
theorem dX2_columnOf_6 : decode cX2_columnOf 6 = .ok (.getfield 36, 3) := by decide +kernel
theorem dX2_columnOf_9 : decode cX2_columnOf 9 = .ok (.iload_n 1, 1) := by decide +kernel
theorem dX2_columnOf_10 : decode cX2_columnOf 10 = .ok (.invokevirtual 205, 3) := by decide +kernel
theorem dX2_columnOf_13 : decode cX2_columnOf 13 = .ok (.ireturn, 1) := by decide +kernel
set_option maxRecDepth 20000 in
theorem ggX2_settle_X2_requireConflict : GoodIn wsX2_settle wsX2_requireConflict := goodIn_ca (goodIn_r _ [9, 10, 11, 4, 12, 13, 14, 15, 16, 85, 86, 87, 88, 89, 90, 91, 92, 93, 94, 95, 96, 97, 98] (by decide +kernel) (by decide +kernel)) (goodIn_sub (fun _ h => List.mem_cons_of_mem _ (List.mem_append_right _ h)) (by decide +kernel))
set_option maxRecDepth 20000 in
theorem gX2_settle_X2_requireConflict : GoodIn wsX2_settle (wsV RX2 196 RX2 yX2_requireConflict wsX2_requireConflict) := goodIn_app (goodIn_of _ (by decide +kernel)) ggX2_settle_X2_requireConflict
set_option maxRecDepth 20000 in
theorem ggX2_settle_X2_sideTable : GoodIn wsX2_settle wsX2_sideTable := goodIn_ca (goodIn_r _ [20, 10, 11, 21, 22, 85, 86, 87, 88, 89, 90, 91, 92] (by decide +kernel) (by decide +kernel)) (goodIn_sub (fun _ h => List.mem_cons_of_mem _ (List.mem_append_right _ h)) (by decide +kernel))
set_option maxRecDepth 20000 in
theorem gX2_settle_X2_sideTable : GoodIn wsX2_settle (wsV RX2 133 RX2 yX2_sideTable wsX2_sideTable) := goodIn_app (goodIn_of _ (by decide +kernel)) ggX2_settle_X2_sideTable
set_option maxRecDepth 20000 in
theorem ggX2_settle_X0_isSettled : GoodIn wsX2_settle wsX0_isSettled := goodIn_r _ [25, 26, 27, 12, 14, 13, 15, 16, 93, 94, 95, 96, 97, 98] (by decide +kernel) (by decide +kernel)
set_option maxRecDepth 20000 in
theorem gX2_settle_X0_isSettled_n208 : GoodIn wsX2_settle (wsX0_isSettled) := ggX2_settle_X0_isSettled
set_option maxRecDepth 20000 in
theorem ggX2_settle_X0_kindAt : GoodIn wsX2_settle wsX0_kindAt := goodIn_r _ [30, 31, 27, 12, 14, 13, 15, 16, 93, 94, 95, 96, 97, 98] (by decide +kernel) (by decide +kernel)
set_option maxRecDepth 20000 in
theorem gX2_settle_X0_kindAt_n199 : GoodIn wsX2_settle (wsX0_kindAt) := ggX2_settle_X0_kindAt
set_option maxRecDepth 20000 in
theorem ggX2_settle_X0_keyAt : GoodIn wsX2_settle wsX0_keyAt := goodIn_r _ [34, 35, 27, 12, 14, 13, 15, 16, 93, 94, 95, 96, 97, 98] (by decide +kernel) (by decide +kernel)
set_option maxRecDepth 20000 in
theorem gX2_settle_X0_keyAt_n202 : GoodIn wsX2_settle (wsX0_keyAt) := ggX2_settle_X0_keyAt
set_option maxRecDepth 20000 in
theorem ggX2_settle_X0_columnAt : GoodIn wsX2_settle wsX0_columnAt := goodIn_r _ [38, 39, 27, 12, 14, 13, 15, 16, 93, 94, 95, 96, 97, 98] (by decide +kernel) (by decide +kernel)
set_option maxRecDepth 20000 in
theorem gX2_settle_X0_columnAt_n205 : GoodIn wsX2_settle (wsX0_columnAt) := ggX2_settle_X0_columnAt
set_option maxRecDepth 20000 in
theorem ggX2_settle_X2_takeSide : GoodIn wsX2_settle wsX2_takeSide := goodIn_r _ [43, 44, 45, 46, 47, 48, 49, 50, 51, 52, 53, 54, 55, 56, 57, 58, 59, 60, 61, 62, 63, 64, 65, 66, 67, 68, 69, 70, 71, 72, 73, 74, 75, 76, 77, 78, 79, 80, 85, 86, 87, 88, 89, 90, 91, 92, 99, 100, 101, 102] (by decide +kernel) (by decide +kernel)
set_option maxRecDepth 20000 in
theorem gX2_settle_X2_takeSide : GoodIn wsX2_settle (wsV RX2 213 RX2 yX2_takeSide wsX2_takeSide) := goodIn_app (goodIn_of _ (by decide +kernel)) ggX2_settle_X2_takeSide
set_option maxRecDepth 20000 in
theorem ggX2_settle_X0_markSettled : GoodIn wsX2_settle wsX0_markSettled := goodIn_r _ [83, 26, 84, 27, 12, 14, 13, 15, 16, 93, 94, 95, 96, 97, 98] (by decide +kernel) (by decide +kernel)
set_option maxRecDepth 20000 in
theorem gX2_settle_X0_markSettled_n217 : GoodIn wsX2_settle (wsX0_markSettled) := ggX2_settle_X0_markSettled
theorem dX2_settle_0 : decode cX2_settle 0 = .ok (.aload_n 0, 1) := by decide +kernel
theorem dX2_settle_1 : decode cX2_settle 1 = .ok (.iload_n 1, 1) := by decide +kernel
theorem dX2_settle_2 : decode cX2_settle 2 = .ok (.invokevirtual 196, 3) := by decide +kernel
theorem dX2_settle_5 : decode cX2_settle 5 = .ok (.aload_n 0, 1) := by decide +kernel
theorem dX2_settle_6 : decode cX2_settle 6 = .ok (.iload_n 2, 1) := by decide +kernel
theorem dX2_settle_7 : decode cX2_settle 7 = .ok (.invokevirtual 133, 3) := by decide +kernel
theorem dX2_settle_10 : decode cX2_settle 10 = .ok (.astore_n 3, 1) := by decide +kernel
theorem dX2_settle_11 : decode cX2_settle 11 = .ok (.aload_n 0, 1) := by decide +kernel
theorem dX2_settle_12 : decode cX2_settle 12 = .ok (.getfield 40, 3) := by decide +kernel
theorem dX2_settle_15 : decode cX2_settle 15 = .ok (.ifCond .ne 13, 3) := by decide +kernel
theorem dX2_settle_18 : decode cX2_settle 18 = .ok (.new 59, 3) := by decide +kernel
theorem dX2_settle_21 : decode cX2_settle 21 = .ok (.dup, 1) := by decide +kernel
theorem dX2_settle_22 : decode cX2_settle 22 = .ok (.ldc 169, 2) := by decide +kernel
theorem dX2_settle_24 : decode cX2_settle 24 = .ok (.invokespecial 63, 3) := by decide +kernel
theorem dX2_settle_27 : decode cX2_settle 27 = .ok (.athrow, 1) := by decide +kernel
theorem dX2_settle_28 : decode cX2_settle 28 = .ok (.aload_n 0, 1) := by decide +kernel
theorem dX2_settle_29 : decode cX2_settle 29 = .ok (.getfield 36, 3) := by decide +kernel
theorem dX2_settle_32 : decode cX2_settle 32 = .ok (.iload_n 1, 1) := by decide +kernel
theorem dX2_settle_33 : decode cX2_settle 33 = .ok (.invokevirtual 208, 3) := by decide +kernel
theorem dX2_settle_36 : decode cX2_settle 36 = .ok (.ifCond .eq 13, 3) := by decide +kernel
theorem dX2_settle_39 : decode cX2_settle 39 = .ok (.new 59, 3) := by decide +kernel
theorem dX2_settle_42 : decode cX2_settle 42 = .ok (.dup, 1) := by decide +kernel
theorem dX2_settle_43 : decode cX2_settle 43 = .ok (.ldc 211, 2) := by decide +kernel
theorem dX2_settle_45 : decode cX2_settle 45 = .ok (.invokespecial 63, 3) := by decide +kernel
theorem dX2_settle_48 : decode cX2_settle 48 = .ok (.athrow, 1) := by decide +kernel
theorem dX2_settle_49 : decode cX2_settle 49 = .ok (.aload_n 0, 1) := by decide +kernel
theorem dX2_settle_50 : decode cX2_settle 50 = .ok (.aload_n 3, 1) := by decide +kernel
theorem dX2_settle_51 : decode cX2_settle 51 = .ok (.aload_n 0, 1) := by decide +kernel
theorem dX2_settle_52 : decode cX2_settle 52 = .ok (.getfield 36, 3) := by decide +kernel
theorem dX2_settle_55 : decode cX2_settle 55 = .ok (.iload_n 1, 1) := by decide +kernel
theorem dX2_settle_56 : decode cX2_settle 56 = .ok (.invokevirtual 199, 3) := by decide +kernel
theorem dX2_settle_59 : decode cX2_settle 59 = .ok (.aload_n 0, 1) := by decide +kernel
theorem dX2_settle_60 : decode cX2_settle 60 = .ok (.getfield 36, 3) := by decide +kernel
theorem dX2_settle_63 : decode cX2_settle 63 = .ok (.iload_n 1, 1) := by decide +kernel
theorem dX2_settle_64 : decode cX2_settle 64 = .ok (.invokevirtual 202, 3) := by decide +kernel
theorem dX2_settle_67 : decode cX2_settle 67 = .ok (.aload_n 0, 1) := by decide +kernel
theorem dX2_settle_68 : decode cX2_settle 68 = .ok (.getfield 36, 3) := by decide +kernel
theorem dX2_settle_71 : decode cX2_settle 71 = .ok (.iload_n 1, 1) := by decide +kernel
theorem dX2_settle_72 : decode cX2_settle 72 = .ok (.invokevirtual 205, 3) := by decide +kernel
theorem dX2_settle_75 : decode cX2_settle 75 = .ok (.invokevirtual 213, 3) := by decide +kernel
theorem dX2_settle_78 : decode cX2_settle 78 = .ok (.aload_n 0, 1) := by decide +kernel
theorem dX2_settle_79 : decode cX2_settle 79 = .ok (.getfield 36, 3) := by decide +kernel
theorem dX2_settle_82 : decode cX2_settle 82 = .ok (.iload_n 1, 1) := by decide +kernel
theorem dX2_settle_83 : decode cX2_settle 83 = .ok (.invokevirtual 217, 3) := by decide +kernel
theorem dX2_settle_86 : decode cX2_settle 86 = .ok (.aload_n 0, 1) := by decide +kernel
theorem dX2_settle_87 : decode cX2_settle 87 = .ok (.getfield 36, 3) := by decide +kernel
theorem dX2_settle_90 : decode cX2_settle 90 = .ok (.getfield 171, 3) := by decide +kernel
theorem dX2_settle_93 : decode cX2_settle 93 = .ok (.ireturn, 1) := by decide +kernel
theorem dX2_tableToRead_0 : decode cX2_tableToRead 0 = .ok (.iload_n 1, 1) := by decide +kernel
theorem dX2_tableToRead_1 : decode cX2_tableToRead 1 = .ok (.tableswitch 51 0 3 #[31, 36, 41, 46], 31) := by decide +kernel
theorem dX2_tableToRead_32 : decode cX2_tableToRead 32 = .ok (.aload_n 0, 1) := by decide +kernel
theorem dX2_tableToRead_33 : decode cX2_tableToRead 33 = .ok (.getfield 10, 3) := by decide +kernel
theorem dX2_tableToRead_36 : decode cX2_tableToRead 36 = .ok (.areturn, 1) := by decide +kernel
theorem dX2_tableToRead_37 : decode cX2_tableToRead 37 = .ok (.aload_n 0, 1) := by decide +kernel
theorem dX2_tableToRead_38 : decode cX2_tableToRead 38 = .ok (.getfield 16, 3) := by decide +kernel
theorem dX2_tableToRead_41 : decode cX2_tableToRead 41 = .ok (.areturn, 1) := by decide +kernel
theorem dX2_tableToRead_42 : decode cX2_tableToRead 42 = .ok (.aload_n 0, 1) := by decide +kernel
theorem dX2_tableToRead_43 : decode cX2_tableToRead 43 = .ok (.getfield 19, 3) := by decide +kernel
theorem dX2_tableToRead_46 : decode cX2_tableToRead 46 = .ok (.areturn, 1) := by decide +kernel
theorem dX2_tableToRead_47 : decode cX2_tableToRead 47 = .ok (.aload_n 0, 1) := by decide +kernel
theorem dX2_tableToRead_48 : decode cX2_tableToRead 48 = .ok (.getfield 22, 3) := by decide +kernel
theorem dX2_tableToRead_51 : decode cX2_tableToRead 51 = .ok (.areturn, 1) := by decide +kernel
theorem dX2_tableToRead_52 : decode cX2_tableToRead 52 = .ok (.new 220, 3) := by decide +kernel
theorem dX2_tableToRead_55 : decode cX2_tableToRead 55 = .ok (.dup, 1) := by decide +kernel
theorem dX2_tableToRead_56 : decode cX2_tableToRead 56 = .ok (.ldc 222, 2) := by decide +kernel
theorem dX2_tableToRead_58 : decode cX2_tableToRead 58 = .ok (.invokespecial 224, 3) := by decide +kernel
theorem dX2_tableToRead_61 : decode cX2_tableToRead 61 = .ok (.athrow, 1) := by decide +kernel
set_option maxRecDepth 20000 in
theorem ggX2_tableToFill_X2_tableToRead : GoodIn wsX2_tableToFill wsX2_tableToRead := goodIn_ca (goodIn_r _ [7, 1, 2, 8, 9, 10, 11, 12, 13, 14, 15, 16, 17, 18, 19] (by decide +kernel) (by decide +kernel)) (goodIn_sub (fun _ h => List.mem_cons_of_mem _ (List.mem_append_right _ h)) (by decide +kernel))
set_option maxRecDepth 20000 in
theorem gX2_tableToFill_X2_tableToRead : GoodIn wsX2_tableToFill (wsV RX2 123 RX2 yX2_tableToRead wsX2_tableToRead) := goodIn_app (goodIn_of _ (by decide +kernel)) ggX2_tableToFill_X2_tableToRead
theorem dX2_tableToFill_0 : decode cX2_tableToFill 0 = .ok (.iload_n 1, 1) := by decide +kernel
theorem dX2_tableToFill_1 : decode cX2_tableToFill 1 = .ok (.iconst 3, 1) := by decide +kernel
theorem dX2_tableToFill_2 : decode cX2_tableToFill 2 = .ok (.if_icmp .ne 13, 3) := by decide +kernel
theorem dX2_tableToFill_5 : decode cX2_tableToFill 5 = .ok (.new 220, 3) := by decide +kernel
theorem dX2_tableToFill_8 : decode cX2_tableToFill 8 = .ok (.dup, 1) := by decide +kernel
theorem dX2_tableToFill_9 : decode cX2_tableToFill 9 = .ok (.ldc 225, 2) := by decide +kernel
theorem dX2_tableToFill_11 : decode cX2_tableToFill 11 = .ok (.invokespecial 224, 3) := by decide +kernel
theorem dX2_tableToFill_14 : decode cX2_tableToFill 14 = .ok (.athrow, 1) := by decide +kernel
theorem dX2_tableToFill_15 : decode cX2_tableToFill 15 = .ok (.aload_n 0, 1) := by decide +kernel
theorem dX2_tableToFill_16 : decode cX2_tableToFill 16 = .ok (.iload_n 1, 1) := by decide +kernel
theorem dX2_tableToFill_17 : decode cX2_tableToFill 17 = .ok (.invokevirtual 123, 3) := by decide +kernel
theorem dX2_tableToFill_20 : decode cX2_tableToFill 20 = .ok (.areturn, 1) := by decide +kernel
theorem dX2_sideTable_0 : decode cX2_sideTable 0 = .ok (.iload_n 1, 1) := by decide +kernel
theorem dX2_sideTable_1 : decode cX2_sideTable 1 = .ok (.iconst 1, 1) := by decide +kernel
theorem dX2_sideTable_2 : decode cX2_sideTable 2 = .ok (.if_icmp .eq 18, 3) := by decide +kernel
theorem dX2_sideTable_5 : decode cX2_sideTable 5 = .ok (.iload_n 1, 1) := by decide +kernel
theorem dX2_sideTable_6 : decode cX2_sideTable 6 = .ok (.iconst 2, 1) := by decide +kernel
theorem dX2_sideTable_7 : decode cX2_sideTable 7 = .ok (.if_icmp .eq 13, 3) := by decide +kernel
theorem dX2_sideTable_10 : decode cX2_sideTable 10 = .ok (.new 220, 3) := by decide +kernel
theorem dX2_sideTable_13 : decode cX2_sideTable 13 = .ok (.dup, 1) := by decide +kernel
theorem dX2_sideTable_14 : decode cX2_sideTable 14 = .ok (.ldc 227, 2) := by decide +kernel
theorem dX2_sideTable_16 : decode cX2_sideTable 16 = .ok (.invokespecial 224, 3) := by decide +kernel
theorem dX2_sideTable_19 : decode cX2_sideTable 19 = .ok (.athrow, 1) := by decide +kernel
theorem dX2_sideTable_20 : decode cX2_sideTable 20 = .ok (.iload_n 1, 1) := by decide +kernel
theorem dX2_sideTable_21 : decode cX2_sideTable 21 = .ok (.iconst 1, 1) := by decide +kernel
theorem dX2_sideTable_22 : decode cX2_sideTable 22 = .ok (.if_icmp .ne 10, 3) := by decide +kernel
theorem dX2_sideTable_25 : decode cX2_sideTable 25 = .ok (.aload_n 0, 1) := by decide +kernel
theorem dX2_sideTable_26 : decode cX2_sideTable 26 = .ok (.getfield 16, 3) := by decide +kernel
theorem dX2_sideTable_29 : decode cX2_sideTable 29 = .ok (.goto 7, 3) := by decide +kernel
theorem dX2_sideTable_32 : decode cX2_sideTable 32 = .ok (.aload_n 0, 1) := by decide +kernel
theorem dX2_sideTable_33 : decode cX2_sideTable 33 = .ok (.getfield 19, 3) := by decide +kernel
theorem dX2_sideTable_36 : decode cX2_sideTable 36 = .ok (.areturn, 1) := by decide +kernel
set_option maxRecDepth 20000 in
theorem ggX2_requireColumnNumber_X2_isColumnNumber : GoodIn wsX2_requireColumnNumber wsX2_isColumnNumber := goodIn_r _ [6] (by decide +kernel) (by decide +kernel)
set_option maxRecDepth 20000 in
theorem gX2_requireColumnNumber_X2_isColumnNumber : GoodIn wsX2_requireColumnNumber (va_wsS RX2 229 yX2_isColumnNumber wsX2_isColumnNumber) := goodIn_app (goodIn_of _ (by decide +kernel)) ggX2_requireColumnNumber_X2_isColumnNumber
theorem dX2_requireColumnNumber_0 : decode cX2_requireColumnNumber 0 = .ok (.iload_n 0, 1) := by decide +kernel
theorem dX2_requireColumnNumber_1 : decode cX2_requireColumnNumber 1 = .ok (.invokestatic 229, 3) := by decide +kernel
theorem dX2_requireColumnNumber_4 : decode cX2_requireColumnNumber 4 = .ok (.ifCond .ne 13, 3) := by decide +kernel
theorem dX2_requireColumnNumber_7 : decode cX2_requireColumnNumber 7 = .ok (.new 220, 3) := by decide +kernel
theorem dX2_requireColumnNumber_10 : decode cX2_requireColumnNumber 10 = .ok (.dup, 1) := by decide +kernel
theorem dX2_requireColumnNumber_11 : decode cX2_requireColumnNumber 11 = .ok (.ldc 232, 2) := by decide +kernel
theorem dX2_requireColumnNumber_13 : decode cX2_requireColumnNumber 13 = .ok (.invokespecial 224, 3) := by decide +kernel
theorem dX2_requireColumnNumber_16 : decode cX2_requireColumnNumber 16 = .ok (.athrow, 1) := by decide +kernel
theorem dX2_requireColumnNumber_17 : decode cX2_requireColumnNumber 17 = .ok (.return_, 1) := by decide +kernel
set_option maxRecDepth 20000 in
theorem ggX2_requireKey_X2_isKey : GoodIn wsX2_requireKey wsX2_isKey := goodIn_r _ [6] (by decide +kernel) (by decide +kernel)
set_option maxRecDepth 20000 in
theorem gX2_requireKey_X2_isKey : GoodIn wsX2_requireKey (va_wsS RX2 234 yX2_isKey wsX2_isKey) := goodIn_app (goodIn_of _ (by decide +kernel)) ggX2_requireKey_X2_isKey
theorem dX2_requireKey_0 : decode cX2_requireKey 0 = .ok (.iload_n 0, 1) := by decide +kernel
theorem dX2_requireKey_1 : decode cX2_requireKey 1 = .ok (.invokestatic 234, 3) := by decide +kernel
theorem dX2_requireKey_4 : decode cX2_requireKey 4 = .ok (.ifCond .ne 13, 3) := by decide +kernel
theorem dX2_requireKey_7 : decode cX2_requireKey 7 = .ok (.new 220, 3) := by decide +kernel
theorem dX2_requireKey_10 : decode cX2_requireKey 10 = .ok (.dup, 1) := by decide +kernel
theorem dX2_requireKey_11 : decode cX2_requireKey 11 = .ok (.ldc 237, 2) := by decide +kernel
theorem dX2_requireKey_13 : decode cX2_requireKey 13 = .ok (.invokespecial 224, 3) := by decide +kernel
theorem dX2_requireKey_16 : decode cX2_requireKey 16 = .ok (.athrow, 1) := by decide +kernel
theorem dX2_requireKey_17 : decode cX2_requireKey 17 = .ok (.return_, 1) := by decide +kernel
set_option maxRecDepth 20000 in
theorem ggX2_requireColumnOf_X1_hasColumn : GoodIn wsX2_requireColumnOf wsX1_hasColumn := goodIn_r _ [6, 7, 8, 9, 10, 11] (by decide +kernel) (by decide +kernel)
set_option maxRecDepth 20000 in
theorem gX2_requireColumnOf_X1_hasColumn_n55 : GoodIn wsX2_requireColumnOf (wsX1_hasColumn) := ggX2_requireColumnOf_X1_hasColumn
theorem dX2_requireColumnOf_0 : decode cX2_requireColumnOf 0 = .ok (.aload_n 0, 1) := by decide +kernel
theorem dX2_requireColumnOf_1 : decode cX2_requireColumnOf 1 = .ok (.iload_n 1, 1) := by decide +kernel
theorem dX2_requireColumnOf_2 : decode cX2_requireColumnOf 2 = .ok (.invokevirtual 55, 3) := by decide +kernel
theorem dX2_requireColumnOf_5 : decode cX2_requireColumnOf 5 = .ok (.ifCond .ne 13, 3) := by decide +kernel
theorem dX2_requireColumnOf_8 : decode cX2_requireColumnOf 8 = .ok (.new 220, 3) := by decide +kernel
theorem dX2_requireColumnOf_11 : decode cX2_requireColumnOf 11 = .ok (.dup, 1) := by decide +kernel
theorem dX2_requireColumnOf_12 : decode cX2_requireColumnOf 12 = .ok (.ldc 239, 2) := by decide +kernel
theorem dX2_requireColumnOf_14 : decode cX2_requireColumnOf 14 = .ok (.invokespecial 224, 3) := by decide +kernel
theorem dX2_requireColumnOf_17 : decode cX2_requireColumnOf 17 = .ok (.athrow, 1) := by decide +kernel
theorem dX2_requireColumnOf_18 : decode cX2_requireColumnOf 18 = .ok (.return_, 1) := by decide +kernel
set_option maxRecDepth 20000 in
theorem ggX2_requireRowOf_X1_hasRow : GoodIn wsX2_requireRowOf wsX1_hasRow := goodIn_r _ [6, 7, 8, 9, 10, 11] (by decide +kernel) (by decide +kernel)
set_option maxRecDepth 20000 in
theorem gX2_requireRowOf_X1_hasRow_n91 : GoodIn wsX2_requireRowOf (wsX1_hasRow) := ggX2_requireRowOf_X1_hasRow
theorem dX2_requireRowOf_0 : decode cX2_requireRowOf 0 = .ok (.aload_n 0, 1) := by decide +kernel
theorem dX2_requireRowOf_1 : decode cX2_requireRowOf 1 = .ok (.iload_n 1, 1) := by decide +kernel
theorem dX2_requireRowOf_2 : decode cX2_requireRowOf 2 = .ok (.invokevirtual 91, 3) := by decide +kernel
theorem dX2_requireRowOf_5 : decode cX2_requireRowOf 5 = .ok (.ifCond .ne 13, 3) := by decide +kernel
theorem dX2_requireRowOf_8 : decode cX2_requireRowOf 8 = .ok (.new 220, 3) := by decide +kernel
theorem dX2_requireRowOf_11 : decode cX2_requireRowOf 11 = .ok (.dup, 1) := by decide +kernel
theorem dX2_requireRowOf_12 : decode cX2_requireRowOf 12 = .ok (.ldc 241, 2) := by decide +kernel
theorem dX2_requireRowOf_14 : decode cX2_requireRowOf 14 = .ok (.invokespecial 224, 3) := by decide +kernel
theorem dX2_requireRowOf_17 : decode cX2_requireRowOf 17 = .ok (.athrow, 1) := by decide +kernel
theorem dX2_requireRowOf_18 : decode cX2_requireRowOf 18 = .ok (.return_, 1) := by decide +kernel
theorem dX2_requireName_0 : decode cX2_requireName 0 = .ok (.iload_n 0, 1) := by decide +kernel
theorem dX2_requireName_1 : decode cX2_requireName 1 = .ok (.ifCond .lt 9, 3) := by decide +kernel
theorem dX2_requireName_4 : decode cX2_requireName 4 = .ok (.iload_n 0, 1) := by decide +kernel
theorem dX2_requireName_5 : decode cX2_requireName 5 = .ok (.bipush 99, 2) := by decide +kernel
theorem dX2_requireName_7 : decode cX2_requireName 7 = .ok (.if_icmp .le 13, 3) := by decide +kernel
theorem dX2_requireName_10 : decode cX2_requireName 10 = .ok (.new 108, 3) := by decide +kernel
theorem dX2_requireName_13 : decode cX2_requireName 13 = .ok (.dup, 1) := by decide +kernel
theorem dX2_requireName_14 : decode cX2_requireName 14 = .ok (.ldc 243, 2) := by decide +kernel
theorem dX2_requireName_16 : decode cX2_requireName 16 = .ok (.invokespecial 112, 3) := by decide +kernel
theorem dX2_requireName_19 : decode cX2_requireName 19 = .ok (.athrow, 1) := by decide +kernel
theorem dX2_requireName_20 : decode cX2_requireName 20 = .ok (.return_, 1) := by decide +kernel
set_option maxRecDepth 20000 in
theorem ggX2_requireConflict_X0_holds : GoodIn wsX2_requireConflict wsX0_holds := goodIn_r _ [7, 8, 17, 18, 19, 20, 21, 22] (by decide +kernel) (by decide +kernel)
set_option maxRecDepth 20000 in
theorem gX2_requireConflict_X0_holds_n245 : GoodIn wsX2_requireConflict (wsX0_holds) := ggX2_requireConflict_X0_holds
theorem dX2_requireConflict_0 : decode cX2_requireConflict 0 = .ok (.aload_n 0, 1) := by decide +kernel
theorem dX2_requireConflict_1 : decode cX2_requireConflict 1 = .ok (.getfield 36, 3) := by decide +kernel
theorem dX2_requireConflict_4 : decode cX2_requireConflict 4 = .ok (.iload_n 1, 1) := by decide +kernel
theorem dX2_requireConflict_5 : decode cX2_requireConflict 5 = .ok (.invokevirtual 245, 3) := by decide +kernel
theorem dX2_requireConflict_8 : decode cX2_requireConflict 8 = .ok (.ifCond .ne 13, 3) := by decide +kernel
theorem dX2_requireConflict_11 : decode cX2_requireConflict 11 = .ok (.new 220, 3) := by decide +kernel
theorem dX2_requireConflict_14 : decode cX2_requireConflict 14 = .ok (.dup, 1) := by decide +kernel
theorem dX2_requireConflict_15 : decode cX2_requireConflict 15 = .ok (.ldc 248, 2) := by decide +kernel
theorem dX2_requireConflict_17 : decode cX2_requireConflict 17 = .ok (.invokespecial 224, 3) := by decide +kernel
theorem dX2_requireConflict_20 : decode cX2_requireConflict 20 = .ok (.athrow, 1) := by decide +kernel
theorem dX2_requireConflict_21 : decode cX2_requireConflict 21 = .ok (.return_, 1) := by decide +kernel
theorem dX2_isColumnNumber_0 : decode cX2_isColumnNumber 0 = .ok (.iload_n 0, 1) := by decide +kernel
theorem dX2_isColumnNumber_1 : decode cX2_isColumnNumber 1 = .ok (.ifCond .lt 13, 3) := by decide +kernel
theorem dX2_isColumnNumber_4 : decode cX2_isColumnNumber 4 = .ok (.iload_n 0, 1) := by decide +kernel
theorem dX2_isColumnNumber_5 : decode cX2_isColumnNumber 5 = .ok (.bipush 8, 2) := by decide +kernel
theorem dX2_isColumnNumber_7 : decode cX2_isColumnNumber 7 = .ok (.if_icmp .ge 7, 3) := by decide +kernel
theorem dX2_isColumnNumber_10 : decode cX2_isColumnNumber 10 = .ok (.iconst 1, 1) := by decide +kernel
theorem dX2_isColumnNumber_11 : decode cX2_isColumnNumber 11 = .ok (.goto 4, 3) := by decide +kernel
theorem dX2_isColumnNumber_14 : decode cX2_isColumnNumber 14 = .ok (.iconst 0, 1) := by decide +kernel
theorem dX2_isColumnNumber_15 : decode cX2_isColumnNumber 15 = .ok (.ireturn, 1) := by decide +kernel
theorem dX2_isKey_0 : decode cX2_isKey 0 = .ok (.iload_n 0, 1) := by decide +kernel
theorem dX2_isKey_1 : decode cX2_isKey 1 = .ok (.ifCond .lt 13, 3) := by decide +kernel
theorem dX2_isKey_4 : decode cX2_isKey 4 = .ok (.iload_n 0, 1) := by decide +kernel
theorem dX2_isKey_5 : decode cX2_isKey 5 = .ok (.bipush 24, 2) := by decide +kernel
theorem dX2_isKey_7 : decode cX2_isKey 7 = .ok (.if_icmp .ge 7, 3) := by decide +kernel
theorem dX2_isKey_10 : decode cX2_isKey 10 = .ok (.iconst 1, 1) := by decide +kernel
theorem dX2_isKey_11 : decode cX2_isKey 11 = .ok (.goto 4, 3) := by decide +kernel
theorem dX2_isKey_14 : decode cX2_isKey 14 = .ok (.iconst 0, 1) := by decide +kernel
theorem dX2_isKey_15 : decode cX2_isKey 15 = .ok (.ireturn, 1) := by decide +kernel
set_option maxRecDepth 20000 in
theorem ggX2_mergeColumn_X2_columnStays : GoodIn wsX2_mergeColumn wsX2_columnStays := goodIn_r _ [10, 2, 3, 4, 11, 12, 13, 14, 15, 16, 17, 18, 19, 20, 21, 22, 23, 24, 25, 26, 27, 28, 29, 30, 31, 32, 33, 34, 35, 36, 37, 38, 39, 40, 41, 42, 66, 67, 68, 69, 70, 71, 72, 73, 74, 75, 76, 77] (by decide +kernel) (by decide +kernel)
set_option maxRecDepth 20000 in
theorem gX2_mergeColumn_X2_columnStays : GoodIn wsX2_mergeColumn (wsV RX2 250 RX2 yX2_columnStays wsX2_columnStays) := goodIn_app (goodIn_of _ (by decide +kernel)) ggX2_mergeColumn_X2_columnStays
set_option maxRecDepth 20000 in
theorem ggX2_mergeColumn_X2_mergedName : GoodIn wsX2_mergeColumn wsX2_mergedName := goodIn_r _ [46, 2, 3, 4, 11, 12, 13, 14, 15, 25, 26, 27, 28, 23, 20, 21, 22, 24, 66, 67, 68, 69, 70, 71, 72, 73, 74, 75, 76, 77] (by decide +kernel) (by decide +kernel)
set_option maxRecDepth 20000 in
theorem gX2_mergeColumn_X2_mergedName : GoodIn wsX2_mergeColumn (wsV RX2 253 RX2 yX2_mergedName wsX2_mergedName) := goodIn_app (goodIn_of _ (by decide +kernel)) ggX2_mergeColumn_X2_mergedName
set_option maxRecDepth 20000 in
theorem ggX2_mergeColumn_X1_putColumn : GoodIn wsX2_mergeColumn wsX1_putColumn := goodIn_r _ [49, 15, 28, 50, 9, 51, 74, 75, 76, 77] (by decide +kernel) (by decide +kernel)
set_option maxRecDepth 20000 in
theorem gX2_mergeColumn_X1_putColumn_n66 : GoodIn wsX2_mergeColumn (wsX1_putColumn) := ggX2_mergeColumn_X1_putColumn
set_option maxRecDepth 20000 in
theorem ggX2_mergeColumn_X1_hasColumn : GoodIn wsX2_mergeColumn wsX1_hasColumn := goodIn_r _ [14, 15, 74, 75, 76, 77] (by decide +kernel) (by decide +kernel)
set_option maxRecDepth 20000 in
theorem gX2_mergeColumn_X1_hasColumn_n55 : GoodIn wsX2_mergeColumn (wsX1_hasColumn) := ggX2_mergeColumn_X1_hasColumn
set_option maxRecDepth 20000 in
theorem ggX2_mergeColumn_X0_append : GoodIn wsX2_mergeColumn wsX0_append := goodIn_r _ [55, 56, 57, 58, 59, 60, 61, 78, 79, 80, 81, 82, 83] (by decide +kernel) (by decide +kernel)
set_option maxRecDepth 20000 in
theorem gX2_mergeColumn_X0_append_n256 : GoodIn wsX2_mergeColumn (wsX0_append) := ggX2_mergeColumn_X0_append
set_option maxRecDepth 20000 in
theorem ggX2_mergeColumn_X2_namesAreAtOdds : GoodIn wsX2_mergeColumn wsX2_namesAreAtOdds := goodIn_r _ [65, 2, 3, 4, 25, 12, 26, 27, 28, 23, 11, 13, 14, 15, 20, 21, 22, 24, 66, 67, 68, 69, 70, 71, 72, 73, 74, 75, 76, 77] (by decide +kernel) (by decide +kernel)
set_option maxRecDepth 20000 in
theorem gX2_mergeColumn_X2_namesAreAtOdds : GoodIn wsX2_mergeColumn (wsV RX2 259 RX2 yX2_namesAreAtOdds wsX2_namesAreAtOdds) := goodIn_app (goodIn_of _ (by decide +kernel)) ggX2_mergeColumn_X2_namesAreAtOdds
theorem dX2_mergeColumn_0 : decode cX2_mergeColumn 0 = .ok (.aload_n 0, 1) := by decide +kernel
theorem dX2_mergeColumn_1 : decode cX2_mergeColumn 1 = .ok (.iload_n 1, 1) := by decide +kernel
theorem dX2_mergeColumn_2 : decode cX2_mergeColumn 2 = .ok (.invokevirtual 250, 3) := by decide +kernel
theorem dX2_mergeColumn_5 : decode cX2_mergeColumn 5 = .ok (.ifCond .ne 4, 3) := by decide +kernel
theorem dX2_mergeColumn_8 : decode cX2_mergeColumn 8 = .ok (.return_, 1) := by decide +kernel
theorem dX2_mergeColumn_9 : decode cX2_mergeColumn 9 = .ok (.aload_n 0, 1) := by decide +kernel
theorem dX2_mergeColumn_10 : decode cX2_mergeColumn 10 = .ok (.getfield 22, 3) := by decide +kernel
theorem dX2_mergeColumn_13 : decode cX2_mergeColumn 13 = .ok (.iload_n 1, 1) := by decide +kernel
theorem dX2_mergeColumn_14 : decode cX2_mergeColumn 14 = .ok (.aload_n 0, 1) := by decide +kernel
theorem dX2_mergeColumn_15 : decode cX2_mergeColumn 15 = .ok (.iload_n 1, 1) := by decide +kernel
theorem dX2_mergeColumn_16 : decode cX2_mergeColumn 16 = .ok (.invokevirtual 253, 3) := by decide +kernel
theorem dX2_mergeColumn_19 : decode cX2_mergeColumn 19 = .ok (.invokevirtual 66, 3) := by decide +kernel
theorem dX2_mergeColumn_22 : decode cX2_mergeColumn 22 = .ok (.aload_n 0, 1) := by decide +kernel
theorem dX2_mergeColumn_23 : decode cX2_mergeColumn 23 = .ok (.getfield 16, 3) := by decide +kernel
theorem dX2_mergeColumn_26 : decode cX2_mergeColumn 26 = .ok (.iload_n 1, 1) := by decide +kernel
theorem dX2_mergeColumn_27 : decode cX2_mergeColumn 27 = .ok (.invokevirtual 55, 3) := by decide +kernel
theorem dX2_mergeColumn_30 : decode cX2_mergeColumn 30 = .ok (.ifCond .eq 18, 3) := by decide +kernel
theorem dX2_mergeColumn_33 : decode cX2_mergeColumn 33 = .ok (.aload_n 0, 1) := by decide +kernel
theorem dX2_mergeColumn_34 : decode cX2_mergeColumn 34 = .ok (.getfield 19, 3) := by decide +kernel
theorem dX2_mergeColumn_37 : decode cX2_mergeColumn 37 = .ok (.iload_n 1, 1) := by decide +kernel
theorem dX2_mergeColumn_38 : decode cX2_mergeColumn 38 = .ok (.invokevirtual 55, 3) := by decide +kernel
theorem dX2_mergeColumn_41 : decode cX2_mergeColumn 41 = .ok (.ifCond .eq 7, 3) := by decide +kernel
theorem dX2_mergeColumn_44 : decode cX2_mergeColumn 44 = .ok (.iconst 1, 1) := by decide +kernel
theorem dX2_mergeColumn_45 : decode cX2_mergeColumn 45 = .ok (.goto 4, 3) := by decide +kernel
theorem dX2_mergeColumn_48 : decode cX2_mergeColumn 48 = .ok (.iconst 0, 1) := by decide +kernel
theorem dX2_mergeColumn_49 : decode cX2_mergeColumn 49 = .ok (.istore_n 2, 1) := by decide +kernel
theorem dX2_mergeColumn_50 : decode cX2_mergeColumn 50 = .ok (.iload_n 2, 1) := by decide +kernel
theorem dX2_mergeColumn_51 : decode cX2_mergeColumn 51 = .ok (.ifCond .ne 24, 3) := by decide +kernel
theorem dX2_mergeColumn_54 : decode cX2_mergeColumn 54 = .ok (.aload_n 0, 1) := by decide +kernel
theorem dX2_mergeColumn_55 : decode cX2_mergeColumn 55 = .ok (.getfield 10, 3) := by decide +kernel
theorem dX2_mergeColumn_58 : decode cX2_mergeColumn 58 = .ok (.iload_n 1, 1) := by decide +kernel
theorem dX2_mergeColumn_59 : decode cX2_mergeColumn 59 = .ok (.invokevirtual 55, 3) := by decide +kernel
theorem dX2_mergeColumn_62 : decode cX2_mergeColumn 62 = .ok (.ifCond .eq 13, 3) := by decide +kernel
theorem dX2_mergeColumn_65 : decode cX2_mergeColumn 65 = .ok (.aload_n 0, 1) := by decide +kernel
theorem dX2_mergeColumn_66 : decode cX2_mergeColumn 66 = .ok (.getfield 36, 3) := by decide +kernel
theorem dX2_mergeColumn_69 : decode cX2_mergeColumn 69 = .ok (.iconst 3, 1) := by decide +kernel
theorem dX2_mergeColumn_70 : decode cX2_mergeColumn 70 = .ok (.iconst (-1), 1) := by decide +kernel
theorem dX2_mergeColumn_71 : decode cX2_mergeColumn 71 = .ok (.iload_n 1, 1) := by decide +kernel
theorem dX2_mergeColumn_72 : decode cX2_mergeColumn 72 = .ok (.invokevirtual 256, 3) := by decide +kernel
theorem dX2_mergeColumn_75 : decode cX2_mergeColumn 75 = .ok (.iload_n 2, 1) := by decide +kernel
theorem dX2_mergeColumn_76 : decode cX2_mergeColumn 76 = .ok (.ifCond .eq 21, 3) := by decide +kernel
theorem dX2_mergeColumn_79 : decode cX2_mergeColumn 79 = .ok (.aload_n 0, 1) := by decide +kernel
theorem dX2_mergeColumn_80 : decode cX2_mergeColumn 80 = .ok (.iload_n 1, 1) := by decide +kernel
theorem dX2_mergeColumn_81 : decode cX2_mergeColumn 81 = .ok (.invokevirtual 259, 3) := by decide +kernel
theorem dX2_mergeColumn_84 : decode cX2_mergeColumn 84 = .ok (.ifCond .eq 13, 3) := by decide +kernel
theorem dX2_mergeColumn_87 : decode cX2_mergeColumn 87 = .ok (.aload_n 0, 1) := by decide +kernel
theorem dX2_mergeColumn_88 : decode cX2_mergeColumn 88 = .ok (.getfield 36, 3) := by decide +kernel
theorem dX2_mergeColumn_91 : decode cX2_mergeColumn 91 = .ok (.iconst 4, 1) := by decide +kernel
theorem dX2_mergeColumn_92 : decode cX2_mergeColumn 92 = .ok (.iconst (-1), 1) := by decide +kernel
theorem dX2_mergeColumn_93 : decode cX2_mergeColumn 93 = .ok (.iload_n 1, 1) := by decide +kernel
theorem dX2_mergeColumn_94 : decode cX2_mergeColumn 94 = .ok (.invokevirtual 256, 3) := by decide +kernel
theorem dX2_mergeColumn_97 : decode cX2_mergeColumn 97 = .ok (.return_, 1) := by decide +kernel
set_option maxRecDepth 20000 in
theorem ggX2_columnStays_X1_hasColumn : GoodIn wsX2_columnStays wsX1_hasColumn := goodIn_r _ [7, 8, 44, 45, 46, 47] (by decide +kernel) (by decide +kernel)
set_option maxRecDepth 20000 in
theorem gX2_columnStays_X1_hasColumn_n55 : GoodIn wsX2_columnStays (wsX1_hasColumn) := ggX2_columnStays_X1_hasColumn
set_option maxRecDepth 20000 in
theorem ggX2_columnStays_X1_changedColumnOf : GoodIn wsX2_columnStays wsX1_changedColumnOf := goodIn_r _ [11, 12, 13, 14, 5, 15, 16, 4, 6, 7, 8, 17, 18, 19, 20, 21, 22, 23, 24, 25, 26, 27, 28, 29, 30, 31, 32, 33, 34, 35, 44, 45, 46, 47] (by decide +kernel) (by decide +kernel)
set_option maxRecDepth 20000 in
theorem gX2_columnStays_X1_changedColumnOf_n262 : GoodIn wsX2_columnStays (wsX1_changedColumnOf) := ggX2_columnStays_X1_changedColumnOf
theorem dX2_columnStays_0 : decode cX2_columnStays 0 = .ok (.aload_n 0, 1) := by decide +kernel
theorem dX2_columnStays_1 : decode cX2_columnStays 1 = .ok (.getfield 16, 3) := by decide +kernel
theorem dX2_columnStays_4 : decode cX2_columnStays 4 = .ok (.iload_n 1, 1) := by decide +kernel
theorem dX2_columnStays_5 : decode cX2_columnStays 5 = .ok (.invokevirtual 55, 3) := by decide +kernel
theorem dX2_columnStays_8 : decode cX2_columnStays 8 = .ok (.istore_n 2, 1) := by decide +kernel
theorem dX2_columnStays_9 : decode cX2_columnStays 9 = .ok (.aload_n 0, 1) := by decide +kernel
theorem dX2_columnStays_10 : decode cX2_columnStays 10 = .ok (.getfield 19, 3) := by decide +kernel
theorem dX2_columnStays_13 : decode cX2_columnStays 13 = .ok (.iload_n 1, 1) := by decide +kernel
theorem dX2_columnStays_14 : decode cX2_columnStays 14 = .ok (.invokevirtual 55, 3) := by decide +kernel
theorem dX2_columnStays_17 : decode cX2_columnStays 17 = .ok (.istore_n 3, 1) := by decide +kernel
theorem dX2_columnStays_18 : decode cX2_columnStays 18 = .ok (.iload_n 2, 1) := by decide +kernel
theorem dX2_columnStays_19 : decode cX2_columnStays 19 = .ok (.ifCond .eq 9, 3) := by decide +kernel
theorem dX2_columnStays_22 : decode cX2_columnStays 22 = .ok (.iload_n 3, 1) := by decide +kernel
theorem dX2_columnStays_23 : decode cX2_columnStays 23 = .ok (.ifCond .eq 5, 3) := by decide +kernel
theorem dX2_columnStays_26 : decode cX2_columnStays 26 = .ok (.iconst 1, 1) := by decide +kernel
theorem dX2_columnStays_27 : decode cX2_columnStays 27 = .ok (.ireturn, 1) := by decide +kernel
theorem dX2_columnStays_28 : decode cX2_columnStays 28 = .ok (.aload_n 0, 1) := by decide +kernel
theorem dX2_columnStays_29 : decode cX2_columnStays 29 = .ok (.getfield 10, 3) := by decide +kernel
theorem dX2_columnStays_32 : decode cX2_columnStays 32 = .ok (.iload_n 1, 1) := by decide +kernel
theorem dX2_columnStays_33 : decode cX2_columnStays 33 = .ok (.invokevirtual 55, 3) := by decide +kernel
theorem dX2_columnStays_36 : decode cX2_columnStays 36 = .ok (.ifCond .ne 17, 3) := by decide +kernel
theorem dX2_columnStays_39 : decode cX2_columnStays 39 = .ok (.iload_n 2, 1) := by decide +kernel
theorem dX2_columnStays_40 : decode cX2_columnStays 40 = .ok (.ifCond .ne 7, 3) := by decide +kernel
theorem dX2_columnStays_43 : decode cX2_columnStays 43 = .ok (.iload_n 3, 1) := by decide +kernel
theorem dX2_columnStays_44 : decode cX2_columnStays 44 = .ok (.ifCond .eq 7, 3) := by decide +kernel
theorem dX2_columnStays_47 : decode cX2_columnStays 47 = .ok (.iconst 1, 1) := by decide +kernel
theorem dX2_columnStays_48 : decode cX2_columnStays 48 = .ok (.goto 4, 3) := by decide +kernel
theorem dX2_columnStays_51 : decode cX2_columnStays 51 = .ok (.iconst 0, 1) := by decide +kernel
theorem dX2_columnStays_52 : decode cX2_columnStays 52 = .ok (.ireturn, 1) := by decide +kernel
theorem dX2_columnStays_53 : decode cX2_columnStays 53 = .ok (.aload_n 0, 1) := by decide +kernel
theorem dX2_columnStays_54 : decode cX2_columnStays 54 = .ok (.getfield 16, 3) := by decide +kernel
theorem dX2_columnStays_57 : decode cX2_columnStays 57 = .ok (.aload_n 0, 1) := by decide +kernel
theorem dX2_columnStays_58 : decode cX2_columnStays 58 = .ok (.getfield 10, 3) := by decide +kernel
theorem dX2_columnStays_61 : decode cX2_columnStays 61 = .ok (.iload_n 1, 1) := by decide +kernel
theorem dX2_columnStays_62 : decode cX2_columnStays 62 = .ok (.invokevirtual 262, 3) := by decide +kernel
theorem dX2_columnStays_65 : decode cX2_columnStays 65 = .ok (.ifCond .ne 18, 3) := by decide +kernel
theorem dX2_columnStays_68 : decode cX2_columnStays 68 = .ok (.aload_n 0, 1) := by decide +kernel
theorem dX2_columnStays_69 : decode cX2_columnStays 69 = .ok (.getfield 19, 3) := by decide +kernel
theorem dX2_columnStays_72 : decode cX2_columnStays 72 = .ok (.aload_n 0, 1) := by decide +kernel
theorem dX2_columnStays_73 : decode cX2_columnStays 73 = .ok (.getfield 10, 3) := by decide +kernel
theorem dX2_columnStays_76 : decode cX2_columnStays 76 = .ok (.iload_n 1, 1) := by decide +kernel
theorem dX2_columnStays_77 : decode cX2_columnStays 77 = .ok (.invokevirtual 262, 3) := by decide +kernel
theorem dX2_columnStays_80 : decode cX2_columnStays 80 = .ok (.ifCond .eq 7, 3) := by decide +kernel
theorem dX2_columnStays_83 : decode cX2_columnStays 83 = .ok (.iconst 1, 1) := by decide +kernel
theorem dX2_columnStays_84 : decode cX2_columnStays 84 = .ok (.goto 4, 3) := by decide +kernel
theorem dX2_columnStays_87 : decode cX2_columnStays 87 = .ok (.iconst 0, 1) := by decide +kernel
theorem dX2_columnStays_88 : decode cX2_columnStays 88 = .ok (.ireturn, 1) := by decide +kernel
set_option maxRecDepth 20000 in
theorem ggX2_mergedName_X1_hasColumn : GoodIn wsX2_mergedName wsX1_hasColumn := goodIn_r _ [7, 8, 26, 27, 28, 29] (by decide +kernel) (by decide +kernel)
set_option maxRecDepth 20000 in
theorem gX2_mergedName_X1_hasColumn_n55 : GoodIn wsX2_mergedName (wsX1_hasColumn) := ggX2_mergedName_X1_hasColumn
set_option maxRecDepth 20000 in
theorem ggX2_mergedName_X1_nameAt : GoodIn wsX2_mergedName wsX1_nameAt := goodIn_r _ [11, 12, 13, 4, 6, 5, 7, 8, 26, 27, 28, 29] (by decide +kernel) (by decide +kernel)
set_option maxRecDepth 20000 in
theorem gX2_mergedName_X1_nameAt_n78 : GoodIn wsX2_mergedName (wsX1_nameAt) := ggX2_mergedName_X1_nameAt
set_option maxRecDepth 20000 in
theorem ggX2_mergedName_X1_renamedColumnOf : GoodIn wsX2_mergedName wsX1_renamedColumnOf := goodIn_r _ [16, 13, 4, 6, 5, 7, 8, 17, 9, 10, 11, 12, 26, 27, 28, 29] (by decide +kernel) (by decide +kernel)
set_option maxRecDepth 20000 in
theorem gX2_mergedName_X1_renamedColumnOf_n266 : GoodIn wsX2_mergedName (wsX1_renamedColumnOf) := ggX2_mergedName_X1_renamedColumnOf
theorem dX2_mergedName_0 : decode cX2_mergedName 0 = .ok (.aload_n 0, 1) := by decide +kernel
theorem dX2_mergedName_1 : decode cX2_mergedName 1 = .ok (.getfield 16, 3) := by decide +kernel
theorem dX2_mergedName_4 : decode cX2_mergedName 4 = .ok (.iload_n 1, 1) := by decide +kernel
theorem dX2_mergedName_5 : decode cX2_mergedName 5 = .ok (.invokevirtual 55, 3) := by decide +kernel
theorem dX2_mergedName_8 : decode cX2_mergedName 8 = .ok (.ifCond .ne 12, 3) := by decide +kernel
theorem dX2_mergedName_11 : decode cX2_mergedName 11 = .ok (.aload_n 0, 1) := by decide +kernel
theorem dX2_mergedName_12 : decode cX2_mergedName 12 = .ok (.getfield 19, 3) := by decide +kernel
theorem dX2_mergedName_15 : decode cX2_mergedName 15 = .ok (.iload_n 1, 1) := by decide +kernel
theorem dX2_mergedName_16 : decode cX2_mergedName 16 = .ok (.invokevirtual 78, 3) := by decide +kernel
theorem dX2_mergedName_19 : decode cX2_mergedName 19 = .ok (.ireturn, 1) := by decide +kernel
theorem dX2_mergedName_20 : decode cX2_mergedName 20 = .ok (.aload_n 0, 1) := by decide +kernel
theorem dX2_mergedName_21 : decode cX2_mergedName 21 = .ok (.getfield 19, 3) := by decide +kernel
theorem dX2_mergedName_24 : decode cX2_mergedName 24 = .ok (.aload_n 0, 1) := by decide +kernel
theorem dX2_mergedName_25 : decode cX2_mergedName 25 = .ok (.getfield 10, 3) := by decide +kernel
theorem dX2_mergedName_28 : decode cX2_mergedName 28 = .ok (.iload_n 1, 1) := by decide +kernel
theorem dX2_mergedName_29 : decode cX2_mergedName 29 = .ok (.invokevirtual 266, 3) := by decide +kernel
theorem dX2_mergedName_32 : decode cX2_mergedName 32 = .ok (.ifCond .eq 22, 3) := by decide +kernel
theorem dX2_mergedName_35 : decode cX2_mergedName 35 = .ok (.aload_n 0, 1) := by decide +kernel
theorem dX2_mergedName_36 : decode cX2_mergedName 36 = .ok (.getfield 16, 3) := by decide +kernel
theorem dX2_mergedName_39 : decode cX2_mergedName 39 = .ok (.aload_n 0, 1) := by decide +kernel
theorem dX2_mergedName_40 : decode cX2_mergedName 40 = .ok (.getfield 10, 3) := by decide +kernel
theorem dX2_mergedName_43 : decode cX2_mergedName 43 = .ok (.iload_n 1, 1) := by decide +kernel
theorem dX2_mergedName_44 : decode cX2_mergedName 44 = .ok (.invokevirtual 266, 3) := by decide +kernel
theorem dX2_mergedName_47 : decode cX2_mergedName 47 = .ok (.ifCond .ne 7, 3) := by decide +kernel
theorem dX2_mergedName_50 : decode cX2_mergedName 50 = .ok (.iconst 1, 1) := by decide +kernel
theorem dX2_mergedName_51 : decode cX2_mergedName 51 = .ok (.goto 4, 3) := by decide +kernel
theorem dX2_mergedName_54 : decode cX2_mergedName 54 = .ok (.iconst 0, 1) := by decide +kernel
theorem dX2_mergedName_55 : decode cX2_mergedName 55 = .ok (.istore_n 2, 1) := by decide +kernel
theorem dX2_mergedName_56 : decode cX2_mergedName 56 = .ok (.iload_n 2, 1) := by decide +kernel
theorem dX2_mergedName_57 : decode cX2_mergedName 57 = .ok (.ifCond .eq 14, 3) := by decide +kernel
theorem dX2_mergedName_60 : decode cX2_mergedName 60 = .ok (.aload_n 0, 1) := by decide +kernel
theorem dX2_mergedName_61 : decode cX2_mergedName 61 = .ok (.getfield 19, 3) := by decide +kernel
theorem dX2_mergedName_64 : decode cX2_mergedName 64 = .ok (.iload_n 1, 1) := by decide +kernel
theorem dX2_mergedName_65 : decode cX2_mergedName 65 = .ok (.invokevirtual 78, 3) := by decide +kernel
theorem dX2_mergedName_68 : decode cX2_mergedName 68 = .ok (.goto 11, 3) := by decide +kernel
theorem dX2_mergedName_71 : decode cX2_mergedName 71 = .ok (.aload_n 0, 1) := by decide +kernel
theorem dX2_mergedName_72 : decode cX2_mergedName 72 = .ok (.getfield 16, 3) := by decide +kernel
theorem dX2_mergedName_75 : decode cX2_mergedName 75 = .ok (.iload_n 1, 1) := by decide +kernel
theorem dX2_mergedName_76 : decode cX2_mergedName 76 = .ok (.invokevirtual 78, 3) := by decide +kernel
theorem dX2_mergedName_79 : decode cX2_mergedName 79 = .ok (.ireturn, 1) := by decide +kernel
set_option maxRecDepth 20000 in
theorem ggX2_namesAreAtOdds_X1_nameAt : GoodIn wsX2_namesAreAtOdds wsX1_nameAt := goodIn_r _ [7, 8, 9, 10, 11, 5, 12, 13, 26, 27, 28, 29] (by decide +kernel) (by decide +kernel)
set_option maxRecDepth 20000 in
theorem gX2_namesAreAtOdds_X1_nameAt_n78 : GoodIn wsX2_namesAreAtOdds (wsX1_nameAt) := ggX2_namesAreAtOdds_X1_nameAt
set_option maxRecDepth 20000 in
theorem ggX2_namesAreAtOdds_X1_renamedColumnOf : GoodIn wsX2_namesAreAtOdds wsX1_renamedColumnOf := goodIn_r _ [16, 9, 10, 11, 5, 12, 13, 17, 4, 6, 7, 8, 26, 27, 28, 29] (by decide +kernel) (by decide +kernel)
set_option maxRecDepth 20000 in
theorem gX2_namesAreAtOdds_X1_renamedColumnOf_n266 : GoodIn wsX2_namesAreAtOdds (wsX1_renamedColumnOf) := ggX2_namesAreAtOdds_X1_renamedColumnOf
theorem dX2_namesAreAtOdds_0 : decode cX2_namesAreAtOdds 0 = .ok (.aload_n 0, 1) := by decide +kernel
theorem dX2_namesAreAtOdds_1 : decode cX2_namesAreAtOdds 1 = .ok (.getfield 16, 3) := by decide +kernel
theorem dX2_namesAreAtOdds_4 : decode cX2_namesAreAtOdds 4 = .ok (.iload_n 1, 1) := by decide +kernel
theorem dX2_namesAreAtOdds_5 : decode cX2_namesAreAtOdds 5 = .ok (.invokevirtual 78, 3) := by decide +kernel
theorem dX2_namesAreAtOdds_8 : decode cX2_namesAreAtOdds 8 = .ok (.aload_n 0, 1) := by decide +kernel
theorem dX2_namesAreAtOdds_9 : decode cX2_namesAreAtOdds 9 = .ok (.getfield 19, 3) := by decide +kernel
theorem dX2_namesAreAtOdds_12 : decode cX2_namesAreAtOdds 12 = .ok (.iload_n 1, 1) := by decide +kernel
theorem dX2_namesAreAtOdds_13 : decode cX2_namesAreAtOdds 13 = .ok (.invokevirtual 78, 3) := by decide +kernel
theorem dX2_namesAreAtOdds_16 : decode cX2_namesAreAtOdds 16 = .ok (.if_icmp .eq 34, 3) := by decide +kernel
theorem dX2_namesAreAtOdds_19 : decode cX2_namesAreAtOdds 19 = .ok (.aload_n 0, 1) := by decide +kernel
theorem dX2_namesAreAtOdds_20 : decode cX2_namesAreAtOdds 20 = .ok (.getfield 16, 3) := by decide +kernel
theorem dX2_namesAreAtOdds_23 : decode cX2_namesAreAtOdds 23 = .ok (.aload_n 0, 1) := by decide +kernel
theorem dX2_namesAreAtOdds_24 : decode cX2_namesAreAtOdds 24 = .ok (.getfield 10, 3) := by decide +kernel
theorem dX2_namesAreAtOdds_27 : decode cX2_namesAreAtOdds 27 = .ok (.iload_n 1, 1) := by decide +kernel
theorem dX2_namesAreAtOdds_28 : decode cX2_namesAreAtOdds 28 = .ok (.invokevirtual 266, 3) := by decide +kernel
theorem dX2_namesAreAtOdds_31 : decode cX2_namesAreAtOdds 31 = .ok (.aload_n 0, 1) := by decide +kernel
theorem dX2_namesAreAtOdds_32 : decode cX2_namesAreAtOdds 32 = .ok (.getfield 19, 3) := by decide +kernel
theorem dX2_namesAreAtOdds_35 : decode cX2_namesAreAtOdds 35 = .ok (.aload_n 0, 1) := by decide +kernel
theorem dX2_namesAreAtOdds_36 : decode cX2_namesAreAtOdds 36 = .ok (.getfield 10, 3) := by decide +kernel
theorem dX2_namesAreAtOdds_39 : decode cX2_namesAreAtOdds 39 = .ok (.iload_n 1, 1) := by decide +kernel
theorem dX2_namesAreAtOdds_40 : decode cX2_namesAreAtOdds 40 = .ok (.invokevirtual 266, 3) := by decide +kernel
theorem dX2_namesAreAtOdds_43 : decode cX2_namesAreAtOdds 43 = .ok (.if_icmp .ne 7, 3) := by decide +kernel
theorem dX2_namesAreAtOdds_46 : decode cX2_namesAreAtOdds 46 = .ok (.iconst 1, 1) := by decide +kernel
theorem dX2_namesAreAtOdds_47 : decode cX2_namesAreAtOdds 47 = .ok (.goto 4, 3) := by decide +kernel
theorem dX2_namesAreAtOdds_50 : decode cX2_namesAreAtOdds 50 = .ok (.iconst 0, 1) := by decide +kernel
theorem dX2_namesAreAtOdds_51 : decode cX2_namesAreAtOdds 51 = .ok (.ireturn, 1) := by decide +kernel
set_option maxRecDepth 20000 in
theorem ggX2_listNamesTwice_X2_hasNameOfLowerColumn : GoodIn wsX2_listNamesTwice wsX2_hasNameOfLowerColumn := goodIn_r _ [6, 7, 8, 9, 10, 11, 12, 13, 14, 15, 16, 17, 28, 29, 30, 31, 32, 33, 34, 35, 36, 37, 38, 39] (by decide +kernel) (by decide +kernel)
set_option maxRecDepth 20000 in
theorem gX2_listNamesTwice_X2_hasNameOfLowerColumn : GoodIn wsX2_listNamesTwice (wsV RX2 269 RX2 yX2_hasNameOfLowerColumn wsX2_hasNameOfLowerColumn) := goodIn_app (goodIn_of _ (by decide +kernel)) ggX2_listNamesTwice_X2_hasNameOfLowerColumn
set_option maxRecDepth 20000 in
theorem ggX2_listNamesTwice_X0_append : GoodIn wsX2_listNamesTwice wsX0_append := goodIn_r _ [21, 22, 23, 24, 25, 26, 27, 40, 41, 42, 43, 44, 45] (by decide +kernel) (by decide +kernel)
set_option maxRecDepth 20000 in
theorem gX2_listNamesTwice_X0_append_n256 : GoodIn wsX2_listNamesTwice (wsX0_append) := ggX2_listNamesTwice_X0_append
theorem dX2_listNamesTwice_0 : decode cX2_listNamesTwice 0 = .ok (.iconst 0, 1) := by decide +kernel
theorem dX2_listNamesTwice_1 : decode cX2_listNamesTwice 1 = .ok (.istore_n 1, 1) := by decide +kernel
theorem dX2_listNamesTwice_2 : decode cX2_listNamesTwice 2 = .ok (.iload_n 1, 1) := by decide +kernel
theorem dX2_listNamesTwice_3 : decode cX2_listNamesTwice 3 = .ok (.bipush 8, 2) := by decide +kernel
theorem dX2_listNamesTwice_5 : decode cX2_listNamesTwice 5 = .ok (.if_icmp .ge 27, 3) := by decide +kernel
theorem dX2_listNamesTwice_8 : decode cX2_listNamesTwice 8 = .ok (.aload_n 0, 1) := by decide +kernel
theorem dX2_listNamesTwice_9 : decode cX2_listNamesTwice 9 = .ok (.iload_n 1, 1) := by decide +kernel
theorem dX2_listNamesTwice_10 : decode cX2_listNamesTwice 10 = .ok (.invokevirtual 269, 3) := by decide +kernel
theorem dX2_listNamesTwice_13 : decode cX2_listNamesTwice 13 = .ok (.ifCond .eq 13, 3) := by decide +kernel
theorem dX2_listNamesTwice_16 : decode cX2_listNamesTwice 16 = .ok (.aload_n 0, 1) := by decide +kernel
theorem dX2_listNamesTwice_17 : decode cX2_listNamesTwice 17 = .ok (.getfield 36, 3) := by decide +kernel
theorem dX2_listNamesTwice_20 : decode cX2_listNamesTwice 20 = .ok (.iconst 5, 1) := by decide +kernel
theorem dX2_listNamesTwice_21 : decode cX2_listNamesTwice 21 = .ok (.iconst (-1), 1) := by decide +kernel
theorem dX2_listNamesTwice_22 : decode cX2_listNamesTwice 22 = .ok (.iload_n 1, 1) := by decide +kernel
theorem dX2_listNamesTwice_23 : decode cX2_listNamesTwice 23 = .ok (.invokevirtual 256, 3) := by decide +kernel
theorem dX2_listNamesTwice_26 : decode cX2_listNamesTwice 26 = .ok (.iinc 1 1, 3) := by decide +kernel
theorem dX2_listNamesTwice_29 : decode cX2_listNamesTwice 29 = .ok (.goto (-27), 3) := by decide +kernel
theorem dX2_listNamesTwice_32 : decode cX2_listNamesTwice 32 = .ok (.return_, 1) := by decide +kernel
set_option maxRecDepth 20000 in
theorem ggX2_hasNameOfLowerColumn_X1_hasColumn : GoodIn wsX2_hasNameOfLowerColumn wsX1_hasColumn := goodIn_r _ [5, 6, 20, 21, 22, 23] (by decide +kernel) (by decide +kernel)
set_option maxRecDepth 20000 in
theorem gX2_hasNameOfLowerColumn_X1_hasColumn_n55 : GoodIn wsX2_hasNameOfLowerColumn (wsX1_hasColumn) := ggX2_hasNameOfLowerColumn_X1_hasColumn
set_option maxRecDepth 20000 in
theorem ggX2_hasNameOfLowerColumn_X1_nameAt : GoodIn wsX2_hasNameOfLowerColumn wsX1_nameAt := goodIn_r _ [9, 10, 11, 2, 4, 3, 5, 6, 20, 21, 22, 23] (by decide +kernel) (by decide +kernel)
set_option maxRecDepth 20000 in
theorem gX2_hasNameOfLowerColumn_X1_nameAt_n78 : GoodIn wsX2_hasNameOfLowerColumn (wsX1_nameAt) := ggX2_hasNameOfLowerColumn_X1_nameAt
theorem dX2_hasNameOfLowerColumn_0 : decode cX2_hasNameOfLowerColumn 0 = .ok (.aload_n 0, 1) := by decide +kernel
theorem dX2_hasNameOfLowerColumn_1 : decode cX2_hasNameOfLowerColumn 1 = .ok (.getfield 22, 3) := by decide +kernel
theorem dX2_hasNameOfLowerColumn_4 : decode cX2_hasNameOfLowerColumn 4 = .ok (.iload_n 1, 1) := by decide +kernel
theorem dX2_hasNameOfLowerColumn_5 : decode cX2_hasNameOfLowerColumn 5 = .ok (.invokevirtual 55, 3) := by decide +kernel
theorem dX2_hasNameOfLowerColumn_8 : decode cX2_hasNameOfLowerColumn 8 = .ok (.ifCond .ne 5, 3) := by decide +kernel
theorem dX2_hasNameOfLowerColumn_11 : decode cX2_hasNameOfLowerColumn 11 = .ok (.iconst 0, 1) := by decide +kernel
theorem dX2_hasNameOfLowerColumn_12 : decode cX2_hasNameOfLowerColumn 12 = .ok (.ireturn, 1) := by decide +kernel
theorem dX2_hasNameOfLowerColumn_13 : decode cX2_hasNameOfLowerColumn 13 = .ok (.iconst 0, 1) := by decide +kernel
theorem dX2_hasNameOfLowerColumn_14 : decode cX2_hasNameOfLowerColumn 14 = .ok (.istore_n 2, 1) := by decide +kernel
theorem dX2_hasNameOfLowerColumn_15 : decode cX2_hasNameOfLowerColumn 15 = .ok (.iload_n 2, 1) := by decide +kernel
theorem dX2_hasNameOfLowerColumn_16 : decode cX2_hasNameOfLowerColumn 16 = .ok (.iload_n 1, 1) := by decide +kernel
theorem dX2_hasNameOfLowerColumn_17 : decode cX2_hasNameOfLowerColumn 17 = .ok (.if_icmp .ge 41, 3) := by decide +kernel
theorem dX2_hasNameOfLowerColumn_20 : decode cX2_hasNameOfLowerColumn 20 = .ok (.aload_n 0, 1) := by decide +kernel
theorem dX2_hasNameOfLowerColumn_21 : decode cX2_hasNameOfLowerColumn 21 = .ok (.getfield 22, 3) := by decide +kernel
theorem dX2_hasNameOfLowerColumn_24 : decode cX2_hasNameOfLowerColumn 24 = .ok (.iload_n 2, 1) := by decide +kernel
theorem dX2_hasNameOfLowerColumn_25 : decode cX2_hasNameOfLowerColumn 25 = .ok (.invokevirtual 55, 3) := by decide +kernel
theorem dX2_hasNameOfLowerColumn_28 : decode cX2_hasNameOfLowerColumn 28 = .ok (.ifCond .eq 24, 3) := by decide +kernel
theorem dX2_hasNameOfLowerColumn_31 : decode cX2_hasNameOfLowerColumn 31 = .ok (.aload_n 0, 1) := by decide +kernel
theorem dX2_hasNameOfLowerColumn_32 : decode cX2_hasNameOfLowerColumn 32 = .ok (.getfield 22, 3) := by decide +kernel
theorem dX2_hasNameOfLowerColumn_35 : decode cX2_hasNameOfLowerColumn 35 = .ok (.iload_n 2, 1) := by decide +kernel
theorem dX2_hasNameOfLowerColumn_36 : decode cX2_hasNameOfLowerColumn 36 = .ok (.invokevirtual 78, 3) := by decide +kernel
theorem dX2_hasNameOfLowerColumn_39 : decode cX2_hasNameOfLowerColumn 39 = .ok (.aload_n 0, 1) := by decide +kernel
theorem dX2_hasNameOfLowerColumn_40 : decode cX2_hasNameOfLowerColumn 40 = .ok (.getfield 22, 3) := by decide +kernel
theorem dX2_hasNameOfLowerColumn_43 : decode cX2_hasNameOfLowerColumn 43 = .ok (.iload_n 1, 1) := by decide +kernel
theorem dX2_hasNameOfLowerColumn_44 : decode cX2_hasNameOfLowerColumn 44 = .ok (.invokevirtual 78, 3) := by decide +kernel
theorem dX2_hasNameOfLowerColumn_47 : decode cX2_hasNameOfLowerColumn 47 = .ok (.if_icmp .ne 5, 3) := by decide +kernel
theorem dX2_hasNameOfLowerColumn_50 : decode cX2_hasNameOfLowerColumn 50 = .ok (.iconst 1, 1) := by decide +kernel
theorem dX2_hasNameOfLowerColumn_51 : decode cX2_hasNameOfLowerColumn 51 = .ok (.ireturn, 1) := by decide +kernel
theorem dX2_hasNameOfLowerColumn_52 : decode cX2_hasNameOfLowerColumn 52 = .ok (.iinc 2 1, 3) := by decide +kernel
theorem dX2_hasNameOfLowerColumn_55 : decode cX2_hasNameOfLowerColumn 55 = .ok (.goto (-40), 3) := by decide +kernel
theorem dX2_hasNameOfLowerColumn_58 : decode cX2_hasNameOfLowerColumn 58 = .ok (.iconst 0, 1) := by decide +kernel
theorem dX2_hasNameOfLowerColumn_59 : decode cX2_hasNameOfLowerColumn 59 = .ok (.ireturn, 1) := by decide +kernel
set_option maxRecDepth 20000 in
theorem ggX2_mergeRow_X2_rowStays : GoodIn wsX2_mergeRow wsX2_rowStays := goodIn_r _ [10, 2, 3, 4, 11, 12, 13, 14, 15, 16, 17, 18, 19, 20, 21, 22, 23, 24, 25, 26, 27, 28, 29, 30, 31, 32, 33, 49, 50, 51, 52, 53, 54, 55, 56, 57, 58, 59, 60] (by decide +kernel) (by decide +kernel)
set_option maxRecDepth 20000 in
theorem gX2_mergeRow_X2_rowStays : GoodIn wsX2_mergeRow (wsV RX2 272 RX2 yX2_rowStays wsX2_rowStays) := goodIn_app (goodIn_of _ (by decide +kernel)) ggX2_mergeRow_X2_rowStays
set_option maxRecDepth 20000 in
theorem ggX2_mergeRow_X1_putRow : GoodIn wsX2_mergeRow wsX1_putRow := goodIn_r _ [36, 15, 37, 9, 38, 57, 58, 59, 60] (by decide +kernel) (by decide +kernel)
set_option maxRecDepth 20000 in
theorem gX2_mergeRow_X1_putRow_n96 : GoodIn wsX2_mergeRow (wsX1_putRow) := ggX2_mergeRow_X1_putRow
set_option maxRecDepth 20000 in
theorem ggX2_mergeRow_X1_hasRow : GoodIn wsX2_mergeRow wsX1_hasRow := goodIn_r _ [14, 15, 57, 58, 59, 60] (by decide +kernel) (by decide +kernel)
set_option maxRecDepth 20000 in
theorem gX2_mergeRow_X1_hasRow_n91 : GoodIn wsX2_mergeRow (wsX1_hasRow) := ggX2_mergeRow_X1_hasRow
set_option maxRecDepth 20000 in
theorem ggX2_mergeRow_X0_append : GoodIn wsX2_mergeRow wsX0_append := goodIn_r _ [42, 43, 44, 45, 46, 47, 48, 61, 62, 63, 64, 65, 66] (by decide +kernel) (by decide +kernel)
set_option maxRecDepth 20000 in
theorem gX2_mergeRow_X0_append_n256 : GoodIn wsX2_mergeRow (wsX0_append) := ggX2_mergeRow_X0_append
theorem dX2_mergeRow_0 : decode cX2_mergeRow 0 = .ok (.aload_n 0, 1) := by decide +kernel
theorem dX2_mergeRow_1 : decode cX2_mergeRow 1 = .ok (.iload_n 1, 1) := by decide +kernel
theorem dX2_mergeRow_2 : decode cX2_mergeRow 2 = .ok (.invokevirtual 272, 3) := by decide +kernel
theorem dX2_mergeRow_5 : decode cX2_mergeRow 5 = .ok (.ifCond .ne 4, 3) := by decide +kernel
theorem dX2_mergeRow_8 : decode cX2_mergeRow 8 = .ok (.return_, 1) := by decide +kernel
theorem dX2_mergeRow_9 : decode cX2_mergeRow 9 = .ok (.aload_n 0, 1) := by decide +kernel
theorem dX2_mergeRow_10 : decode cX2_mergeRow 10 = .ok (.getfield 22, 3) := by decide +kernel
theorem dX2_mergeRow_13 : decode cX2_mergeRow 13 = .ok (.iload_n 1, 1) := by decide +kernel
theorem dX2_mergeRow_14 : decode cX2_mergeRow 14 = .ok (.invokevirtual 96, 3) := by decide +kernel
theorem dX2_mergeRow_17 : decode cX2_mergeRow 17 = .ok (.aload_n 0, 1) := by decide +kernel
theorem dX2_mergeRow_18 : decode cX2_mergeRow 18 = .ok (.getfield 16, 3) := by decide +kernel
theorem dX2_mergeRow_21 : decode cX2_mergeRow 21 = .ok (.iload_n 1, 1) := by decide +kernel
theorem dX2_mergeRow_22 : decode cX2_mergeRow 22 = .ok (.invokevirtual 91, 3) := by decide +kernel
theorem dX2_mergeRow_25 : decode cX2_mergeRow 25 = .ok (.ifCond .eq 18, 3) := by decide +kernel
theorem dX2_mergeRow_28 : decode cX2_mergeRow 28 = .ok (.aload_n 0, 1) := by decide +kernel
theorem dX2_mergeRow_29 : decode cX2_mergeRow 29 = .ok (.getfield 19, 3) := by decide +kernel
theorem dX2_mergeRow_32 : decode cX2_mergeRow 32 = .ok (.iload_n 1, 1) := by decide +kernel
theorem dX2_mergeRow_33 : decode cX2_mergeRow 33 = .ok (.invokevirtual 91, 3) := by decide +kernel
theorem dX2_mergeRow_36 : decode cX2_mergeRow 36 = .ok (.ifCond .eq 7, 3) := by decide +kernel
theorem dX2_mergeRow_39 : decode cX2_mergeRow 39 = .ok (.iconst 1, 1) := by decide +kernel
theorem dX2_mergeRow_40 : decode cX2_mergeRow 40 = .ok (.goto 4, 3) := by decide +kernel
theorem dX2_mergeRow_43 : decode cX2_mergeRow 43 = .ok (.iconst 0, 1) := by decide +kernel
theorem dX2_mergeRow_44 : decode cX2_mergeRow 44 = .ok (.istore_n 2, 1) := by decide +kernel
theorem dX2_mergeRow_45 : decode cX2_mergeRow 45 = .ok (.iload_n 2, 1) := by decide +kernel
theorem dX2_mergeRow_46 : decode cX2_mergeRow 46 = .ok (.ifCond .ne 24, 3) := by decide +kernel
theorem dX2_mergeRow_49 : decode cX2_mergeRow 49 = .ok (.aload_n 0, 1) := by decide +kernel
theorem dX2_mergeRow_50 : decode cX2_mergeRow 50 = .ok (.getfield 10, 3) := by decide +kernel
theorem dX2_mergeRow_53 : decode cX2_mergeRow 53 = .ok (.iload_n 1, 1) := by decide +kernel
theorem dX2_mergeRow_54 : decode cX2_mergeRow 54 = .ok (.invokevirtual 91, 3) := by decide +kernel
theorem dX2_mergeRow_57 : decode cX2_mergeRow 57 = .ok (.ifCond .eq 13, 3) := by decide +kernel
theorem dX2_mergeRow_60 : decode cX2_mergeRow 60 = .ok (.aload_n 0, 1) := by decide +kernel
theorem dX2_mergeRow_61 : decode cX2_mergeRow 61 = .ok (.getfield 36, 3) := by decide +kernel
theorem dX2_mergeRow_64 : decode cX2_mergeRow 64 = .ok (.iconst 2, 1) := by decide +kernel
theorem dX2_mergeRow_65 : decode cX2_mergeRow 65 = .ok (.iload_n 1, 1) := by decide +kernel
theorem dX2_mergeRow_66 : decode cX2_mergeRow 66 = .ok (.iconst (-1), 1) := by decide +kernel
theorem dX2_mergeRow_67 : decode cX2_mergeRow 67 = .ok (.invokevirtual 256, 3) := by decide +kernel
theorem dX2_mergeRow_70 : decode cX2_mergeRow 70 = .ok (.return_, 1) := by decide +kernel
set_option maxRecDepth 20000 in
theorem ggX2_rowStays_X1_hasRow : GoodIn wsX2_rowStays wsX1_hasRow := goodIn_r _ [7, 8, 35, 36, 37, 38] (by decide +kernel) (by decide +kernel)
set_option maxRecDepth 20000 in
theorem gX2_rowStays_X1_hasRow_n91 : GoodIn wsX2_rowStays (wsX1_hasRow) := ggX2_rowStays_X1_hasRow
set_option maxRecDepth 20000 in
theorem ggX2_rowStays_X1_countCellsChanged : GoodIn wsX2_rowStays wsX1_countCellsChanged := goodIn_r _ [11, 12, 13, 14, 5, 15, 16, 17, 18, 19, 20, 21, 4, 6, 7, 8, 22, 23, 24, 25, 26, 35, 36, 37, 38] (by decide +kernel) (by decide +kernel)
set_option maxRecDepth 20000 in
theorem gX2_rowStays_X1_countCellsChanged_n275 : GoodIn wsX2_rowStays (wsX1_countCellsChanged) := ggX2_rowStays_X1_countCellsChanged
theorem dX2_rowStays_0 : decode cX2_rowStays 0 = .ok (.aload_n 0, 1) := by decide +kernel
theorem dX2_rowStays_1 : decode cX2_rowStays 1 = .ok (.getfield 16, 3) := by decide +kernel
theorem dX2_rowStays_4 : decode cX2_rowStays 4 = .ok (.iload_n 1, 1) := by decide +kernel
theorem dX2_rowStays_5 : decode cX2_rowStays 5 = .ok (.invokevirtual 91, 3) := by decide +kernel
theorem dX2_rowStays_8 : decode cX2_rowStays 8 = .ok (.istore_n 2, 1) := by decide +kernel
theorem dX2_rowStays_9 : decode cX2_rowStays 9 = .ok (.aload_n 0, 1) := by decide +kernel
theorem dX2_rowStays_10 : decode cX2_rowStays 10 = .ok (.getfield 19, 3) := by decide +kernel
theorem dX2_rowStays_13 : decode cX2_rowStays 13 = .ok (.iload_n 1, 1) := by decide +kernel
theorem dX2_rowStays_14 : decode cX2_rowStays 14 = .ok (.invokevirtual 91, 3) := by decide +kernel
theorem dX2_rowStays_17 : decode cX2_rowStays 17 = .ok (.istore_n 3, 1) := by decide +kernel
theorem dX2_rowStays_18 : decode cX2_rowStays 18 = .ok (.iload_n 2, 1) := by decide +kernel
theorem dX2_rowStays_19 : decode cX2_rowStays 19 = .ok (.ifCond .eq 9, 3) := by decide +kernel
theorem dX2_rowStays_22 : decode cX2_rowStays 22 = .ok (.iload_n 3, 1) := by decide +kernel
theorem dX2_rowStays_23 : decode cX2_rowStays 23 = .ok (.ifCond .eq 5, 3) := by decide +kernel
theorem dX2_rowStays_26 : decode cX2_rowStays 26 = .ok (.iconst 1, 1) := by decide +kernel
theorem dX2_rowStays_27 : decode cX2_rowStays 27 = .ok (.ireturn, 1) := by decide +kernel
theorem dX2_rowStays_28 : decode cX2_rowStays 28 = .ok (.aload_n 0, 1) := by decide +kernel
theorem dX2_rowStays_29 : decode cX2_rowStays 29 = .ok (.getfield 10, 3) := by decide +kernel
theorem dX2_rowStays_32 : decode cX2_rowStays 32 = .ok (.iload_n 1, 1) := by decide +kernel
theorem dX2_rowStays_33 : decode cX2_rowStays 33 = .ok (.invokevirtual 91, 3) := by decide +kernel
theorem dX2_rowStays_36 : decode cX2_rowStays 36 = .ok (.ifCond .ne 17, 3) := by decide +kernel
theorem dX2_rowStays_39 : decode cX2_rowStays 39 = .ok (.iload_n 2, 1) := by decide +kernel
theorem dX2_rowStays_40 : decode cX2_rowStays 40 = .ok (.ifCond .ne 7, 3) := by decide +kernel
theorem dX2_rowStays_43 : decode cX2_rowStays 43 = .ok (.iload_n 3, 1) := by decide +kernel
theorem dX2_rowStays_44 : decode cX2_rowStays 44 = .ok (.ifCond .eq 7, 3) := by decide +kernel
theorem dX2_rowStays_47 : decode cX2_rowStays 47 = .ok (.iconst 1, 1) := by decide +kernel
theorem dX2_rowStays_48 : decode cX2_rowStays 48 = .ok (.goto 4, 3) := by decide +kernel
theorem dX2_rowStays_51 : decode cX2_rowStays 51 = .ok (.iconst 0, 1) := by decide +kernel
theorem dX2_rowStays_52 : decode cX2_rowStays 52 = .ok (.ireturn, 1) := by decide +kernel
theorem dX2_rowStays_53 : decode cX2_rowStays 53 = .ok (.aload_n 0, 1) := by decide +kernel
theorem dX2_rowStays_54 : decode cX2_rowStays 54 = .ok (.getfield 16, 3) := by decide +kernel
theorem dX2_rowStays_57 : decode cX2_rowStays 57 = .ok (.aload_n 0, 1) := by decide +kernel
theorem dX2_rowStays_58 : decode cX2_rowStays 58 = .ok (.getfield 10, 3) := by decide +kernel
theorem dX2_rowStays_61 : decode cX2_rowStays 61 = .ok (.iload_n 1, 1) := by decide +kernel
theorem dX2_rowStays_62 : decode cX2_rowStays 62 = .ok (.invokevirtual 275, 3) := by decide +kernel
theorem dX2_rowStays_65 : decode cX2_rowStays 65 = .ok (.ifCond .gt 18, 3) := by decide +kernel
theorem dX2_rowStays_68 : decode cX2_rowStays 68 = .ok (.aload_n 0, 1) := by decide +kernel
theorem dX2_rowStays_69 : decode cX2_rowStays 69 = .ok (.getfield 19, 3) := by decide +kernel
theorem dX2_rowStays_72 : decode cX2_rowStays 72 = .ok (.aload_n 0, 1) := by decide +kernel
theorem dX2_rowStays_73 : decode cX2_rowStays 73 = .ok (.getfield 10, 3) := by decide +kernel
theorem dX2_rowStays_76 : decode cX2_rowStays 76 = .ok (.iload_n 1, 1) := by decide +kernel
theorem dX2_rowStays_77 : decode cX2_rowStays 77 = .ok (.invokevirtual 275, 3) := by decide +kernel
theorem dX2_rowStays_80 : decode cX2_rowStays 80 = .ok (.ifCond .le 7, 3) := by decide +kernel
theorem dX2_rowStays_83 : decode cX2_rowStays 83 = .ok (.iconst 1, 1) := by decide +kernel
theorem dX2_rowStays_84 : decode cX2_rowStays 84 = .ok (.goto 4, 3) := by decide +kernel
theorem dX2_rowStays_87 : decode cX2_rowStays 87 = .ok (.iconst 0, 1) := by decide +kernel
theorem dX2_rowStays_88 : decode cX2_rowStays 88 = .ok (.ireturn, 1) := by decide +kernel
set_option maxRecDepth 20000 in
theorem ggX2_mergeCells_X2_mergeCell : GoodIn wsX2_mergeCells wsX2_mergeCell := goodIn_r _ [5, 6, 7, 8, 9, 10, 4, 11, 12, 13, 14, 15, 16, 17, 18, 19, 20, 21, 22, 23, 24, 25, 26, 27, 28, 29, 30, 31, 32, 33, 34, 35, 36, 37, 38, 39, 40, 41, 42, 43, 44, 45, 46, 47, 48, 49, 50, 51, 52, 53, 54, 55, 56, 57, 58, 59, 60, 61, 62, 63, 64, 65, 66, 67, 68, 69, 70, 71, 72, 73, 74, 75, 76] (by decide +kernel) (by decide +kernel)
set_option maxRecDepth 20000 in
theorem gX2_mergeCells_X2_mergeCell : GoodIn wsX2_mergeCells (wsV RX2 279 RX2 yX2_mergeCell wsX2_mergeCell) := goodIn_app (goodIn_of _ (by decide +kernel)) ggX2_mergeCells_X2_mergeCell
theorem dX2_mergeCells_0 : decode cX2_mergeCells 0 = .ok (.iconst 0, 1) := by decide +kernel
theorem dX2_mergeCells_1 : decode cX2_mergeCells 1 = .ok (.istore_n 1, 1) := by decide +kernel
theorem dX2_mergeCells_2 : decode cX2_mergeCells 2 = .ok (.iload_n 1, 1) := by decide +kernel
theorem dX2_mergeCells_3 : decode cX2_mergeCells 3 = .ok (.bipush 24, 2) := by decide +kernel
theorem dX2_mergeCells_5 : decode cX2_mergeCells 5 = .ok (.if_icmp .ge 29, 3) := by decide +kernel
theorem dX2_mergeCells_8 : decode cX2_mergeCells 8 = .ok (.iconst 0, 1) := by decide +kernel
theorem dX2_mergeCells_9 : decode cX2_mergeCells 9 = .ok (.istore_n 2, 1) := by decide +kernel
theorem dX2_mergeCells_10 : decode cX2_mergeCells 10 = .ok (.iload_n 2, 1) := by decide +kernel
theorem dX2_mergeCells_11 : decode cX2_mergeCells 11 = .ok (.bipush 8, 2) := by decide +kernel
theorem dX2_mergeCells_13 : decode cX2_mergeCells 13 = .ok (.if_icmp .ge 15, 3) := by decide +kernel
theorem dX2_mergeCells_16 : decode cX2_mergeCells 16 = .ok (.aload_n 0, 1) := by decide +kernel
theorem dX2_mergeCells_17 : decode cX2_mergeCells 17 = .ok (.iload_n 1, 1) := by decide +kernel
theorem dX2_mergeCells_18 : decode cX2_mergeCells 18 = .ok (.iload_n 2, 1) := by decide +kernel
theorem dX2_mergeCells_19 : decode cX2_mergeCells 19 = .ok (.invokevirtual 279, 3) := by decide +kernel
theorem dX2_mergeCells_22 : decode cX2_mergeCells 22 = .ok (.iinc 2 1, 3) := by decide +kernel
theorem dX2_mergeCells_25 : decode cX2_mergeCells 25 = .ok (.goto (-15), 3) := by decide +kernel
theorem dX2_mergeCells_28 : decode cX2_mergeCells 28 = .ok (.iinc 1 1, 3) := by decide +kernel
theorem dX2_mergeCells_31 : decode cX2_mergeCells 31 = .ok (.goto (-29), 3) := by decide +kernel
theorem dX2_mergeCells_34 : decode cX2_mergeCells 34 = .ok (.return_, 1) := by decide +kernel
set_option maxRecDepth 20000 in
theorem ggX2_mergeCell_X2_isColumnNumber : GoodIn wsX2_mergeCell wsX2_isColumnNumber := goodIn_r _ [7] (by decide +kernel) (by decide +kernel)
set_option maxRecDepth 20000 in
theorem gX2_mergeCell_X2_isColumnNumber : GoodIn wsX2_mergeCell (va_wsS RX2 229 yX2_isColumnNumber wsX2_isColumnNumber) := goodIn_app (goodIn_of _ (by decide +kernel)) ggX2_mergeCell_X2_isColumnNumber
set_option maxRecDepth 20000 in
theorem ggX2_mergeCell_X1_hasCell : GoodIn wsX2_mergeCell wsX1_hasCell := goodIn_r _ [11, 12, 13, 14, 9, 15, 16, 17, 18, 19, 20, 21, 63, 64, 65, 66] (by decide +kernel) (by decide +kernel)
set_option maxRecDepth 20000 in
theorem gX2_mergeCell_X1_hasCell_n185 : GoodIn wsX2_mergeCell (wsX1_hasCell) := ggX2_mergeCell_X1_hasCell
set_option maxRecDepth 20000 in
theorem ggX2_mergeCell_X2_cellsAreUnlike : GoodIn wsX2_mergeCell wsX2_cellsAreUnlike := goodIn_r _ [25, 26, 27, 28, 8, 9, 10, 11, 12, 13, 14, 15, 16, 17, 18, 19, 20, 21, 29, 30, 31, 32, 33, 55, 56, 57, 58, 59, 60, 61, 62, 63, 64, 65, 66] (by decide +kernel) (by decide +kernel)
set_option maxRecDepth 20000 in
theorem gX2_mergeCell_X2_cellsAreUnlike : GoodIn wsX2_mergeCell (wsV RX2 282 RX2 yX2_cellsAreUnlike wsX2_cellsAreUnlike) := goodIn_app (goodIn_of _ (by decide +kernel)) ggX2_mergeCell_X2_cellsAreUnlike
set_option maxRecDepth 20000 in
theorem ggX2_mergeCell_X2_mergedCell : GoodIn wsX2_mergeCell wsX2_mergedCell := goodIn_r _ [37, 26, 27, 28, 38, 39, 40, 41, 29, 9, 30, 31, 32, 33, 8, 10, 11, 12, 13, 14, 15, 16, 17, 18, 19, 20, 21, 55, 56, 57, 58, 59, 60, 61, 62, 63, 64, 65, 66] (by decide +kernel) (by decide +kernel)
set_option maxRecDepth 20000 in
theorem gX2_mergeCell_X2_mergedCell : GoodIn wsX2_mergeCell (wsV RX2 285 RX2 yX2_mergedCell wsX2_mergedCell) := goodIn_app (goodIn_of _ (by decide +kernel)) ggX2_mergeCell_X2_mergedCell
set_option maxRecDepth 20000 in
theorem ggX2_mergeCell_X1_putCell : GoodIn wsX2_mergeCell wsX1_putCell := goodIn_r _ [44, 32, 33, 8, 10, 9, 11, 12, 13, 14, 15, 16, 17, 18, 19, 20, 21, 63, 64, 65, 66] (by decide +kernel) (by decide +kernel)
set_option maxRecDepth 20000 in
theorem gX2_mergeCell_X1_putCell_n117 : GoodIn wsX2_mergeCell (wsX1_putCell) := ggX2_mergeCell_X1_putCell
set_option maxRecDepth 20000 in
theorem ggX2_mergeCell_X0_append : GoodIn wsX2_mergeCell wsX0_append := goodIn_r _ [48, 49, 50, 51, 52, 53, 54, 67, 68, 69, 70, 71, 72] (by decide +kernel) (by decide +kernel)
set_option maxRecDepth 20000 in
theorem gX2_mergeCell_X0_append_n256 : GoodIn wsX2_mergeCell (wsX0_append) := ggX2_mergeCell_X0_append
theorem dX2_mergeCell_0 : decode cX2_mergeCell 0 = .ok (.iload_n 2, 1) := by decide +kernel
theorem dX2_mergeCell_1 : decode cX2_mergeCell 1 = .ok (.invokestatic 229, 3) := by decide +kernel
theorem dX2_mergeCell_4 : decode cX2_mergeCell 4 = .ok (.ifCond .eq 15, 3) := by decide +kernel
theorem dX2_mergeCell_7 : decode cX2_mergeCell 7 = .ok (.aload_n 0, 1) := by decide +kernel
theorem dX2_mergeCell_8 : decode cX2_mergeCell 8 = .ok (.getfield 22, 3) := by decide +kernel
theorem dX2_mergeCell_11 : decode cX2_mergeCell 11 = .ok (.iload_n 1, 1) := by decide +kernel
theorem dX2_mergeCell_12 : decode cX2_mergeCell 12 = .ok (.iload_n 2, 1) := by decide +kernel
theorem dX2_mergeCell_13 : decode cX2_mergeCell 13 = .ok (.invokevirtual 185, 3) := by decide +kernel
theorem dX2_mergeCell_16 : decode cX2_mergeCell 16 = .ok (.ifCond .ne 4, 3) := by decide +kernel
theorem dX2_mergeCell_19 : decode cX2_mergeCell 19 = .ok (.return_, 1) := by decide +kernel
theorem dX2_mergeCell_20 : decode cX2_mergeCell 20 = .ok (.aload_n 0, 1) := by decide +kernel
theorem dX2_mergeCell_21 : decode cX2_mergeCell 21 = .ok (.iload_n 1, 1) := by decide +kernel
theorem dX2_mergeCell_22 : decode cX2_mergeCell 22 = .ok (.iload_n 2, 1) := by decide +kernel
theorem dX2_mergeCell_23 : decode cX2_mergeCell 23 = .ok (.invokevirtual 282, 3) := by decide +kernel
theorem dX2_mergeCell_26 : decode cX2_mergeCell 26 = .ok (.istore_n 3, 1) := by decide +kernel
theorem dX2_mergeCell_27 : decode cX2_mergeCell 27 = .ok (.aload_n 0, 1) := by decide +kernel
theorem dX2_mergeCell_28 : decode cX2_mergeCell 28 = .ok (.getfield 22, 3) := by decide +kernel
theorem dX2_mergeCell_31 : decode cX2_mergeCell 31 = .ok (.iload_n 1, 1) := by decide +kernel
theorem dX2_mergeCell_32 : decode cX2_mergeCell 32 = .ok (.iload_n 2, 1) := by decide +kernel
theorem dX2_mergeCell_33 : decode cX2_mergeCell 33 = .ok (.aload_n 0, 1) := by decide +kernel
theorem dX2_mergeCell_34 : decode cX2_mergeCell 34 = .ok (.iload_n 1, 1) := by decide +kernel
theorem dX2_mergeCell_35 : decode cX2_mergeCell 35 = .ok (.iload_n 2, 1) := by decide +kernel
theorem dX2_mergeCell_36 : decode cX2_mergeCell 36 = .ok (.aload_n 0, 1) := by decide +kernel
theorem dX2_mergeCell_37 : decode cX2_mergeCell 37 = .ok (.getfield 25, 3) := by decide +kernel
theorem dX2_mergeCell_40 : decode cX2_mergeCell 40 = .ok (.iload_n 2, 1) := by decide +kernel
theorem dX2_mergeCell_41 : decode cX2_mergeCell 41 = .ok (.iaload, 1) := by decide +kernel
theorem dX2_mergeCell_42 : decode cX2_mergeCell 42 = .ok (.iload_n 3, 1) := by decide +kernel
theorem dX2_mergeCell_43 : decode cX2_mergeCell 43 = .ok (.invokevirtual 285, 3) := by decide +kernel
theorem dX2_mergeCell_46 : decode cX2_mergeCell 46 = .ok (.invokevirtual 117, 3) := by decide +kernel
theorem dX2_mergeCell_49 : decode cX2_mergeCell 49 = .ok (.iload_n 3, 1) := by decide +kernel
theorem dX2_mergeCell_50 : decode cX2_mergeCell 50 = .ok (.ifCond .eq 22, 3) := by decide +kernel
theorem dX2_mergeCell_53 : decode cX2_mergeCell 53 = .ok (.aload_n 0, 1) := by decide +kernel
theorem dX2_mergeCell_54 : decode cX2_mergeCell 54 = .ok (.getfield 25, 3) := by decide +kernel
theorem dX2_mergeCell_57 : decode cX2_mergeCell 57 = .ok (.iload_n 2, 1) := by decide +kernel
theorem dX2_mergeCell_58 : decode cX2_mergeCell 58 = .ok (.iaload, 1) := by decide +kernel
theorem dX2_mergeCell_59 : decode cX2_mergeCell 59 = .ok (.ifCond .ne 13, 3) := by decide +kernel
theorem dX2_mergeCell_62 : decode cX2_mergeCell 62 = .ok (.aload_n 0, 1) := by decide +kernel
theorem dX2_mergeCell_63 : decode cX2_mergeCell 63 = .ok (.getfield 36, 3) := by decide +kernel
theorem dX2_mergeCell_66 : decode cX2_mergeCell 66 = .ok (.iconst 1, 1) := by decide +kernel
theorem dX2_mergeCell_67 : decode cX2_mergeCell 67 = .ok (.iload_n 1, 1) := by decide +kernel
theorem dX2_mergeCell_68 : decode cX2_mergeCell 68 = .ok (.iload_n 2, 1) := by decide +kernel
theorem dX2_mergeCell_69 : decode cX2_mergeCell 69 = .ok (.invokevirtual 256, 3) := by decide +kernel
theorem dX2_mergeCell_72 : decode cX2_mergeCell 72 = .ok (.return_, 1) := by decide +kernel
set_option maxRecDepth 20000 in
theorem ggX2_mergedCell_X1_cellAt : GoodIn wsX2_mergedCell wsX1_cellAt := goodIn_r _ [11, 12, 13, 14, 15, 9, 16, 17, 18, 19, 20, 21, 22, 23, 24, 25, 26, 35, 36, 37, 38] (by decide +kernel) (by decide +kernel)
set_option maxRecDepth 20000 in
theorem gX2_mergedCell_X1_cellAt_n113 : GoodIn wsX2_mergedCell (wsX1_cellAt) := ggX2_mergedCell_X1_cellAt
set_option maxRecDepth 20000 in
theorem ggX2_mergedCell_X1_hasCell : GoodIn wsX2_mergedCell wsX1_hasCell := goodIn_r _ [16, 17, 18, 19, 9, 20, 21, 22, 23, 24, 25, 26, 35, 36, 37, 38] (by decide +kernel) (by decide +kernel)
set_option maxRecDepth 20000 in
theorem gX2_mergedCell_X1_hasCell_n185 : GoodIn wsX2_mergedCell (wsX1_hasCell) := ggX2_mergedCell_X1_hasCell
theorem dX2_mergedCell_0 : decode cX2_mergedCell 0 = .ok (.aload_n 0, 1) := by decide +kernel
theorem dX2_mergedCell_1 : decode cX2_mergedCell 1 = .ok (.getfield 16, 3) := by decide +kernel
theorem dX2_mergedCell_4 : decode cX2_mergedCell 4 = .ok (.iload_n 1, 1) := by decide +kernel
theorem dX2_mergedCell_5 : decode cX2_mergedCell 5 = .ok (.iload_n 2, 1) := by decide +kernel
theorem dX2_mergedCell_6 : decode cX2_mergedCell 6 = .ok (.invokevirtual 113, 3) := by decide +kernel
theorem dX2_mergedCell_9 : decode cX2_mergedCell 9 = .ok (.istore 5, 2) := by decide +kernel
theorem dX2_mergedCell_11 : decode cX2_mergedCell 11 = .ok (.aload_n 0, 1) := by decide +kernel
theorem dX2_mergedCell_12 : decode cX2_mergedCell 12 = .ok (.getfield 19, 3) := by decide +kernel
theorem dX2_mergedCell_15 : decode cX2_mergedCell 15 = .ok (.iload_n 1, 1) := by decide +kernel
theorem dX2_mergedCell_16 : decode cX2_mergedCell 16 = .ok (.iload_n 2, 1) := by decide +kernel
theorem dX2_mergedCell_17 : decode cX2_mergedCell 17 = .ok (.invokevirtual 113, 3) := by decide +kernel
theorem dX2_mergedCell_20 : decode cX2_mergedCell 20 = .ok (.istore 6, 2) := by decide +kernel
theorem dX2_mergedCell_22 : decode cX2_mergedCell 22 = .ok (.aload_n 0, 1) := by decide +kernel
theorem dX2_mergedCell_23 : decode cX2_mergedCell 23 = .ok (.getfield 16, 3) := by decide +kernel
theorem dX2_mergedCell_26 : decode cX2_mergedCell 26 = .ok (.iload_n 1, 1) := by decide +kernel
theorem dX2_mergedCell_27 : decode cX2_mergedCell 27 = .ok (.iload_n 2, 1) := by decide +kernel
theorem dX2_mergedCell_28 : decode cX2_mergedCell 28 = .ok (.invokevirtual 185, 3) := by decide +kernel
theorem dX2_mergedCell_31 : decode cX2_mergedCell 31 = .ok (.ifCond .ne 6, 3) := by decide +kernel
theorem dX2_mergedCell_34 : decode cX2_mergedCell 34 = .ok (.iload 6, 2) := by decide +kernel
theorem dX2_mergedCell_36 : decode cX2_mergedCell 36 = .ok (.ireturn, 1) := by decide +kernel
theorem dX2_mergedCell_37 : decode cX2_mergedCell 37 = .ok (.aload_n 0, 1) := by decide +kernel
theorem dX2_mergedCell_38 : decode cX2_mergedCell 38 = .ok (.getfield 19, 3) := by decide +kernel
theorem dX2_mergedCell_41 : decode cX2_mergedCell 41 = .ok (.iload_n 1, 1) := by decide +kernel
theorem dX2_mergedCell_42 : decode cX2_mergedCell 42 = .ok (.iload_n 2, 1) := by decide +kernel
theorem dX2_mergedCell_43 : decode cX2_mergedCell 43 = .ok (.invokevirtual 185, 3) := by decide +kernel
theorem dX2_mergedCell_46 : decode cX2_mergedCell 46 = .ok (.ifCond .ne 6, 3) := by decide +kernel
theorem dX2_mergedCell_49 : decode cX2_mergedCell 49 = .ok (.iload 5, 2) := by decide +kernel
theorem dX2_mergedCell_51 : decode cX2_mergedCell 51 = .ok (.ireturn, 1) := by decide +kernel
theorem dX2_mergedCell_52 : decode cX2_mergedCell 52 = .ok (.aload_n 0, 1) := by decide +kernel
theorem dX2_mergedCell_53 : decode cX2_mergedCell 53 = .ok (.getfield 10, 3) := by decide +kernel
theorem dX2_mergedCell_56 : decode cX2_mergedCell 56 = .ok (.iload_n 1, 1) := by decide +kernel
theorem dX2_mergedCell_57 : decode cX2_mergedCell 57 = .ok (.iload_n 2, 1) := by decide +kernel
theorem dX2_mergedCell_58 : decode cX2_mergedCell 58 = .ok (.invokevirtual 113, 3) := by decide +kernel
theorem dX2_mergedCell_61 : decode cX2_mergedCell 61 = .ok (.istore 7, 2) := by decide +kernel
theorem dX2_mergedCell_63 : decode cX2_mergedCell 63 = .ok (.iload_n 3, 1) := by decide +kernel
theorem dX2_mergedCell_64 : decode cX2_mergedCell 64 = .ok (.iconst 3, 1) := by decide +kernel
theorem dX2_mergedCell_65 : decode cX2_mergedCell 65 = .ok (.if_icmp .ne 12, 3) := by decide +kernel
theorem dX2_mergedCell_68 : decode cX2_mergedCell 68 = .ok (.iload 5, 2) := by decide +kernel
theorem dX2_mergedCell_70 : decode cX2_mergedCell 70 = .ok (.iload 6, 2) := by decide +kernel
theorem dX2_mergedCell_72 : decode cX2_mergedCell 72 = .ok (.iadd, 1) := by decide +kernel
theorem dX2_mergedCell_73 : decode cX2_mergedCell 73 = .ok (.iload 7, 2) := by decide +kernel
theorem dX2_mergedCell_75 : decode cX2_mergedCell 75 = .ok (.isub, 1) := by decide +kernel
theorem dX2_mergedCell_76 : decode cX2_mergedCell 76 = .ok (.ireturn, 1) := by decide +kernel
theorem dX2_mergedCell_77 : decode cX2_mergedCell 77 = .ok (.iload 4, 2) := by decide +kernel
theorem dX2_mergedCell_79 : decode cX2_mergedCell 79 = .ok (.ifCond .eq 21, 3) := by decide +kernel
theorem dX2_mergedCell_82 : decode cX2_mergedCell 82 = .ok (.iload_n 3, 1) := by decide +kernel
theorem dX2_mergedCell_83 : decode cX2_mergedCell 83 = .ok (.iconst 2, 1) := by decide +kernel
theorem dX2_mergedCell_84 : decode cX2_mergedCell 84 = .ok (.if_icmp .ne 13, 3) := by decide +kernel
theorem dX2_mergedCell_87 : decode cX2_mergedCell 87 = .ok (.iload 5, 2) := by decide +kernel
theorem dX2_mergedCell_89 : decode cX2_mergedCell 89 = .ok (.iload 6, 2) := by decide +kernel
theorem dX2_mergedCell_91 : decode cX2_mergedCell 91 = .ok (.invokestatic 289, 3) := by decide +kernel
theorem dX2_mergedCell_94 : decode cX2_mergedCell 94 = .ok (.goto 5, 3) := by decide +kernel
theorem dX2_mergedCell_97 : decode cX2_mergedCell 97 = .ok (.iload 5, 2) := by decide +kernel
theorem dX2_mergedCell_99 : decode cX2_mergedCell 99 = .ok (.ireturn, 1) := by decide +kernel
theorem dX2_mergedCell_100 : decode cX2_mergedCell 100 = .ok (.aload_n 0, 1) := by decide +kernel
theorem dX2_mergedCell_101 : decode cX2_mergedCell 101 = .ok (.getfield 10, 3) := by decide +kernel
theorem dX2_mergedCell_104 : decode cX2_mergedCell 104 = .ok (.iload_n 1, 1) := by decide +kernel
theorem dX2_mergedCell_105 : decode cX2_mergedCell 105 = .ok (.iload_n 2, 1) := by decide +kernel
theorem dX2_mergedCell_106 : decode cX2_mergedCell 106 = .ok (.invokevirtual 185, 3) := by decide +kernel
theorem dX2_mergedCell_109 : decode cX2_mergedCell 109 = .ok (.ifCond .eq 15, 3) := by decide +kernel
theorem dX2_mergedCell_112 : decode cX2_mergedCell 112 = .ok (.iload 5, 2) := by decide +kernel
theorem dX2_mergedCell_114 : decode cX2_mergedCell 114 = .ok (.iload 7, 2) := by decide +kernel
theorem dX2_mergedCell_116 : decode cX2_mergedCell 116 = .ok (.if_icmp .ne 8, 3) := by decide +kernel
theorem dX2_mergedCell_119 : decode cX2_mergedCell 119 = .ok (.iload 6, 2) := by decide +kernel
theorem dX2_mergedCell_121 : decode cX2_mergedCell 121 = .ok (.goto 5, 3) := by decide +kernel
theorem dX2_mergedCell_124 : decode cX2_mergedCell 124 = .ok (.iload 5, 2) := by decide +kernel
theorem dX2_mergedCell_126 : decode cX2_mergedCell 126 = .ok (.ireturn, 1) := by decide +kernel
set_option maxRecDepth 20000 in
theorem ggX2_cellsAreUnlike_X1_hasCell : GoodIn wsX2_cellsAreUnlike wsX1_hasCell := goodIn_r _ [7, 8, 9, 10, 5, 11, 12, 13, 14, 15, 16, 17, 31, 32, 33, 34] (by decide +kernel) (by decide +kernel)
set_option maxRecDepth 20000 in
theorem gX2_cellsAreUnlike_X1_hasCell_n185 : GoodIn wsX2_cellsAreUnlike (wsX1_hasCell) := ggX2_cellsAreUnlike_X1_hasCell
set_option maxRecDepth 20000 in
theorem ggX2_cellsAreUnlike_X1_cellAt : GoodIn wsX2_cellsAreUnlike wsX1_cellAt := goodIn_r _ [20, 21, 22, 4, 6, 5, 7, 8, 9, 10, 11, 12, 13, 14, 15, 16, 17, 31, 32, 33, 34] (by decide +kernel) (by decide +kernel)
set_option maxRecDepth 20000 in
theorem gX2_cellsAreUnlike_X1_cellAt_n113 : GoodIn wsX2_cellsAreUnlike (wsX1_cellAt) := ggX2_cellsAreUnlike_X1_cellAt
theorem dX2_cellsAreUnlike_0 : decode cX2_cellsAreUnlike 0 = .ok (.aload_n 0, 1) := by decide +kernel
theorem dX2_cellsAreUnlike_1 : decode cX2_cellsAreUnlike 1 = .ok (.getfield 16, 3) := by decide +kernel
theorem dX2_cellsAreUnlike_4 : decode cX2_cellsAreUnlike 4 = .ok (.iload_n 1, 1) := by decide +kernel
theorem dX2_cellsAreUnlike_5 : decode cX2_cellsAreUnlike 5 = .ok (.iload_n 2, 1) := by decide +kernel
theorem dX2_cellsAreUnlike_6 : decode cX2_cellsAreUnlike 6 = .ok (.invokevirtual 185, 3) := by decide +kernel
theorem dX2_cellsAreUnlike_9 : decode cX2_cellsAreUnlike 9 = .ok (.ifCond .eq 15, 3) := by decide +kernel
theorem dX2_cellsAreUnlike_12 : decode cX2_cellsAreUnlike 12 = .ok (.aload_n 0, 1) := by decide +kernel
theorem dX2_cellsAreUnlike_13 : decode cX2_cellsAreUnlike 13 = .ok (.getfield 19, 3) := by decide +kernel
theorem dX2_cellsAreUnlike_16 : decode cX2_cellsAreUnlike 16 = .ok (.iload_n 1, 1) := by decide +kernel
theorem dX2_cellsAreUnlike_17 : decode cX2_cellsAreUnlike 17 = .ok (.iload_n 2, 1) := by decide +kernel
theorem dX2_cellsAreUnlike_18 : decode cX2_cellsAreUnlike 18 = .ok (.invokevirtual 185, 3) := by decide +kernel
theorem dX2_cellsAreUnlike_21 : decode cX2_cellsAreUnlike 21 = .ok (.ifCond .ne 5, 3) := by decide +kernel
theorem dX2_cellsAreUnlike_24 : decode cX2_cellsAreUnlike 24 = .ok (.iconst 0, 1) := by decide +kernel
theorem dX2_cellsAreUnlike_25 : decode cX2_cellsAreUnlike 25 = .ok (.ireturn, 1) := by decide +kernel
theorem dX2_cellsAreUnlike_26 : decode cX2_cellsAreUnlike 26 = .ok (.aload_n 0, 1) := by decide +kernel
theorem dX2_cellsAreUnlike_27 : decode cX2_cellsAreUnlike 27 = .ok (.getfield 16, 3) := by decide +kernel
theorem dX2_cellsAreUnlike_30 : decode cX2_cellsAreUnlike 30 = .ok (.iload_n 1, 1) := by decide +kernel
theorem dX2_cellsAreUnlike_31 : decode cX2_cellsAreUnlike 31 = .ok (.iload_n 2, 1) := by decide +kernel
theorem dX2_cellsAreUnlike_32 : decode cX2_cellsAreUnlike 32 = .ok (.invokevirtual 113, 3) := by decide +kernel
theorem dX2_cellsAreUnlike_35 : decode cX2_cellsAreUnlike 35 = .ok (.istore_n 3, 1) := by decide +kernel
theorem dX2_cellsAreUnlike_36 : decode cX2_cellsAreUnlike 36 = .ok (.aload_n 0, 1) := by decide +kernel
theorem dX2_cellsAreUnlike_37 : decode cX2_cellsAreUnlike 37 = .ok (.getfield 19, 3) := by decide +kernel
theorem dX2_cellsAreUnlike_40 : decode cX2_cellsAreUnlike 40 = .ok (.iload_n 1, 1) := by decide +kernel
theorem dX2_cellsAreUnlike_41 : decode cX2_cellsAreUnlike 41 = .ok (.iload_n 2, 1) := by decide +kernel
theorem dX2_cellsAreUnlike_42 : decode cX2_cellsAreUnlike 42 = .ok (.invokevirtual 113, 3) := by decide +kernel
theorem dX2_cellsAreUnlike_45 : decode cX2_cellsAreUnlike 45 = .ok (.istore 4, 2) := by decide +kernel
theorem dX2_cellsAreUnlike_47 : decode cX2_cellsAreUnlike 47 = .ok (.iload_n 3, 1) := by decide +kernel
theorem dX2_cellsAreUnlike_48 : decode cX2_cellsAreUnlike 48 = .ok (.iload 4, 2) := by decide +kernel
theorem dX2_cellsAreUnlike_50 : decode cX2_cellsAreUnlike 50 = .ok (.if_icmp .ne 5, 3) := by decide +kernel
theorem dX2_cellsAreUnlike_53 : decode cX2_cellsAreUnlike 53 = .ok (.iconst 0, 1) := by decide +kernel
theorem dX2_cellsAreUnlike_54 : decode cX2_cellsAreUnlike 54 = .ok (.ireturn, 1) := by decide +kernel
theorem dX2_cellsAreUnlike_55 : decode cX2_cellsAreUnlike 55 = .ok (.aload_n 0, 1) := by decide +kernel
theorem dX2_cellsAreUnlike_56 : decode cX2_cellsAreUnlike 56 = .ok (.getfield 10, 3) := by decide +kernel
theorem dX2_cellsAreUnlike_59 : decode cX2_cellsAreUnlike 59 = .ok (.iload_n 1, 1) := by decide +kernel
theorem dX2_cellsAreUnlike_60 : decode cX2_cellsAreUnlike 60 = .ok (.iload_n 2, 1) := by decide +kernel
theorem dX2_cellsAreUnlike_61 : decode cX2_cellsAreUnlike 61 = .ok (.invokevirtual 113, 3) := by decide +kernel
theorem dX2_cellsAreUnlike_64 : decode cX2_cellsAreUnlike 64 = .ok (.istore 5, 2) := by decide +kernel
theorem dX2_cellsAreUnlike_66 : decode cX2_cellsAreUnlike 66 = .ok (.aload_n 0, 1) := by decide +kernel
theorem dX2_cellsAreUnlike_67 : decode cX2_cellsAreUnlike 67 = .ok (.getfield 10, 3) := by decide +kernel
theorem dX2_cellsAreUnlike_70 : decode cX2_cellsAreUnlike 70 = .ok (.iload_n 1, 1) := by decide +kernel
theorem dX2_cellsAreUnlike_71 : decode cX2_cellsAreUnlike 71 = .ok (.iload_n 2, 1) := by decide +kernel
theorem dX2_cellsAreUnlike_72 : decode cX2_cellsAreUnlike 72 = .ok (.invokevirtual 185, 3) := by decide +kernel
theorem dX2_cellsAreUnlike_75 : decode cX2_cellsAreUnlike 75 = .ok (.ifCond .eq 16, 3) := by decide +kernel
theorem dX2_cellsAreUnlike_78 : decode cX2_cellsAreUnlike 78 = .ok (.iload_n 3, 1) := by decide +kernel
theorem dX2_cellsAreUnlike_79 : decode cX2_cellsAreUnlike 79 = .ok (.iload 5, 2) := by decide +kernel
theorem dX2_cellsAreUnlike_81 : decode cX2_cellsAreUnlike 81 = .ok (.if_icmp .eq 14, 3) := by decide +kernel
theorem dX2_cellsAreUnlike_84 : decode cX2_cellsAreUnlike 84 = .ok (.iload 4, 2) := by decide +kernel
theorem dX2_cellsAreUnlike_86 : decode cX2_cellsAreUnlike 86 = .ok (.iload 5, 2) := by decide +kernel
theorem dX2_cellsAreUnlike_88 : decode cX2_cellsAreUnlike 88 = .ok (.if_icmp .eq 7, 3) := by decide +kernel
theorem dX2_cellsAreUnlike_91 : decode cX2_cellsAreUnlike 91 = .ok (.iconst 1, 1) := by decide +kernel
theorem dX2_cellsAreUnlike_92 : decode cX2_cellsAreUnlike 92 = .ok (.goto 4, 3) := by decide +kernel
theorem dX2_cellsAreUnlike_95 : decode cX2_cellsAreUnlike 95 = .ok (.iconst 0, 1) := by decide +kernel
theorem dX2_cellsAreUnlike_96 : decode cX2_cellsAreUnlike 96 = .ok (.ireturn, 1) := by decide +kernel
set_option maxRecDepth 20000 in
theorem ggX2_listReferencesToNoRow_X2_refersToNoRow : GoodIn wsX2_listReferencesToNoRow wsX2_refersToNoRow := goodIn_r _ [6, 7, 8, 9, 10, 5, 11, 12, 13, 14, 15, 16, 17, 18, 19, 20, 21, 22, 23, 24, 25, 26, 27, 28, 29, 30, 41, 42, 43, 44, 45, 46, 47, 48, 49, 50, 51, 52] (by decide +kernel) (by decide +kernel)
set_option maxRecDepth 20000 in
theorem gX2_listReferencesToNoRow_X2_refersToNoRow : GoodIn wsX2_listReferencesToNoRow (wsV RX2 294 RX2 yX2_refersToNoRow wsX2_refersToNoRow) := goodIn_app (goodIn_of _ (by decide +kernel)) ggX2_listReferencesToNoRow_X2_refersToNoRow
set_option maxRecDepth 20000 in
theorem ggX2_listReferencesToNoRow_X0_append : GoodIn wsX2_listReferencesToNoRow wsX0_append := goodIn_r _ [34, 35, 36, 37, 38, 39, 40, 53, 54, 55, 56, 57, 58] (by decide +kernel) (by decide +kernel)
set_option maxRecDepth 20000 in
theorem gX2_listReferencesToNoRow_X0_append_n256 : GoodIn wsX2_listReferencesToNoRow (wsX0_append) := ggX2_listReferencesToNoRow_X0_append
theorem dX2_listReferencesToNoRow_0 : decode cX2_listReferencesToNoRow 0 = .ok (.iconst 0, 1) := by decide +kernel
theorem dX2_listReferencesToNoRow_1 : decode cX2_listReferencesToNoRow 1 = .ok (.istore_n 1, 1) := by decide +kernel
theorem dX2_listReferencesToNoRow_2 : decode cX2_listReferencesToNoRow 2 = .ok (.iload_n 1, 1) := by decide +kernel
theorem dX2_listReferencesToNoRow_3 : decode cX2_listReferencesToNoRow 3 = .ok (.bipush 24, 2) := by decide +kernel
theorem dX2_listReferencesToNoRow_5 : decode cX2_listReferencesToNoRow 5 = .ok (.if_icmp .ge 43, 3) := by decide +kernel
theorem dX2_listReferencesToNoRow_8 : decode cX2_listReferencesToNoRow 8 = .ok (.iconst 0, 1) := by decide +kernel
theorem dX2_listReferencesToNoRow_9 : decode cX2_listReferencesToNoRow 9 = .ok (.istore_n 2, 1) := by decide +kernel
theorem dX2_listReferencesToNoRow_10 : decode cX2_listReferencesToNoRow 10 = .ok (.iload_n 2, 1) := by decide +kernel
theorem dX2_listReferencesToNoRow_11 : decode cX2_listReferencesToNoRow 11 = .ok (.bipush 8, 2) := by decide +kernel
theorem dX2_listReferencesToNoRow_13 : decode cX2_listReferencesToNoRow 13 = .ok (.if_icmp .ge 29, 3) := by decide +kernel
theorem dX2_listReferencesToNoRow_16 : decode cX2_listReferencesToNoRow 16 = .ok (.aload_n 0, 1) := by decide +kernel
theorem dX2_listReferencesToNoRow_17 : decode cX2_listReferencesToNoRow 17 = .ok (.iload_n 1, 1) := by decide +kernel
theorem dX2_listReferencesToNoRow_18 : decode cX2_listReferencesToNoRow 18 = .ok (.iload_n 2, 1) := by decide +kernel
theorem dX2_listReferencesToNoRow_19 : decode cX2_listReferencesToNoRow 19 = .ok (.invokevirtual 294, 3) := by decide +kernel
theorem dX2_listReferencesToNoRow_22 : decode cX2_listReferencesToNoRow 22 = .ok (.ifCond .eq 14, 3) := by decide +kernel
theorem dX2_listReferencesToNoRow_25 : decode cX2_listReferencesToNoRow 25 = .ok (.aload_n 0, 1) := by decide +kernel
theorem dX2_listReferencesToNoRow_26 : decode cX2_listReferencesToNoRow 26 = .ok (.getfield 36, 3) := by decide +kernel
theorem dX2_listReferencesToNoRow_29 : decode cX2_listReferencesToNoRow 29 = .ok (.bipush 6, 2) := by decide +kernel
theorem dX2_listReferencesToNoRow_31 : decode cX2_listReferencesToNoRow 31 = .ok (.iload_n 1, 1) := by decide +kernel
theorem dX2_listReferencesToNoRow_32 : decode cX2_listReferencesToNoRow 32 = .ok (.iload_n 2, 1) := by decide +kernel
theorem dX2_listReferencesToNoRow_33 : decode cX2_listReferencesToNoRow 33 = .ok (.invokevirtual 256, 3) := by decide +kernel
theorem dX2_listReferencesToNoRow_36 : decode cX2_listReferencesToNoRow 36 = .ok (.iinc 2 1, 3) := by decide +kernel
theorem dX2_listReferencesToNoRow_39 : decode cX2_listReferencesToNoRow 39 = .ok (.goto (-29), 3) := by decide +kernel
theorem dX2_listReferencesToNoRow_42 : decode cX2_listReferencesToNoRow 42 = .ok (.iinc 1 1, 3) := by decide +kernel
theorem dX2_listReferencesToNoRow_45 : decode cX2_listReferencesToNoRow 45 = .ok (.goto (-43), 3) := by decide +kernel
theorem dX2_listReferencesToNoRow_48 : decode cX2_listReferencesToNoRow 48 = .ok (.return_, 1) := by decide +kernel
set_option maxRecDepth 20000 in
theorem ggX2_refersToNoRow_X2_isColumnNumber : GoodIn wsX2_refersToNoRow wsX2_isColumnNumber := goodIn_r _ [6] (by decide +kernel) (by decide +kernel)
set_option maxRecDepth 20000 in
theorem gX2_refersToNoRow_X2_isColumnNumber : GoodIn wsX2_refersToNoRow (va_wsS RX2 229 yX2_isColumnNumber wsX2_isColumnNumber) := goodIn_app (goodIn_of _ (by decide +kernel)) ggX2_refersToNoRow_X2_isColumnNumber
set_option maxRecDepth 20000 in
theorem ggX2_refersToNoRow_X1_hasCell : GoodIn wsX2_refersToNoRow wsX1_hasCell := goodIn_r _ [10, 11, 12, 13, 8, 14, 15, 16, 17, 18, 19, 20, 34, 35, 36, 37] (by decide +kernel) (by decide +kernel)
set_option maxRecDepth 20000 in
theorem gX2_refersToNoRow_X1_hasCell_n185 : GoodIn wsX2_refersToNoRow (wsX1_hasCell) := ggX2_refersToNoRow_X1_hasCell
set_option maxRecDepth 20000 in
theorem ggX2_refersToNoRow_X1_cellAt : GoodIn wsX2_refersToNoRow wsX1_cellAt := goodIn_r _ [23, 24, 25, 7, 9, 8, 10, 11, 12, 13, 14, 15, 16, 17, 18, 19, 20, 34, 35, 36, 37] (by decide +kernel) (by decide +kernel)
set_option maxRecDepth 20000 in
theorem gX2_refersToNoRow_X1_cellAt_n113 : GoodIn wsX2_refersToNoRow (wsX1_cellAt) := ggX2_refersToNoRow_X1_cellAt
set_option maxRecDepth 20000 in
theorem ggX2_refersToNoRow_X1_hasRow : GoodIn wsX2_refersToNoRow wsX1_hasRow := goodIn_r _ [14, 15, 34, 35, 36, 37] (by decide +kernel) (by decide +kernel)
set_option maxRecDepth 20000 in
theorem gX2_refersToNoRow_X1_hasRow_n91 : GoodIn wsX2_refersToNoRow (wsX1_hasRow) := ggX2_refersToNoRow_X1_hasRow
theorem dX2_refersToNoRow_0 : decode cX2_refersToNoRow 0 = .ok (.iload_n 2, 1) := by decide +kernel
theorem dX2_refersToNoRow_1 : decode cX2_refersToNoRow 1 = .ok (.invokestatic 229, 3) := by decide +kernel
theorem dX2_refersToNoRow_4 : decode cX2_refersToNoRow 4 = .ok (.ifCond .eq 24, 3) := by decide +kernel
theorem dX2_refersToNoRow_7 : decode cX2_refersToNoRow 7 = .ok (.aload_n 0, 1) := by decide +kernel
theorem dX2_refersToNoRow_8 : decode cX2_refersToNoRow 8 = .ok (.getfield 29, 3) := by decide +kernel
theorem dX2_refersToNoRow_11 : decode cX2_refersToNoRow 11 = .ok (.iload_n 2, 1) := by decide +kernel
theorem dX2_refersToNoRow_12 : decode cX2_refersToNoRow 12 = .ok (.baload, 1) := by decide +kernel
theorem dX2_refersToNoRow_13 : decode cX2_refersToNoRow 13 = .ok (.ifCond .eq 15, 3) := by decide +kernel
theorem dX2_refersToNoRow_16 : decode cX2_refersToNoRow 16 = .ok (.aload_n 0, 1) := by decide +kernel
theorem dX2_refersToNoRow_17 : decode cX2_refersToNoRow 17 = .ok (.getfield 22, 3) := by decide +kernel
theorem dX2_refersToNoRow_20 : decode cX2_refersToNoRow 20 = .ok (.iload_n 1, 1) := by decide +kernel
theorem dX2_refersToNoRow_21 : decode cX2_refersToNoRow 21 = .ok (.iload_n 2, 1) := by decide +kernel
theorem dX2_refersToNoRow_22 : decode cX2_refersToNoRow 22 = .ok (.invokevirtual 185, 3) := by decide +kernel
theorem dX2_refersToNoRow_25 : decode cX2_refersToNoRow 25 = .ok (.ifCond .ne 5, 3) := by decide +kernel
theorem dX2_refersToNoRow_28 : decode cX2_refersToNoRow 28 = .ok (.iconst 0, 1) := by decide +kernel
theorem dX2_refersToNoRow_29 : decode cX2_refersToNoRow 29 = .ok (.ireturn, 1) := by decide +kernel
theorem dX2_refersToNoRow_30 : decode cX2_refersToNoRow 30 = .ok (.aload_n 0, 1) := by decide +kernel
theorem dX2_refersToNoRow_31 : decode cX2_refersToNoRow 31 = .ok (.getfield 22, 3) := by decide +kernel
theorem dX2_refersToNoRow_34 : decode cX2_refersToNoRow 34 = .ok (.iload_n 1, 1) := by decide +kernel
theorem dX2_refersToNoRow_35 : decode cX2_refersToNoRow 35 = .ok (.iload_n 2, 1) := by decide +kernel
theorem dX2_refersToNoRow_36 : decode cX2_refersToNoRow 36 = .ok (.invokevirtual 113, 3) := by decide +kernel
theorem dX2_refersToNoRow_39 : decode cX2_refersToNoRow 39 = .ok (.istore_n 3, 1) := by decide +kernel
theorem dX2_refersToNoRow_40 : decode cX2_refersToNoRow 40 = .ok (.iload_n 3, 1) := by decide +kernel
theorem dX2_refersToNoRow_41 : decode cX2_refersToNoRow 41 = .ok (.iconst (-1), 1) := by decide +kernel
theorem dX2_refersToNoRow_42 : decode cX2_refersToNoRow 42 = .ok (.if_icmp .eq 18, 3) := by decide +kernel
theorem dX2_refersToNoRow_45 : decode cX2_refersToNoRow 45 = .ok (.aload_n 0, 1) := by decide +kernel
theorem dX2_refersToNoRow_46 : decode cX2_refersToNoRow 46 = .ok (.getfield 22, 3) := by decide +kernel
theorem dX2_refersToNoRow_49 : decode cX2_refersToNoRow 49 = .ok (.iload_n 3, 1) := by decide +kernel
theorem dX2_refersToNoRow_50 : decode cX2_refersToNoRow 50 = .ok (.invokevirtual 91, 3) := by decide +kernel
theorem dX2_refersToNoRow_53 : decode cX2_refersToNoRow 53 = .ok (.ifCond .ne 7, 3) := by decide +kernel
theorem dX2_refersToNoRow_56 : decode cX2_refersToNoRow 56 = .ok (.iconst 1, 1) := by decide +kernel
theorem dX2_refersToNoRow_57 : decode cX2_refersToNoRow 57 = .ok (.goto 4, 3) := by decide +kernel
theorem dX2_refersToNoRow_60 : decode cX2_refersToNoRow 60 = .ok (.iconst 0, 1) := by decide +kernel
theorem dX2_refersToNoRow_61 : decode cX2_refersToNoRow 61 = .ok (.ireturn, 1) := by decide +kernel
set_option maxRecDepth 20000 in
theorem ggX2_rowStaysByChanges_X1_hasRow : GoodIn wsX2_rowStaysByChanges wsX1_hasRow := goodIn_r _ [7, 8, 40, 41, 42, 43] (by decide +kernel) (by decide +kernel)
set_option maxRecDepth 20000 in
theorem gX2_rowStaysByChanges_X1_hasRow_n91 : GoodIn wsX2_rowStaysByChanges (wsX1_hasRow) := ggX2_rowStaysByChanges_X1_hasRow
set_option maxRecDepth 20000 in
theorem ggX2_rowStaysByChanges_X2_rowStaysAfter : GoodIn wsX2_rowStaysByChanges wsX2_rowStaysAfter := goodIn_r _ [13, 1, 4, 5, 6, 7, 8, 14, 15, 16, 17, 18, 19, 20, 21, 22, 23, 24, 25, 26, 27, 28, 29, 30, 31, 32, 33, 34, 35, 36, 37, 38, 39, 40, 41, 42, 43] (by decide +kernel) (by decide +kernel)
set_option maxRecDepth 20000 in
theorem gX2_rowStaysByChanges_X2_rowStaysAfter : GoodIn wsX2_rowStaysByChanges (wsV RX2 297 RX2 yX2_rowStaysAfter wsX2_rowStaysAfter) := goodIn_app (goodIn_of _ (by decide +kernel)) ggX2_rowStaysByChanges_X2_rowStaysAfter
theorem dX2_rowStaysByChanges_0 : decode cX2_rowStaysByChanges 0 = .ok (.aload_n 0, 1) := by decide +kernel
theorem dX2_rowStaysByChanges_1 : decode cX2_rowStaysByChanges 1 = .ok (.aload_n 0, 1) := by decide +kernel
theorem dX2_rowStaysByChanges_2 : decode cX2_rowStaysByChanges 2 = .ok (.getfield 10, 3) := by decide +kernel
theorem dX2_rowStaysByChanges_5 : decode cX2_rowStaysByChanges 5 = .ok (.iload_n 1, 1) := by decide +kernel
theorem dX2_rowStaysByChanges_6 : decode cX2_rowStaysByChanges 6 = .ok (.invokevirtual 91, 3) := by decide +kernel
theorem dX2_rowStaysByChanges_9 : decode cX2_rowStaysByChanges 9 = .ok (.aload_n 0, 1) := by decide +kernel
theorem dX2_rowStaysByChanges_10 : decode cX2_rowStaysByChanges 10 = .ok (.getfield 16, 3) := by decide +kernel
theorem dX2_rowStaysByChanges_13 : decode cX2_rowStaysByChanges 13 = .ok (.aload_n 0, 1) := by decide +kernel
theorem dX2_rowStaysByChanges_14 : decode cX2_rowStaysByChanges 14 = .ok (.getfield 19, 3) := by decide +kernel
theorem dX2_rowStaysByChanges_17 : decode cX2_rowStaysByChanges 17 = .ok (.iload_n 1, 1) := by decide +kernel
theorem dX2_rowStaysByChanges_18 : decode cX2_rowStaysByChanges 18 = .ok (.invokevirtual 297, 3) := by decide +kernel
theorem dX2_rowStaysByChanges_21 : decode cX2_rowStaysByChanges 21 = .ok (.istore_n 2, 1) := by decide +kernel
theorem dX2_rowStaysByChanges_22 : decode cX2_rowStaysByChanges 22 = .ok (.aload_n 0, 1) := by decide +kernel
theorem dX2_rowStaysByChanges_23 : decode cX2_rowStaysByChanges 23 = .ok (.iload_n 2, 1) := by decide +kernel
theorem dX2_rowStaysByChanges_24 : decode cX2_rowStaysByChanges 24 = .ok (.aload_n 0, 1) := by decide +kernel
theorem dX2_rowStaysByChanges_25 : decode cX2_rowStaysByChanges 25 = .ok (.getfield 19, 3) := by decide +kernel
theorem dX2_rowStaysByChanges_28 : decode cX2_rowStaysByChanges 28 = .ok (.aload_n 0, 1) := by decide +kernel
theorem dX2_rowStaysByChanges_29 : decode cX2_rowStaysByChanges 29 = .ok (.getfield 16, 3) := by decide +kernel
theorem dX2_rowStaysByChanges_32 : decode cX2_rowStaysByChanges 32 = .ok (.iload_n 1, 1) := by decide +kernel
theorem dX2_rowStaysByChanges_33 : decode cX2_rowStaysByChanges 33 = .ok (.invokevirtual 297, 3) := by decide +kernel
theorem dX2_rowStaysByChanges_36 : decode cX2_rowStaysByChanges 36 = .ok (.ireturn, 1) := by decide +kernel
set_option maxRecDepth 20000 in
theorem ggX2_rowStaysAfter_X1_hasRow : GoodIn wsX2_rowStaysAfter wsX1_hasRow := goodIn_r _ [5, 6, 33, 34, 35, 36] (by decide +kernel) (by decide +kernel)
set_option maxRecDepth 20000 in
theorem gX2_rowStaysAfter_X1_hasRow_n91 : GoodIn wsX2_rowStaysAfter (wsX1_hasRow) := ggX2_rowStaysAfter_X1_hasRow
set_option maxRecDepth 20000 in
theorem ggX2_rowStaysAfter_X1_countCellsChanged : GoodIn wsX2_rowStaysAfter wsX1_countCellsChanged := goodIn_r _ [9, 10, 11, 12, 3, 13, 14, 15, 16, 17, 18, 19, 2, 4, 5, 6, 20, 21, 22, 23, 24, 33, 34, 35, 36] (by decide +kernel) (by decide +kernel)
set_option maxRecDepth 20000 in
theorem gX2_rowStaysAfter_X1_countCellsChanged_n275 : GoodIn wsX2_rowStaysAfter (wsX1_countCellsChanged) := ggX2_rowStaysAfter_X1_countCellsChanged
theorem dX2_rowStaysAfter_0 : decode cX2_rowStaysAfter 0 = .ok (.aload_n 2, 1) := by decide +kernel
theorem dX2_rowStaysAfter_1 : decode cX2_rowStaysAfter 1 = .ok (.iload 4, 2) := by decide +kernel
theorem dX2_rowStaysAfter_3 : decode cX2_rowStaysAfter 3 = .ok (.invokevirtual 91, 3) := by decide +kernel
theorem dX2_rowStaysAfter_6 : decode cX2_rowStaysAfter 6 = .ok (.aload_n 0, 1) := by decide +kernel
theorem dX2_rowStaysAfter_7 : decode cX2_rowStaysAfter 7 = .ok (.getfield 10, 3) := by decide +kernel
theorem dX2_rowStaysAfter_10 : decode cX2_rowStaysAfter 10 = .ok (.iload 4, 2) := by decide +kernel
theorem dX2_rowStaysAfter_12 : decode cX2_rowStaysAfter 12 = .ok (.invokevirtual 91, 3) := by decide +kernel
theorem dX2_rowStaysAfter_15 : decode cX2_rowStaysAfter 15 = .ok (.if_icmp .ne 5, 3) := by decide +kernel
theorem dX2_rowStaysAfter_18 : decode cX2_rowStaysAfter 18 = .ok (.iload_n 1, 1) := by decide +kernel
theorem dX2_rowStaysAfter_19 : decode cX2_rowStaysAfter 19 = .ok (.ireturn, 1) := by decide +kernel
theorem dX2_rowStaysAfter_20 : decode cX2_rowStaysAfter 20 = .ok (.aload_n 2, 1) := by decide +kernel
theorem dX2_rowStaysAfter_21 : decode cX2_rowStaysAfter 21 = .ok (.iload 4, 2) := by decide +kernel
theorem dX2_rowStaysAfter_23 : decode cX2_rowStaysAfter 23 = .ok (.invokevirtual 91, 3) := by decide +kernel
theorem dX2_rowStaysAfter_26 : decode cX2_rowStaysAfter 26 = .ok (.ifCond .ne 20, 3) := by decide +kernel
theorem dX2_rowStaysAfter_29 : decode cX2_rowStaysAfter 29 = .ok (.iload_n 1, 1) := by decide +kernel
theorem dX2_rowStaysAfter_30 : decode cX2_rowStaysAfter 30 = .ok (.ifCond .eq 20, 3) := by decide +kernel
theorem dX2_rowStaysAfter_33 : decode cX2_rowStaysAfter 33 = .ok (.aload_n 3, 1) := by decide +kernel
theorem dX2_rowStaysAfter_34 : decode cX2_rowStaysAfter 34 = .ok (.aload_n 0, 1) := by decide +kernel
theorem dX2_rowStaysAfter_35 : decode cX2_rowStaysAfter 35 = .ok (.getfield 10, 3) := by decide +kernel
theorem dX2_rowStaysAfter_38 : decode cX2_rowStaysAfter 38 = .ok (.iload 4, 2) := by decide +kernel
theorem dX2_rowStaysAfter_40 : decode cX2_rowStaysAfter 40 = .ok (.invokevirtual 275, 3) := by decide +kernel
theorem dX2_rowStaysAfter_43 : decode cX2_rowStaysAfter 43 = .ok (.ifCond .le 7, 3) := by decide +kernel
theorem dX2_rowStaysAfter_46 : decode cX2_rowStaysAfter 46 = .ok (.iconst 1, 1) := by decide +kernel
theorem dX2_rowStaysAfter_47 : decode cX2_rowStaysAfter 47 = .ok (.goto 4, 3) := by decide +kernel
theorem dX2_rowStaysAfter_50 : decode cX2_rowStaysAfter 50 = .ok (.iconst 0, 1) := by decide +kernel
theorem dX2_rowStaysAfter_51 : decode cX2_rowStaysAfter 51 = .ok (.ireturn, 1) := by decide +kernel
set_option maxRecDepth 20000 in
theorem ggX2_columnStaysByChanges_X1_hasColumn : GoodIn wsX2_columnStaysByChanges wsX1_hasColumn := goodIn_r _ [7, 8, 49, 50, 51, 52] (by decide +kernel) (by decide +kernel)
set_option maxRecDepth 20000 in
theorem gX2_columnStaysByChanges_X1_hasColumn_n55 : GoodIn wsX2_columnStaysByChanges (wsX1_hasColumn) := ggX2_columnStaysByChanges_X1_hasColumn
set_option maxRecDepth 20000 in
theorem ggX2_columnStaysByChanges_X2_columnStaysAfter : GoodIn wsX2_columnStaysByChanges wsX2_columnStaysAfter := goodIn_r _ [13, 1, 4, 5, 6, 7, 8, 14, 15, 16, 17, 18, 19, 20, 21, 22, 23, 24, 25, 26, 27, 28, 29, 30, 31, 32, 33, 34, 35, 36, 37, 38, 39, 40, 41, 42, 43, 44, 45, 46, 47, 48, 49, 50, 51, 52] (by decide +kernel) (by decide +kernel)
set_option maxRecDepth 20000 in
theorem gX2_columnStaysByChanges_X2_columnStaysAfter : GoodIn wsX2_columnStaysByChanges (wsV RX2 301 RX2 yX2_columnStaysAfter wsX2_columnStaysAfter) := goodIn_app (goodIn_of _ (by decide +kernel)) ggX2_columnStaysByChanges_X2_columnStaysAfter
theorem dX2_columnStaysByChanges_0 : decode cX2_columnStaysByChanges 0 = .ok (.aload_n 0, 1) := by decide +kernel
theorem dX2_columnStaysByChanges_1 : decode cX2_columnStaysByChanges 1 = .ok (.aload_n 0, 1) := by decide +kernel
theorem dX2_columnStaysByChanges_2 : decode cX2_columnStaysByChanges 2 = .ok (.getfield 10, 3) := by decide +kernel
theorem dX2_columnStaysByChanges_5 : decode cX2_columnStaysByChanges 5 = .ok (.iload_n 1, 1) := by decide +kernel
theorem dX2_columnStaysByChanges_6 : decode cX2_columnStaysByChanges 6 = .ok (.invokevirtual 55, 3) := by decide +kernel
theorem dX2_columnStaysByChanges_9 : decode cX2_columnStaysByChanges 9 = .ok (.aload_n 0, 1) := by decide +kernel
theorem dX2_columnStaysByChanges_10 : decode cX2_columnStaysByChanges 10 = .ok (.getfield 16, 3) := by decide +kernel
theorem dX2_columnStaysByChanges_13 : decode cX2_columnStaysByChanges 13 = .ok (.aload_n 0, 1) := by decide +kernel
theorem dX2_columnStaysByChanges_14 : decode cX2_columnStaysByChanges 14 = .ok (.getfield 19, 3) := by decide +kernel
theorem dX2_columnStaysByChanges_17 : decode cX2_columnStaysByChanges 17 = .ok (.iload_n 1, 1) := by decide +kernel
theorem dX2_columnStaysByChanges_18 : decode cX2_columnStaysByChanges 18 = .ok (.invokevirtual 301, 3) := by decide +kernel
theorem dX2_columnStaysByChanges_21 : decode cX2_columnStaysByChanges 21 = .ok (.istore_n 2, 1) := by decide +kernel
theorem dX2_columnStaysByChanges_22 : decode cX2_columnStaysByChanges 22 = .ok (.aload_n 0, 1) := by decide +kernel
theorem dX2_columnStaysByChanges_23 : decode cX2_columnStaysByChanges 23 = .ok (.iload_n 2, 1) := by decide +kernel
theorem dX2_columnStaysByChanges_24 : decode cX2_columnStaysByChanges 24 = .ok (.aload_n 0, 1) := by decide +kernel
theorem dX2_columnStaysByChanges_25 : decode cX2_columnStaysByChanges 25 = .ok (.getfield 19, 3) := by decide +kernel
theorem dX2_columnStaysByChanges_28 : decode cX2_columnStaysByChanges 28 = .ok (.aload_n 0, 1) := by decide +kernel
theorem dX2_columnStaysByChanges_29 : decode cX2_columnStaysByChanges 29 = .ok (.getfield 16, 3) := by decide +kernel
theorem dX2_columnStaysByChanges_32 : decode cX2_columnStaysByChanges 32 = .ok (.iload_n 1, 1) := by decide +kernel
theorem dX2_columnStaysByChanges_33 : decode cX2_columnStaysByChanges 33 = .ok (.invokevirtual 301, 3) := by decide +kernel
theorem dX2_columnStaysByChanges_36 : decode cX2_columnStaysByChanges 36 = .ok (.ireturn, 1) := by decide +kernel
set_option maxRecDepth 20000 in
theorem ggX2_columnStaysAfter_X1_hasColumn : GoodIn wsX2_columnStaysAfter wsX1_hasColumn := goodIn_r _ [5, 6, 42, 43, 44, 45] (by decide +kernel) (by decide +kernel)
set_option maxRecDepth 20000 in
theorem gX2_columnStaysAfter_X1_hasColumn_n55 : GoodIn wsX2_columnStaysAfter (wsX1_hasColumn) := ggX2_columnStaysAfter_X1_hasColumn
set_option maxRecDepth 20000 in
theorem ggX2_columnStaysAfter_X1_changedColumnOf : GoodIn wsX2_columnStaysAfter wsX1_changedColumnOf := goodIn_r _ [9, 10, 11, 12, 3, 13, 14, 2, 4, 5, 6, 15, 16, 17, 18, 19, 20, 21, 22, 23, 24, 25, 26, 27, 28, 29, 30, 31, 32, 33, 42, 43, 44, 45] (by decide +kernel) (by decide +kernel)
set_option maxRecDepth 20000 in
theorem gX2_columnStaysAfter_X1_changedColumnOf_n262 : GoodIn wsX2_columnStaysAfter (wsX1_changedColumnOf) := ggX2_columnStaysAfter_X1_changedColumnOf
theorem dX2_columnStaysAfter_0 : decode cX2_columnStaysAfter 0 = .ok (.aload_n 2, 1) := by decide +kernel
theorem dX2_columnStaysAfter_1 : decode cX2_columnStaysAfter 1 = .ok (.iload 4, 2) := by decide +kernel
theorem dX2_columnStaysAfter_3 : decode cX2_columnStaysAfter 3 = .ok (.invokevirtual 55, 3) := by decide +kernel
theorem dX2_columnStaysAfter_6 : decode cX2_columnStaysAfter 6 = .ok (.aload_n 0, 1) := by decide +kernel
theorem dX2_columnStaysAfter_7 : decode cX2_columnStaysAfter 7 = .ok (.getfield 10, 3) := by decide +kernel
theorem dX2_columnStaysAfter_10 : decode cX2_columnStaysAfter 10 = .ok (.iload 4, 2) := by decide +kernel
theorem dX2_columnStaysAfter_12 : decode cX2_columnStaysAfter 12 = .ok (.invokevirtual 55, 3) := by decide +kernel
theorem dX2_columnStaysAfter_15 : decode cX2_columnStaysAfter 15 = .ok (.if_icmp .ne 5, 3) := by decide +kernel
theorem dX2_columnStaysAfter_18 : decode cX2_columnStaysAfter 18 = .ok (.iload_n 1, 1) := by decide +kernel
theorem dX2_columnStaysAfter_19 : decode cX2_columnStaysAfter 19 = .ok (.ireturn, 1) := by decide +kernel
theorem dX2_columnStaysAfter_20 : decode cX2_columnStaysAfter 20 = .ok (.aload_n 2, 1) := by decide +kernel
theorem dX2_columnStaysAfter_21 : decode cX2_columnStaysAfter 21 = .ok (.iload 4, 2) := by decide +kernel
theorem dX2_columnStaysAfter_23 : decode cX2_columnStaysAfter 23 = .ok (.invokevirtual 55, 3) := by decide +kernel
theorem dX2_columnStaysAfter_26 : decode cX2_columnStaysAfter 26 = .ok (.ifCond .ne 20, 3) := by decide +kernel
theorem dX2_columnStaysAfter_29 : decode cX2_columnStaysAfter 29 = .ok (.iload_n 1, 1) := by decide +kernel
theorem dX2_columnStaysAfter_30 : decode cX2_columnStaysAfter 30 = .ok (.ifCond .eq 20, 3) := by decide +kernel
theorem dX2_columnStaysAfter_33 : decode cX2_columnStaysAfter 33 = .ok (.aload_n 3, 1) := by decide +kernel
theorem dX2_columnStaysAfter_34 : decode cX2_columnStaysAfter 34 = .ok (.aload_n 0, 1) := by decide +kernel
theorem dX2_columnStaysAfter_35 : decode cX2_columnStaysAfter 35 = .ok (.getfield 10, 3) := by decide +kernel
theorem dX2_columnStaysAfter_38 : decode cX2_columnStaysAfter 38 = .ok (.iload 4, 2) := by decide +kernel
theorem dX2_columnStaysAfter_40 : decode cX2_columnStaysAfter 40 = .ok (.invokevirtual 262, 3) := by decide +kernel
theorem dX2_columnStaysAfter_43 : decode cX2_columnStaysAfter 43 = .ok (.ifCond .eq 7, 3) := by decide +kernel
theorem dX2_columnStaysAfter_46 : decode cX2_columnStaysAfter 46 = .ok (.iconst 1, 1) := by decide +kernel
theorem dX2_columnStaysAfter_47 : decode cX2_columnStaysAfter 47 = .ok (.goto 4, 3) := by decide +kernel
theorem dX2_columnStaysAfter_50 : decode cX2_columnStaysAfter 50 = .ok (.iconst 0, 1) := by decide +kernel
theorem dX2_columnStaysAfter_51 : decode cX2_columnStaysAfter 51 = .ok (.ireturn, 1) := by decide +kernel
set_option maxRecDepth 20000 in
theorem ggX2_sumByChanges_X1_cellAt : GoodIn wsX2_sumByChanges wsX1_cellAt := goodIn_r _ [7, 8, 9, 10, 11, 5, 12, 13, 14, 15, 16, 17, 18, 19, 20, 21, 22, 31, 32, 33, 34] (by decide +kernel) (by decide +kernel)
set_option maxRecDepth 20000 in
theorem gX2_sumByChanges_X1_cellAt_n113 : GoodIn wsX2_sumByChanges (wsX1_cellAt) := ggX2_sumByChanges_X1_cellAt
set_option maxRecDepth 20000 in
theorem ggX2_sumByChanges_X1_hasCell : GoodIn wsX2_sumByChanges wsX1_hasCell := goodIn_r _ [12, 13, 14, 15, 5, 16, 17, 18, 19, 20, 21, 22, 31, 32, 33, 34] (by decide +kernel) (by decide +kernel)
set_option maxRecDepth 20000 in
theorem gX2_sumByChanges_X1_hasCell_n185 : GoodIn wsX2_sumByChanges (wsX1_hasCell) := ggX2_sumByChanges_X1_hasCell
theorem dX2_sumByChanges_0 : decode cX2_sumByChanges 0 = .ok (.aload_n 0, 1) := by decide +kernel
theorem dX2_sumByChanges_1 : decode cX2_sumByChanges 1 = .ok (.getfield 10, 3) := by decide +kernel
theorem dX2_sumByChanges_4 : decode cX2_sumByChanges 4 = .ok (.iload_n 1, 1) := by decide +kernel
theorem dX2_sumByChanges_5 : decode cX2_sumByChanges 5 = .ok (.iload_n 2, 1) := by decide +kernel
theorem dX2_sumByChanges_6 : decode cX2_sumByChanges 6 = .ok (.invokevirtual 113, 3) := by decide +kernel
theorem dX2_sumByChanges_9 : decode cX2_sumByChanges 9 = .ok (.istore_n 3, 1) := by decide +kernel
theorem dX2_sumByChanges_10 : decode cX2_sumByChanges 10 = .ok (.iload_n 3, 1) := by decide +kernel
theorem dX2_sumByChanges_11 : decode cX2_sumByChanges 11 = .ok (.istore 4, 2) := by decide +kernel
theorem dX2_sumByChanges_13 : decode cX2_sumByChanges 13 = .ok (.aload_n 0, 1) := by decide +kernel
theorem dX2_sumByChanges_14 : decode cX2_sumByChanges 14 = .ok (.getfield 16, 3) := by decide +kernel
theorem dX2_sumByChanges_17 : decode cX2_sumByChanges 17 = .ok (.iload_n 1, 1) := by decide +kernel
theorem dX2_sumByChanges_18 : decode cX2_sumByChanges 18 = .ok (.iload_n 2, 1) := by decide +kernel
theorem dX2_sumByChanges_19 : decode cX2_sumByChanges 19 = .ok (.invokevirtual 185, 3) := by decide +kernel
theorem dX2_sumByChanges_22 : decode cX2_sumByChanges 22 = .ok (.ifCond .eq 19, 3) := by decide +kernel
theorem dX2_sumByChanges_25 : decode cX2_sumByChanges 25 = .ok (.iload 4, 2) := by decide +kernel
theorem dX2_sumByChanges_27 : decode cX2_sumByChanges 27 = .ok (.aload_n 0, 1) := by decide +kernel
theorem dX2_sumByChanges_28 : decode cX2_sumByChanges 28 = .ok (.getfield 16, 3) := by decide +kernel
theorem dX2_sumByChanges_31 : decode cX2_sumByChanges 31 = .ok (.iload_n 1, 1) := by decide +kernel
theorem dX2_sumByChanges_32 : decode cX2_sumByChanges 32 = .ok (.iload_n 2, 1) := by decide +kernel
theorem dX2_sumByChanges_33 : decode cX2_sumByChanges 33 = .ok (.invokevirtual 113, 3) := by decide +kernel
theorem dX2_sumByChanges_36 : decode cX2_sumByChanges 36 = .ok (.iload_n 3, 1) := by decide +kernel
theorem dX2_sumByChanges_37 : decode cX2_sumByChanges 37 = .ok (.isub, 1) := by decide +kernel
theorem dX2_sumByChanges_38 : decode cX2_sumByChanges 38 = .ok (.iadd, 1) := by decide +kernel
theorem dX2_sumByChanges_39 : decode cX2_sumByChanges 39 = .ok (.istore 4, 2) := by decide +kernel
theorem dX2_sumByChanges_41 : decode cX2_sumByChanges 41 = .ok (.aload_n 0, 1) := by decide +kernel
theorem dX2_sumByChanges_42 : decode cX2_sumByChanges 42 = .ok (.getfield 19, 3) := by decide +kernel
theorem dX2_sumByChanges_45 : decode cX2_sumByChanges 45 = .ok (.iload_n 1, 1) := by decide +kernel
theorem dX2_sumByChanges_46 : decode cX2_sumByChanges 46 = .ok (.iload_n 2, 1) := by decide +kernel
theorem dX2_sumByChanges_47 : decode cX2_sumByChanges 47 = .ok (.invokevirtual 185, 3) := by decide +kernel
theorem dX2_sumByChanges_50 : decode cX2_sumByChanges 50 = .ok (.ifCond .eq 19, 3) := by decide +kernel
theorem dX2_sumByChanges_53 : decode cX2_sumByChanges 53 = .ok (.iload 4, 2) := by decide +kernel
theorem dX2_sumByChanges_55 : decode cX2_sumByChanges 55 = .ok (.aload_n 0, 1) := by decide +kernel
theorem dX2_sumByChanges_56 : decode cX2_sumByChanges 56 = .ok (.getfield 19, 3) := by decide +kernel
theorem dX2_sumByChanges_59 : decode cX2_sumByChanges 59 = .ok (.iload_n 1, 1) := by decide +kernel
theorem dX2_sumByChanges_60 : decode cX2_sumByChanges 60 = .ok (.iload_n 2, 1) := by decide +kernel
theorem dX2_sumByChanges_61 : decode cX2_sumByChanges 61 = .ok (.invokevirtual 113, 3) := by decide +kernel
theorem dX2_sumByChanges_64 : decode cX2_sumByChanges 64 = .ok (.iload_n 3, 1) := by decide +kernel
theorem dX2_sumByChanges_65 : decode cX2_sumByChanges 65 = .ok (.isub, 1) := by decide +kernel
theorem dX2_sumByChanges_66 : decode cX2_sumByChanges 66 = .ok (.iadd, 1) := by decide +kernel
theorem dX2_sumByChanges_67 : decode cX2_sumByChanges 67 = .ok (.istore 4, 2) := by decide +kernel
theorem dX2_sumByChanges_69 : decode cX2_sumByChanges 69 = .ok (.iload 4, 2) := by decide +kernel
theorem dX2_sumByChanges_71 : decode cX2_sumByChanges 71 = .ok (.ireturn, 1) := by decide +kernel
set_option maxRecDepth 20000 in
theorem ggX2_choiceByChanges_X1_addedOrChangedCellOf : GoodIn wsX2_choiceByChanges wsX1_addedOrChangedCellOf := goodIn_r _ [11, 12, 13, 14, 9, 15, 16, 17, 18, 19, 20, 21, 22, 23, 24, 25, 26, 27, 28, 29, 30, 42, 43, 44, 45] (by decide +kernel) (by decide +kernel)
set_option maxRecDepth 20000 in
theorem gX2_choiceByChanges_X1_addedOrChangedCellOf_n304 : GoodIn wsX2_choiceByChanges (wsX1_addedOrChangedCellOf) := ggX2_choiceByChanges_X1_addedOrChangedCellOf
set_option maxRecDepth 20000 in
theorem ggX2_choiceByChanges_X1_cellAt : GoodIn wsX2_choiceByChanges wsX1_cellAt := goodIn_r _ [33, 30, 12, 13, 14, 9, 15, 16, 17, 18, 19, 20, 21, 22, 23, 24, 25, 42, 43, 44, 45] (by decide +kernel) (by decide +kernel)
set_option maxRecDepth 20000 in
theorem gX2_choiceByChanges_X1_cellAt_n113 : GoodIn wsX2_choiceByChanges (wsX1_cellAt) := ggX2_choiceByChanges_X1_cellAt
theorem dX2_choiceByChanges_0 : decode cX2_choiceByChanges 0 = .ok (.aload_n 0, 1) := by decide +kernel
theorem dX2_choiceByChanges_1 : decode cX2_choiceByChanges 1 = .ok (.getfield 16, 3) := by decide +kernel
theorem dX2_choiceByChanges_4 : decode cX2_choiceByChanges 4 = .ok (.aload_n 0, 1) := by decide +kernel
theorem dX2_choiceByChanges_5 : decode cX2_choiceByChanges 5 = .ok (.getfield 10, 3) := by decide +kernel
theorem dX2_choiceByChanges_8 : decode cX2_choiceByChanges 8 = .ok (.iload_n 1, 1) := by decide +kernel
theorem dX2_choiceByChanges_9 : decode cX2_choiceByChanges 9 = .ok (.iload_n 2, 1) := by decide +kernel
theorem dX2_choiceByChanges_10 : decode cX2_choiceByChanges 10 = .ok (.invokevirtual 304, 3) := by decide +kernel
theorem dX2_choiceByChanges_13 : decode cX2_choiceByChanges 13 = .ok (.istore 4, 2) := by decide +kernel
theorem dX2_choiceByChanges_15 : decode cX2_choiceByChanges 15 = .ok (.aload_n 0, 1) := by decide +kernel
theorem dX2_choiceByChanges_16 : decode cX2_choiceByChanges 16 = .ok (.getfield 19, 3) := by decide +kernel
theorem dX2_choiceByChanges_19 : decode cX2_choiceByChanges 19 = .ok (.aload_n 0, 1) := by decide +kernel
theorem dX2_choiceByChanges_20 : decode cX2_choiceByChanges 20 = .ok (.getfield 10, 3) := by decide +kernel
theorem dX2_choiceByChanges_23 : decode cX2_choiceByChanges 23 = .ok (.iload_n 1, 1) := by decide +kernel
theorem dX2_choiceByChanges_24 : decode cX2_choiceByChanges 24 = .ok (.iload_n 2, 1) := by decide +kernel
theorem dX2_choiceByChanges_25 : decode cX2_choiceByChanges 25 = .ok (.invokevirtual 304, 3) := by decide +kernel
theorem dX2_choiceByChanges_28 : decode cX2_choiceByChanges 28 = .ok (.istore 5, 2) := by decide +kernel
theorem dX2_choiceByChanges_30 : decode cX2_choiceByChanges 30 = .ok (.aload_n 0, 1) := by decide +kernel
theorem dX2_choiceByChanges_31 : decode cX2_choiceByChanges 31 = .ok (.getfield 10, 3) := by decide +kernel
theorem dX2_choiceByChanges_34 : decode cX2_choiceByChanges 34 = .ok (.iload_n 1, 1) := by decide +kernel
theorem dX2_choiceByChanges_35 : decode cX2_choiceByChanges 35 = .ok (.iload_n 2, 1) := by decide +kernel
theorem dX2_choiceByChanges_36 : decode cX2_choiceByChanges 36 = .ok (.invokevirtual 113, 3) := by decide +kernel
theorem dX2_choiceByChanges_39 : decode cX2_choiceByChanges 39 = .ok (.istore 6, 2) := by decide +kernel
theorem dX2_choiceByChanges_41 : decode cX2_choiceByChanges 41 = .ok (.iload 4, 2) := by decide +kernel
theorem dX2_choiceByChanges_43 : decode cX2_choiceByChanges 43 = .ok (.ifCond .eq 14, 3) := by decide +kernel
theorem dX2_choiceByChanges_46 : decode cX2_choiceByChanges 46 = .ok (.aload_n 0, 1) := by decide +kernel
theorem dX2_choiceByChanges_47 : decode cX2_choiceByChanges 47 = .ok (.getfield 16, 3) := by decide +kernel
theorem dX2_choiceByChanges_50 : decode cX2_choiceByChanges 50 = .ok (.iload_n 1, 1) := by decide +kernel
theorem dX2_choiceByChanges_51 : decode cX2_choiceByChanges 51 = .ok (.iload_n 2, 1) := by decide +kernel
theorem dX2_choiceByChanges_52 : decode cX2_choiceByChanges 52 = .ok (.invokevirtual 113, 3) := by decide +kernel
theorem dX2_choiceByChanges_55 : decode cX2_choiceByChanges 55 = .ok (.istore 6, 2) := by decide +kernel
theorem dX2_choiceByChanges_57 : decode cX2_choiceByChanges 57 = .ok (.iload 5, 2) := by decide +kernel
theorem dX2_choiceByChanges_59 : decode cX2_choiceByChanges 59 = .ok (.ifCond .eq 19, 3) := by decide +kernel
theorem dX2_choiceByChanges_62 : decode cX2_choiceByChanges 62 = .ok (.iload 4, 2) := by decide +kernel
theorem dX2_choiceByChanges_64 : decode cX2_choiceByChanges 64 = .ok (.ifCond .ne 14, 3) := by decide +kernel
theorem dX2_choiceByChanges_67 : decode cX2_choiceByChanges 67 = .ok (.aload_n 0, 1) := by decide +kernel
theorem dX2_choiceByChanges_68 : decode cX2_choiceByChanges 68 = .ok (.getfield 19, 3) := by decide +kernel
theorem dX2_choiceByChanges_71 : decode cX2_choiceByChanges 71 = .ok (.iload_n 1, 1) := by decide +kernel
theorem dX2_choiceByChanges_72 : decode cX2_choiceByChanges 72 = .ok (.iload_n 2, 1) := by decide +kernel
theorem dX2_choiceByChanges_73 : decode cX2_choiceByChanges 73 = .ok (.invokevirtual 113, 3) := by decide +kernel
theorem dX2_choiceByChanges_76 : decode cX2_choiceByChanges 76 = .ok (.istore 6, 2) := by decide +kernel
theorem dX2_choiceByChanges_78 : decode cX2_choiceByChanges 78 = .ok (.iload 5, 2) := by decide +kernel
theorem dX2_choiceByChanges_80 : decode cX2_choiceByChanges 80 = .ok (.ifCond .eq 29, 3) := by decide +kernel
theorem dX2_choiceByChanges_83 : decode cX2_choiceByChanges 83 = .ok (.iload 4, 2) := by decide +kernel
theorem dX2_choiceByChanges_85 : decode cX2_choiceByChanges 85 = .ok (.ifCond .eq 24, 3) := by decide +kernel
theorem dX2_choiceByChanges_88 : decode cX2_choiceByChanges 88 = .ok (.iload_n 3, 1) := by decide +kernel
theorem dX2_choiceByChanges_89 : decode cX2_choiceByChanges 89 = .ok (.iconst 2, 1) := by decide +kernel
theorem dX2_choiceByChanges_90 : decode cX2_choiceByChanges 90 = .ok (.if_icmp .ne 19, 3) := by decide +kernel
theorem dX2_choiceByChanges_93 : decode cX2_choiceByChanges 93 = .ok (.iload 6, 2) := by decide +kernel
theorem dX2_choiceByChanges_95 : decode cX2_choiceByChanges 95 = .ok (.aload_n 0, 1) := by decide +kernel
theorem dX2_choiceByChanges_96 : decode cX2_choiceByChanges 96 = .ok (.getfield 19, 3) := by decide +kernel
theorem dX2_choiceByChanges_99 : decode cX2_choiceByChanges 99 = .ok (.iload_n 1, 1) := by decide +kernel
theorem dX2_choiceByChanges_100 : decode cX2_choiceByChanges 100 = .ok (.iload_n 2, 1) := by decide +kernel
theorem dX2_choiceByChanges_101 : decode cX2_choiceByChanges 101 = .ok (.invokevirtual 113, 3) := by decide +kernel
theorem dX2_choiceByChanges_104 : decode cX2_choiceByChanges 104 = .ok (.invokestatic 289, 3) := by decide +kernel
theorem dX2_choiceByChanges_107 : decode cX2_choiceByChanges 107 = .ok (.istore 6, 2) := by decide +kernel
theorem dX2_choiceByChanges_109 : decode cX2_choiceByChanges 109 = .ok (.iload 6, 2) := by decide +kernel
theorem dX2_choiceByChanges_111 : decode cX2_choiceByChanges 111 = .ok (.ireturn, 1) := by decide +kernel
set_option maxRecDepth 20000 in
theorem ggX2_takeSide_X1_cellAt : GoodIn wsX2_takeSide wsX1_cellAt := goodIn_r _ [5, 6, 7, 8, 9, 3, 10, 11, 12, 13, 14, 15, 16, 17, 18, 19, 20, 46, 47, 48, 49] (by decide +kernel) (by decide +kernel)
set_option maxRecDepth 20000 in
theorem gX2_takeSide_X1_cellAt_n113 : GoodIn wsX2_takeSide (wsX1_cellAt) := ggX2_takeSide_X1_cellAt
set_option maxRecDepth 20000 in
theorem ggX2_takeSide_X1_putCell : GoodIn wsX2_takeSide wsX1_putCell := goodIn_r _ [23, 6, 7, 8, 9, 3, 10, 11, 12, 13, 14, 15, 16, 17, 18, 19, 20, 46, 47, 48, 49] (by decide +kernel) (by decide +kernel)
set_option maxRecDepth 20000 in
theorem gX2_takeSide_X1_putCell_n117 : GoodIn wsX2_takeSide (wsX1_putCell) := ggX2_takeSide_X1_putCell
set_option maxRecDepth 20000 in
theorem ggX2_takeSide_X1_hasRow : GoodIn wsX2_takeSide wsX1_hasRow := goodIn_r _ [14, 15, 46, 47, 48, 49] (by decide +kernel) (by decide +kernel)
set_option maxRecDepth 20000 in
theorem gX2_takeSide_X1_hasRow_n91 : GoodIn wsX2_takeSide (wsX1_hasRow) := ggX2_takeSide_X1_hasRow
set_option maxRecDepth 20000 in
theorem ggX2_takeSide_X1_cutRow : GoodIn wsX2_takeSide wsX1_cutRow := goodIn_r _ [26, 15, 11, 12, 13, 3, 14, 27, 21, 22, 23, 6, 7, 8, 9, 10, 16, 17, 18, 19, 20, 46, 47, 48, 49] (by decide +kernel) (by decide +kernel)
set_option maxRecDepth 20000 in
theorem gX2_takeSide_X1_cutRow_n105 : GoodIn wsX2_takeSide (wsX1_cutRow) := ggX2_takeSide_X1_cutRow
set_option maxRecDepth 20000 in
theorem ggX2_takeSide_X1_hasColumn : GoodIn wsX2_takeSide wsX1_hasColumn := goodIn_r _ [19, 20, 46, 47, 48, 49] (by decide +kernel) (by decide +kernel)
set_option maxRecDepth 20000 in
theorem gX2_takeSide_X1_hasColumn_n55 : GoodIn wsX2_takeSide (wsX1_hasColumn) := ggX2_takeSide_X1_hasColumn
set_option maxRecDepth 20000 in
theorem ggX2_takeSide_X1_cutColumn : GoodIn wsX2_takeSide wsX1_cutColumn := goodIn_r _ [30, 31, 20, 16, 17, 18, 3, 19, 27, 21, 22, 23, 6, 7, 8, 9, 10, 11, 12, 13, 14, 15, 46, 47, 48, 49] (by decide +kernel) (by decide +kernel)
set_option maxRecDepth 20000 in
theorem gX2_takeSide_X1_cutColumn_n82 : GoodIn wsX2_takeSide (wsX1_cutColumn) := ggX2_takeSide_X1_cutColumn
set_option maxRecDepth 20000 in
theorem ggX2_takeSide_X1_nameAt : GoodIn wsX2_takeSide wsX1_nameAt := goodIn_r _ [34, 31, 16, 17, 18, 3, 19, 20, 46, 47, 48, 49] (by decide +kernel) (by decide +kernel)
set_option maxRecDepth 20000 in
theorem gX2_takeSide_X1_nameAt_n78 : GoodIn wsX2_takeSide (wsX1_nameAt) := ggX2_takeSide_X1_nameAt
set_option maxRecDepth 20000 in
theorem ggX2_takeSide_X1_putName : GoodIn wsX2_takeSide wsX1_putName := goodIn_r _ [37, 31, 16, 17, 18, 3, 19, 20, 46, 47, 48, 49] (by decide +kernel) (by decide +kernel)
set_option maxRecDepth 20000 in
theorem gX2_takeSide_X1_putName_n85 : GoodIn wsX2_takeSide (wsX1_putName) := ggX2_takeSide_X1_putName
theorem dX2_takeSide_0 : decode cX2_takeSide 0 = .ok (.iload_n 2, 1) := by decide +kernel
theorem dX2_takeSide_1 : decode cX2_takeSide 1 = .ok (.tableswitch 109 1 4 #[31, 51, 70, 91], 31) := by decide +kernel
theorem dX2_takeSide_32 : decode cX2_takeSide 32 = .ok (.aload_n 0, 1) := by decide +kernel
theorem dX2_takeSide_33 : decode cX2_takeSide 33 = .ok (.getfield 22, 3) := by decide +kernel
theorem dX2_takeSide_36 : decode cX2_takeSide 36 = .ok (.iload_n 3, 1) := by decide +kernel
theorem dX2_takeSide_37 : decode cX2_takeSide 37 = .ok (.iload 4, 2) := by decide +kernel
theorem dX2_takeSide_39 : decode cX2_takeSide 39 = .ok (.aload_n 1, 1) := by decide +kernel
theorem dX2_takeSide_40 : decode cX2_takeSide 40 = .ok (.iload_n 3, 1) := by decide +kernel
theorem dX2_takeSide_41 : decode cX2_takeSide 41 = .ok (.iload 4, 2) := by decide +kernel
theorem dX2_takeSide_43 : decode cX2_takeSide 43 = .ok (.invokevirtual 113, 3) := by decide +kernel
theorem dX2_takeSide_46 : decode cX2_takeSide 46 = .ok (.invokevirtual 117, 3) := by decide +kernel
theorem dX2_takeSide_49 : decode cX2_takeSide 49 = .ok (.goto 61, 3) := by decide +kernel
theorem dX2_takeSide_52 : decode cX2_takeSide 52 = .ok (.aload_n 1, 1) := by decide +kernel
theorem dX2_takeSide_53 : decode cX2_takeSide 53 = .ok (.iload_n 3, 1) := by decide +kernel
theorem dX2_takeSide_54 : decode cX2_takeSide 54 = .ok (.invokevirtual 91, 3) := by decide +kernel
theorem dX2_takeSide_57 : decode cX2_takeSide 57 = .ok (.ifCond .ne 53, 3) := by decide +kernel
theorem dX2_takeSide_60 : decode cX2_takeSide 60 = .ok (.aload_n 0, 1) := by decide +kernel
theorem dX2_takeSide_61 : decode cX2_takeSide 61 = .ok (.getfield 22, 3) := by decide +kernel
theorem dX2_takeSide_64 : decode cX2_takeSide 64 = .ok (.iload_n 3, 1) := by decide +kernel
theorem dX2_takeSide_65 : decode cX2_takeSide 65 = .ok (.invokevirtual 105, 3) := by decide +kernel
theorem dX2_takeSide_68 : decode cX2_takeSide 68 = .ok (.goto 42, 3) := by decide +kernel
theorem dX2_takeSide_71 : decode cX2_takeSide 71 = .ok (.aload_n 1, 1) := by decide +kernel
theorem dX2_takeSide_72 : decode cX2_takeSide 72 = .ok (.iload 4, 2) := by decide +kernel
theorem dX2_takeSide_74 : decode cX2_takeSide 74 = .ok (.invokevirtual 55, 3) := by decide +kernel
theorem dX2_takeSide_77 : decode cX2_takeSide 77 = .ok (.ifCond .ne 33, 3) := by decide +kernel
theorem dX2_takeSide_80 : decode cX2_takeSide 80 = .ok (.aload_n 0, 1) := by decide +kernel
theorem dX2_takeSide_81 : decode cX2_takeSide 81 = .ok (.getfield 22, 3) := by decide +kernel
theorem dX2_takeSide_84 : decode cX2_takeSide 84 = .ok (.iload 4, 2) := by decide +kernel
theorem dX2_takeSide_86 : decode cX2_takeSide 86 = .ok (.invokevirtual 82, 3) := by decide +kernel
theorem dX2_takeSide_89 : decode cX2_takeSide 89 = .ok (.goto 21, 3) := by decide +kernel
theorem dX2_takeSide_92 : decode cX2_takeSide 92 = .ok (.aload_n 0, 1) := by decide +kernel
theorem dX2_takeSide_93 : decode cX2_takeSide 93 = .ok (.getfield 22, 3) := by decide +kernel
theorem dX2_takeSide_96 : decode cX2_takeSide 96 = .ok (.iload 4, 2) := by decide +kernel
theorem dX2_takeSide_98 : decode cX2_takeSide 98 = .ok (.aload_n 1, 1) := by decide +kernel
theorem dX2_takeSide_99 : decode cX2_takeSide 99 = .ok (.iload 4, 2) := by decide +kernel
theorem dX2_takeSide_101 : decode cX2_takeSide 101 = .ok (.invokevirtual 78, 3) := by decide +kernel
theorem dX2_takeSide_104 : decode cX2_takeSide 104 = .ok (.invokevirtual 85, 3) := by decide +kernel
theorem dX2_takeSide_107 : decode cX2_takeSide 107 = .ok (.goto 3, 3) := by decide +kernel
theorem dX2_takeSide_110 : decode cX2_takeSide 110 = .ok (.return_, 1) := by decide +kernel
theorem dJ6_bitCount_0f7a4_0 : decode cJ6_bitCount_0f7a4 0 = .ok (.iload_n 0, 1) := by decide +kernel
theorem dJ6_bitCount_0f7a4_1 : decode cJ6_bitCount_0f7a4 1 = .ok (.iload_n 0, 1) := by decide +kernel
theorem dJ6_bitCount_0f7a4_2 : decode cJ6_bitCount_0f7a4 2 = .ok (.iconst 1, 1) := by decide +kernel
theorem dJ6_bitCount_0f7a4_3 : decode cJ6_bitCount_0f7a4 3 = .ok (.iushr, 1) := by decide +kernel
theorem dJ6_bitCount_0f7a4_4 : decode cJ6_bitCount_0f7a4 4 = .ok (.ldc_w 265, 3) := by decide +kernel
theorem dJ6_bitCount_0f7a4_7 : decode cJ6_bitCount_0f7a4 7 = .ok (.iand, 1) := by decide +kernel
theorem dJ6_bitCount_0f7a4_8 : decode cJ6_bitCount_0f7a4 8 = .ok (.isub, 1) := by decide +kernel
theorem dJ6_bitCount_0f7a4_9 : decode cJ6_bitCount_0f7a4 9 = .ok (.istore_n 0, 1) := by decide +kernel
theorem dJ6_bitCount_0f7a4_10 : decode cJ6_bitCount_0f7a4 10 = .ok (.iload_n 0, 1) := by decide +kernel
theorem dJ6_bitCount_0f7a4_11 : decode cJ6_bitCount_0f7a4 11 = .ok (.ldc_w 266, 3) := by decide +kernel
theorem dJ6_bitCount_0f7a4_14 : decode cJ6_bitCount_0f7a4 14 = .ok (.iand, 1) := by decide +kernel
theorem dJ6_bitCount_0f7a4_15 : decode cJ6_bitCount_0f7a4 15 = .ok (.iload_n 0, 1) := by decide +kernel
theorem dJ6_bitCount_0f7a4_16 : decode cJ6_bitCount_0f7a4 16 = .ok (.iconst 2, 1) := by decide +kernel
theorem dJ6_bitCount_0f7a4_17 : decode cJ6_bitCount_0f7a4 17 = .ok (.iushr, 1) := by decide +kernel
theorem dJ6_bitCount_0f7a4_18 : decode cJ6_bitCount_0f7a4 18 = .ok (.ldc_w 266, 3) := by decide +kernel
theorem dJ6_bitCount_0f7a4_21 : decode cJ6_bitCount_0f7a4 21 = .ok (.iand, 1) := by decide +kernel
theorem dJ6_bitCount_0f7a4_22 : decode cJ6_bitCount_0f7a4 22 = .ok (.iadd, 1) := by decide +kernel
theorem dJ6_bitCount_0f7a4_23 : decode cJ6_bitCount_0f7a4 23 = .ok (.istore_n 0, 1) := by decide +kernel
theorem dJ6_bitCount_0f7a4_24 : decode cJ6_bitCount_0f7a4 24 = .ok (.iload_n 0, 1) := by decide +kernel
theorem dJ6_bitCount_0f7a4_25 : decode cJ6_bitCount_0f7a4 25 = .ok (.iload_n 0, 1) := by decide +kernel
theorem dJ6_bitCount_0f7a4_26 : decode cJ6_bitCount_0f7a4 26 = .ok (.iconst 4, 1) := by decide +kernel
theorem dJ6_bitCount_0f7a4_27 : decode cJ6_bitCount_0f7a4 27 = .ok (.iushr, 1) := by decide +kernel
theorem dJ6_bitCount_0f7a4_28 : decode cJ6_bitCount_0f7a4 28 = .ok (.iadd, 1) := by decide +kernel
theorem dJ6_bitCount_0f7a4_29 : decode cJ6_bitCount_0f7a4 29 = .ok (.ldc_w 267, 3) := by decide +kernel
theorem dJ6_bitCount_0f7a4_32 : decode cJ6_bitCount_0f7a4 32 = .ok (.iand, 1) := by decide +kernel
theorem dJ6_bitCount_0f7a4_33 : decode cJ6_bitCount_0f7a4 33 = .ok (.istore_n 0, 1) := by decide +kernel
theorem dJ6_bitCount_0f7a4_34 : decode cJ6_bitCount_0f7a4 34 = .ok (.iload_n 0, 1) := by decide +kernel
theorem dJ6_bitCount_0f7a4_35 : decode cJ6_bitCount_0f7a4 35 = .ok (.iload_n 0, 1) := by decide +kernel
theorem dJ6_bitCount_0f7a4_36 : decode cJ6_bitCount_0f7a4 36 = .ok (.bipush 8, 2) := by decide +kernel
theorem dJ6_bitCount_0f7a4_38 : decode cJ6_bitCount_0f7a4 38 = .ok (.iushr, 1) := by decide +kernel
theorem dJ6_bitCount_0f7a4_39 : decode cJ6_bitCount_0f7a4 39 = .ok (.iadd, 1) := by decide +kernel
theorem dJ6_bitCount_0f7a4_40 : decode cJ6_bitCount_0f7a4 40 = .ok (.istore_n 0, 1) := by decide +kernel
theorem dJ6_bitCount_0f7a4_41 : decode cJ6_bitCount_0f7a4 41 = .ok (.iload_n 0, 1) := by decide +kernel
theorem dJ6_bitCount_0f7a4_42 : decode cJ6_bitCount_0f7a4 42 = .ok (.iload_n 0, 1) := by decide +kernel
theorem dJ6_bitCount_0f7a4_43 : decode cJ6_bitCount_0f7a4 43 = .ok (.bipush 16, 2) := by decide +kernel
theorem dJ6_bitCount_0f7a4_45 : decode cJ6_bitCount_0f7a4 45 = .ok (.iushr, 1) := by decide +kernel
theorem dJ6_bitCount_0f7a4_46 : decode cJ6_bitCount_0f7a4 46 = .ok (.iadd, 1) := by decide +kernel
theorem dJ6_bitCount_0f7a4_47 : decode cJ6_bitCount_0f7a4 47 = .ok (.istore_n 0, 1) := by decide +kernel
theorem dJ6_bitCount_0f7a4_48 : decode cJ6_bitCount_0f7a4 48 = .ok (.iload_n 0, 1) := by decide +kernel
theorem dJ6_bitCount_0f7a4_49 : decode cJ6_bitCount_0f7a4 49 = .ok (.bipush 63, 2) := by decide +kernel
theorem dJ6_bitCount_0f7a4_51 : decode cJ6_bitCount_0f7a4 51 = .ok (.iand, 1) := by decide +kernel
theorem dJ6_bitCount_0f7a4_52 : decode cJ6_bitCount_0f7a4 52 = .ok (.ireturn, 1) := by decide +kernel
theorem dJ9_max_7cf53_0 : decode cJ9_max_7cf53 0 = .ok (.iload_n 0, 1) := by decide +kernel
theorem dJ9_max_7cf53_1 : decode cJ9_max_7cf53 1 = .ok (.iload_n 1, 1) := by decide +kernel
theorem dJ9_max_7cf53_2 : decode cJ9_max_7cf53 2 = .ok (.if_icmp .lt 7, 3) := by decide +kernel
theorem dJ9_max_7cf53_5 : decode cJ9_max_7cf53 5 = .ok (.iload_n 0, 1) := by decide +kernel
theorem dJ9_max_7cf53_6 : decode cJ9_max_7cf53 6 = .ok (.goto 4, 3) := by decide +kernel
theorem dJ9_max_7cf53_9 : decode cJ9_max_7cf53 9 = .ok (.iload_n 1, 1) := by decide +kernel
theorem dJ9_max_7cf53_10 : decode cJ9_max_7cf53 10 = .ok (.ireturn, 1) := by decide +kernel
theorem dJ7_fill_53178_0 : decode cJ7_fill_53178 0 = .ok (.iconst 0, 1) := by decide +kernel
theorem dJ7_fill_53178_1 : decode cJ7_fill_53178 1 = .ok (.istore_n 2, 1) := by decide +kernel
theorem dJ7_fill_53178_2 : decode cJ7_fill_53178 2 = .ok (.aload_n 0, 1) := by decide +kernel
theorem dJ7_fill_53178_3 : decode cJ7_fill_53178 3 = .ok (.arraylength, 1) := by decide +kernel
theorem dJ7_fill_53178_4 : decode cJ7_fill_53178 4 = .ok (.istore_n 3, 1) := by decide +kernel
theorem dJ7_fill_53178_5 : decode cJ7_fill_53178 5 = .ok (.iload_n 2, 1) := by decide +kernel
theorem dJ7_fill_53178_6 : decode cJ7_fill_53178 6 = .ok (.iload_n 3, 1) := by decide +kernel
theorem dJ7_fill_53178_7 : decode cJ7_fill_53178 7 = .ok (.if_icmp .ge 13, 3) := by decide +kernel
theorem dJ7_fill_53178_10 : decode cJ7_fill_53178 10 = .ok (.aload_n 0, 1) := by decide +kernel
theorem dJ7_fill_53178_11 : decode cJ7_fill_53178 11 = .ok (.iload_n 2, 1) := by decide +kernel
theorem dJ7_fill_53178_12 : decode cJ7_fill_53178 12 = .ok (.iload_n 1, 1) := by decide +kernel
theorem dJ7_fill_53178_13 : decode cJ7_fill_53178 13 = .ok (.iastore, 1) := by decide +kernel
theorem dJ7_fill_53178_14 : decode cJ7_fill_53178 14 = .ok (.iinc 2 1, 3) := by decide +kernel
theorem dJ7_fill_53178_17 : decode cJ7_fill_53178 17 = .ok (.goto (-12), 3) := by decide +kernel
theorem dJ7_fill_53178_20 : decode cJ7_fill_53178 20 = .ok (.return_, 1) := by decide +kernel
set_option maxRecDepth 20000 in
theorem ggL_act_X2_addColumn : GoodIn wsL_act wsX2_addColumn := goodIn_ca (goodIn_ca (goodIn_ca (goodIn_r _ [8, 9, 10, 11, 12, 13, 14, 7, 15, 16, 17, 18, 19, 20, 21, 22, 23, 24, 25, 26, 27, 28, 29, 30, 31, 32, 33, 34, 35, 36, 37, 38, 39, 40, 41, 42, 43, 44, 45, 46, 47, 48, 49, 50, 51, 52, 53, 54, 55, 293, 294, 295, 296, 297, 298, 299, 300, 301, 302, 303, 304] (by decide +kernel) (by decide +kernel)) (goodIn_sub (fun _ h => List.mem_cons_of_mem _ (List.mem_append_left _ (List.mem_append_left _ (List.mem_append_right _ h)))) (by decide +kernel))) (goodIn_sub (fun _ h => List.mem_cons_of_mem _ (List.mem_append_left _ (List.mem_append_right _ h))) (by decide +kernel))) (goodIn_sub (fun _ h => List.mem_cons_of_mem _ (List.mem_append_right _ h)) (by decide +kernel))
set_option maxRecDepth 20000 in
theorem gL_act_X2_addColumn : GoodIn wsL_act (wsV RL 7 RX2 yX2_addColumn wsX2_addColumn) := goodIn_app (goodIn_of _ (by decide +kernel)) ggL_act_X2_addColumn
set_option maxRecDepth 20000 in
theorem ggL_act_X2_dropColumn : GoodIn wsL_act wsX2_dropColumn := goodIn_ca (goodIn_r _ [59, 11, 12, 13, 14, 7, 15, 16, 17, 18, 19, 20, 21, 22, 23, 24, 25, 60, 61, 62, 37, 38, 39, 40, 41, 63, 64, 65, 45, 66, 67, 68, 69, 70, 71, 72, 73, 74, 75, 76, 77, 78, 79, 80, 81, 82, 83, 293, 294, 295, 296, 297, 298, 299, 300, 301, 302, 303, 304] (by decide +kernel) (by decide +kernel)) (goodIn_sub (fun _ h => List.mem_cons_of_mem _ (List.mem_append_left _ (List.mem_append_right _ h))) (by decide +kernel))
set_option maxRecDepth 20000 in
theorem gL_act_X2_dropColumn : GoodIn wsL_act (wsV RL 13 RX2 yX2_dropColumn wsX2_dropColumn) := goodIn_app (goodIn_of _ (by decide +kernel)) ggL_act_X2_dropColumn
set_option maxRecDepth 20000 in
theorem ggL_act_X2_rename : GoodIn wsL_act wsX2_rename := goodIn_ca (goodIn_ca (goodIn_r _ [87, 11, 12, 13, 14, 7, 15, 16, 17, 18, 19, 20, 21, 22, 23, 24, 25, 60, 61, 62, 37, 38, 39, 40, 41, 32, 33, 34, 35, 36, 63, 64, 65, 45, 66, 88, 89, 90, 293, 294, 295, 296, 297, 298, 299, 300, 301, 302, 303, 304] (by decide +kernel) (by decide +kernel)) (goodIn_sub (fun _ h => List.mem_cons_of_mem _ (List.mem_append_left _ (List.mem_append_right _ h))) (by decide +kernel))) (goodIn_sub (fun _ h => List.mem_cons_of_mem _ (List.mem_append_right _ h)) (by decide +kernel))
set_option maxRecDepth 20000 in
theorem gL_act_X2_rename : GoodIn wsL_act (wsV RL 17 RX2 yX2_rename wsX2_rename) := goodIn_app (goodIn_of _ (by decide +kernel)) ggL_act_X2_rename
set_option maxRecDepth 20000 in
theorem ggL_act_X2_addRow : GoodIn wsL_act wsX2_addRow := goodIn_ca (goodIn_ca (goodIn_r _ [94, 9, 10, 11, 12, 13, 14, 7, 15, 16, 17, 18, 19, 20, 21, 22, 23, 24, 25, 95, 96, 97, 98, 99, 100, 80, 38, 81, 82, 83, 101, 102, 103, 104, 105, 106, 49, 50, 51, 52, 53, 54, 55, 293, 294, 295, 296, 297, 298, 299, 300, 301, 302, 303, 304] (by decide +kernel) (by decide +kernel)) (goodIn_sub (fun _ h => List.mem_cons_of_mem _ (List.mem_append_left _ (List.mem_append_left _ (List.mem_append_right _ h)))) (by decide +kernel))) (goodIn_sub (fun _ h => List.mem_cons_of_mem _ (List.mem_append_left _ (List.mem_append_right _ h))) (by decide +kernel))
set_option maxRecDepth 20000 in
theorem gL_act_X2_addRow : GoodIn wsL_act (wsV RL 20 RX2 yX2_addRow wsX2_addRow) := goodIn_app (goodIn_of _ (by decide +kernel)) ggL_act_X2_addRow
set_option maxRecDepth 20000 in
theorem ggL_act_X2_removeRow : GoodIn wsL_act wsX2_removeRow := goodIn_ca (goodIn_r _ [110, 11, 12, 13, 14, 7, 15, 16, 17, 18, 19, 20, 21, 22, 23, 24, 25, 111, 112, 113, 80, 38, 81, 82, 83, 114, 115, 116, 79, 70, 71, 72, 73, 74, 75, 76, 77, 78, 66, 37, 39, 40, 41, 104, 105, 106, 49, 50, 51, 52, 53, 54, 55, 293, 294, 295, 296, 297, 298, 299, 300, 301, 302, 303, 304] (by decide +kernel) (by decide +kernel)) (goodIn_sub (fun _ h => List.mem_cons_of_mem _ (List.mem_append_left _ (List.mem_append_right _ h))) (by decide +kernel))
set_option maxRecDepth 20000 in
theorem gL_act_X2_removeRow : GoodIn wsL_act (wsV RL 23 RX2 yX2_removeRow wsX2_removeRow) := goodIn_app (goodIn_of _ (by decide +kernel)) ggL_act_X2_removeRow
set_option maxRecDepth 20000 in
theorem ggL_act_X2_set : GoodIn wsL_act wsX2_set := goodIn_ca (goodIn_ca (goodIn_r _ [120, 35, 36, 11, 12, 13, 14, 7, 15, 16, 17, 18, 19, 20, 21, 22, 23, 24, 25, 111, 112, 113, 80, 38, 81, 82, 83, 60, 61, 62, 37, 39, 40, 41, 121, 122, 123, 74, 75, 76, 77, 78, 79, 66, 71, 72, 73, 293, 294, 295, 296, 297, 298, 299, 300, 301, 302, 303, 304] (by decide +kernel) (by decide +kernel)) (goodIn_sub (fun _ h => List.mem_cons_of_mem _ (List.mem_append_right _ h)) (by decide +kernel))) (goodIn_sub (fun _ h => List.mem_cons_of_mem _ (List.mem_append_left _ (List.mem_append_right _ h))) (by decide +kernel))
set_option maxRecDepth 20000 in
theorem gL_act_X2_set : GoodIn wsL_act (wsV RL 26 RX2 yX2_set wsX2_set) := goodIn_app (goodIn_of _ (by decide +kernel)) ggL_act_X2_set
set_option maxRecDepth 20000 in
theorem ggL_act_X2_setRule : GoodIn wsL_act wsX2_setRule := goodIn_ca (goodIn_ca (goodIn_r _ [127, 35, 36, 128, 11, 26, 27, 7, 28, 16, 17, 29, 30, 31, 293, 294, 295, 296, 297, 298, 299, 300] (by decide +kernel) (by decide +kernel)) (goodIn_sub (fun _ h => List.mem_cons_of_mem _ (List.mem_append_right _ h)) (by decide +kernel))) (goodIn_sub (fun _ h => List.mem_cons_of_mem _ (List.mem_append_left _ (List.mem_append_right _ h))) (by decide +kernel))
set_option maxRecDepth 20000 in
theorem gL_act_X2_setRule : GoodIn wsL_act (wsV RL 30 RX2 yX2_setRule wsX2_setRule) := goodIn_app (goodIn_of _ (by decide +kernel)) ggL_act_X2_setRule
set_option maxRecDepth 20000 in
theorem ggL_act_X2_setReference : GoodIn wsL_act wsX2_setReference := goodIn_ca (goodIn_r _ [132, 133, 11, 26, 27, 7, 28, 16, 17, 29, 30, 31, 293, 294, 295, 296, 297, 298, 299, 300] (by decide +kernel) (by decide +kernel)) (goodIn_sub (fun _ h => List.mem_cons_of_mem _ (List.mem_append_left _ (List.mem_append_right _ h))) (by decide +kernel))
set_option maxRecDepth 20000 in
theorem gL_act_X2_setReference : GoodIn wsL_act (wsV RL 33 RX2 yX2_setReference wsX2_setReference) := goodIn_app (goodIn_of _ (by decide +kernel)) ggL_act_X2_setReference
set_option maxRecDepth 20000 in
theorem ggL_act_X2_columns : GoodIn wsL_act wsX2_columns := goodIn_ca (goodIn_r _ [137, 18, 19, 20, 7, 21, 16, 17, 22, 23, 24, 25, 301, 302, 303, 304, 293, 294, 295, 296, 297, 298, 299, 300] (by decide +kernel) (by decide +kernel)) (goodIn_sub (fun _ h => List.mem_cons_of_mem _ (List.mem_append_left _ (List.mem_append_right _ h))) (by decide +kernel))
set_option maxRecDepth 20000 in
theorem gL_act_X2_columns : GoodIn wsL_act (wsV RL 37 RX2 yX2_columns wsX2_columns) := goodIn_app (goodIn_of _ (by decide +kernel)) ggL_act_X2_columns
set_option maxRecDepth 20000 in
theorem ggL_act_X2_rows : GoodIn wsL_act wsX2_rows := goodIn_ca (goodIn_r _ [141, 18, 19, 20, 7, 21, 16, 17, 22, 23, 24, 25, 301, 302, 303, 304, 293, 294, 295, 296, 297, 298, 299, 300] (by decide +kernel) (by decide +kernel)) (goodIn_sub (fun _ h => List.mem_cons_of_mem _ (List.mem_append_left _ (List.mem_append_right _ h))) (by decide +kernel))
set_option maxRecDepth 20000 in
theorem gL_act_X2_rows : GoodIn wsL_act (wsV RL 41 RX2 yX2_rows wsX2_rows) := goodIn_app (goodIn_of _ (by decide +kernel)) ggL_act_X2_rows
set_option maxRecDepth 20000 in
theorem ggL_act_X2_name : GoodIn wsL_act wsX2_name := goodIn_ca (goodIn_r _ [145, 18, 19, 20, 7, 21, 16, 17, 22, 23, 24, 25, 60, 61, 62, 37, 38, 39, 40, 41, 63, 64, 65, 45, 66, 293, 294, 295, 296, 297, 298, 299, 300, 301, 302, 303, 304] (by decide +kernel) (by decide +kernel)) (goodIn_sub (fun _ h => List.mem_cons_of_mem _ (List.mem_append_left _ (List.mem_append_right _ h))) (by decide +kernel))
set_option maxRecDepth 20000 in
theorem gL_act_X2_name : GoodIn wsL_act (wsV RL 44 RX2 yX2_name wsX2_name) := goodIn_app (goodIn_of _ (by decide +kernel)) ggL_act_X2_name
set_option maxRecDepth 20000 in
theorem ggL_act_X2_get : GoodIn wsL_act wsX2_get := goodIn_ca (goodIn_r _ [149, 18, 19, 20, 7, 21, 16, 17, 22, 23, 24, 25, 111, 112, 113, 80, 38, 81, 82, 83, 60, 61, 62, 37, 39, 40, 41, 121, 122, 123, 74, 75, 76, 77, 78, 79, 66, 293, 294, 295, 296, 297, 298, 299, 300, 301, 302, 303, 304] (by decide +kernel) (by decide +kernel)) (goodIn_sub (fun _ h => List.mem_cons_of_mem _ (List.mem_append_left _ (List.mem_append_right _ h))) (by decide +kernel))
set_option maxRecDepth 20000 in
theorem gL_act_X2_get : GoodIn wsL_act (wsV RL 47 RX2 yX2_get wsX2_get) := goodIn_app (goodIn_of _ (by decide +kernel)) ggL_act_X2_get
set_option maxRecDepth 20000 in
theorem ggL_act_X2_changes : GoodIn wsL_act wsX2_changes := goodIn_ca (goodIn_r _ [153, 22, 154, 155, 156, 7, 157, 16, 17, 23, 24, 158, 38, 159, 160, 41, 83, 49, 50, 51, 52, 53, 54, 55, 161, 162, 163, 164, 66, 37, 39, 40, 165, 63, 64, 65, 45, 166, 167, 168, 169, 170, 171, 172, 173, 74, 75, 76, 77, 78, 79, 80, 81, 82, 293, 294, 295, 296, 297, 298, 299, 300, 301, 302, 303, 304] (by decide +kernel) (by decide +kernel)) (goodIn_sub (fun _ h => List.mem_cons_of_mem _ (List.mem_append_left _ (List.mem_append_right _ h))) (by decide +kernel))
set_option maxRecDepth 20000 in
theorem gL_act_X2_changes : GoodIn wsL_act (wsV RL 50 RX2 yX2_changes wsX2_changes) := goodIn_app (goodIn_of _ (by decide +kernel)) ggL_act_X2_changes
set_option maxRecDepth 20000 in
theorem ggL_act_X2_accept : GoodIn wsL_act wsX2_accept := goodIn_ca (goodIn_r _ [177, 9, 10, 11, 178, 22, 25, 179, 38, 180, 181, 41, 83, 45, 182, 183, 184, 185, 74, 186, 187, 188, 7, 189, 23, 24, 190, 191, 192, 193, 194, 195, 196, 197, 198, 199, 200, 201, 202, 203, 204, 205, 206, 46, 47, 48, 49, 50, 51, 52, 53, 54, 55, 207, 104, 105, 106, 293, 294, 295, 296, 297, 298, 299, 300, 305, 306, 307, 308, 309, 310, 301, 302, 303, 304] (by decide +kernel) (by decide +kernel)) (goodIn_sub (fun _ h => List.mem_cons_of_mem _ (List.mem_append_left _ (List.mem_append_left _ (List.mem_append_right _ h)))) (by decide +kernel))
set_option maxRecDepth 20000 in
theorem gL_act_X2_accept : GoodIn wsL_act (wsV RL 53 RX2 yX2_accept wsX2_accept) := goodIn_app (goodIn_of _ (by decide +kernel)) ggL_act_X2_accept
set_option maxRecDepth 20000 in
theorem ggL_act_X2_cellByChanges : GoodIn wsL_act wsX2_cellByChanges := goodIn_ca (goodIn_r _ [211, 23, 24, 128, 95, 96, 7, 97, 16, 17, 98, 99, 100, 26, 27, 28, 29, 30, 31, 212, 213, 214, 215, 22, 80, 38, 81, 82, 83, 216, 217, 218, 219, 167, 168, 169, 170, 171, 172, 173, 74, 75, 76, 77, 78, 79, 66, 37, 39, 40, 41, 220, 221, 222, 223, 224, 225, 226, 227, 228, 229, 230, 161, 162, 163, 164, 165, 63, 64, 65, 45, 231, 232, 233, 234, 121, 122, 123, 235, 236, 237, 238, 239, 240, 241, 242, 243, 244, 245, 293, 294, 295, 296, 297, 298, 299, 300, 301, 302, 303, 304] (by decide +kernel) (by decide +kernel)) (goodIn_sub (fun _ h => List.mem_cons_of_mem _ (List.mem_append_left _ (List.mem_append_right _ h))) (by decide +kernel))
set_option maxRecDepth 20000 in
theorem gL_act_X2_cellByChanges : GoodIn wsL_act (wsV RL 57 RX2 yX2_cellByChanges wsX2_cellByChanges) := goodIn_app (goodIn_of _ (by decide +kernel)) ggL_act_X2_cellByChanges
set_option maxRecDepth 20000 in
theorem ggL_act_X2_kindOf : GoodIn wsL_act wsX2_kindOf := goodIn_ca (goodIn_r _ [249, 178, 250, 251, 252, 7, 253, 16, 17, 254, 198, 255, 256, 201, 257, 258, 259, 260, 261, 293, 294, 295, 296, 297, 298, 299, 300, 305, 306, 307, 308, 309, 310] (by decide +kernel) (by decide +kernel)) (goodIn_sub (fun _ h => List.mem_cons_of_mem _ (List.mem_append_left _ (List.mem_append_right _ h))) (by decide +kernel))
set_option maxRecDepth 20000 in
theorem gL_act_X2_kindOf : GoodIn wsL_act (wsV RL 60 RX2 yX2_kindOf wsX2_kindOf) := goodIn_app (goodIn_of _ (by decide +kernel)) ggL_act_X2_kindOf
set_option maxRecDepth 20000 in
theorem ggL_act_X2_keyOf : GoodIn wsL_act wsX2_keyOf := goodIn_ca (goodIn_r _ [265, 178, 250, 251, 252, 7, 253, 16, 17, 254, 198, 255, 256, 201, 266, 267, 268, 269, 261, 293, 294, 295, 296, 297, 298, 299, 300, 305, 306, 307, 308, 309, 310] (by decide +kernel) (by decide +kernel)) (goodIn_sub (fun _ h => List.mem_cons_of_mem _ (List.mem_append_left _ (List.mem_append_right _ h))) (by decide +kernel))
set_option maxRecDepth 20000 in
theorem gL_act_X2_keyOf : GoodIn wsL_act (wsV RL 63 RX2 yX2_keyOf wsX2_keyOf) := goodIn_app (goodIn_of _ (by decide +kernel)) ggL_act_X2_keyOf
set_option maxRecDepth 20000 in
theorem ggL_act_X2_columnOf : GoodIn wsL_act wsX2_columnOf := goodIn_ca (goodIn_r _ [273, 178, 250, 251, 252, 7, 253, 16, 17, 254, 198, 255, 256, 201, 274, 275, 276, 277, 261, 293, 294, 295, 296, 297, 298, 299, 300, 305, 306, 307, 308, 309, 310] (by decide +kernel) (by decide +kernel)) (goodIn_sub (fun _ h => List.mem_cons_of_mem _ (List.mem_append_left _ (List.mem_append_right _ h))) (by decide +kernel))
set_option maxRecDepth 20000 in
theorem gL_act_X2_columnOf : GoodIn wsL_act (wsV RL 66 RX2 yX2_columnOf wsX2_columnOf) := goodIn_app (goodIn_of _ (by decide +kernel)) ggL_act_X2_columnOf
set_option maxRecDepth 20000 in
theorem ggL_act_X2_settle : GoodIn wsL_act wsX2_settle := goodIn_ca (goodIn_ca (goodIn_r _ [281, 9, 10, 11, 178, 250, 251, 252, 7, 253, 16, 17, 254, 198, 255, 256, 201, 154, 155, 156, 157, 23, 24, 282, 283, 284, 285, 261, 257, 258, 259, 260, 266, 267, 268, 269, 274, 275, 276, 277, 286, 287, 288, 289, 25, 121, 38, 122, 123, 74, 75, 76, 77, 78, 79, 80, 81, 82, 83, 66, 37, 39, 40, 41, 71, 72, 73, 114, 115, 116, 70, 67, 68, 69, 45, 63, 64, 65, 88, 89, 90, 290, 291, 292, 202, 293, 294, 295, 296, 297, 298, 299, 300, 305, 306, 307, 308, 309, 310, 301, 302, 303, 304] (by decide +kernel) (by decide +kernel)) (goodIn_sub (fun _ h => List.mem_cons_of_mem _ (List.mem_append_left _ (List.mem_append_left _ (List.mem_append_right _ h)))) (by decide +kernel))) (goodIn_sub (fun _ h => List.mem_cons_of_mem _ (List.mem_append_left _ (List.mem_append_right _ h))) (by decide +kernel))
set_option maxRecDepth 20000 in
theorem gL_act_X2_settle : GoodIn wsL_act (wsV RL 69 RX2 yX2_settle wsX2_settle) := goodIn_app (goodIn_of _ (by decide +kernel)) ggL_act_X2_settle
