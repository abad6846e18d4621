theorem dX3_init_0 : decode cX3_init 0 = .ok (.aload_n 0, 1) := by decide +kernel
theorem dX3_init_1 : decode cX3_init 1 = .ok (.invokespecial 1, 3) := by decide +kernel
theorem dX3_init_4 : decode cX3_init 4 = .ok (.aload_n 0, 1) := by decide +kernel
theorem dX3_init_5 : decode cX3_init 5 = .ok (.iconst 4, 1) := by decide +kernel
theorem dX3_init_6 : decode cX3_init 6 = .ok (.newarray .int, 2) := by decide +kernel
theorem dX3_init_8 : decode cX3_init 8 = .ok (.putfield 7, 3) := by decide +kernel
theorem dX3_init_11 : decode cX3_init 11 = .ok (.aload_n 0, 1) := by decide +kernel
theorem dX3_init_12 : decode cX3_init 12 = .ok (.iconst 4, 1) := by decide +kernel
theorem dX3_init_13 : decode cX3_init 13 = .ok (.newarray .int, 2) := by decide +kernel
theorem dX3_init_15 : decode cX3_init 15 = .ok (.putfield 13, 3) := by decide +kernel
theorem dX3_init_18 : decode cX3_init 18 = .ok (.aload_n 0, 1) := by decide +kernel
theorem dX3_init_19 : decode cX3_init 19 = .ok (.bipush 32, 2) := by decide +kernel
theorem dX3_init_21 : decode cX3_init 21 = .ok (.newarray .int, 2) := by decide +kernel
theorem dX3_init_23 : decode cX3_init 23 = .ok (.putfield 16, 3) := by decide +kernel
theorem dX3_init_26 : decode cX3_init 26 = .ok (.aload_n 0, 1) := by decide +kernel
theorem dX3_init_27 : decode cX3_init 27 = .ok (.sipush 768, 3) := by decide +kernel
theorem dX3_init_30 : decode cX3_init 30 = .ok (.newarray .int, 2) := by decide +kernel
theorem dX3_init_32 : decode cX3_init 32 = .ok (.putfield 19, 3) := by decide +kernel
theorem dX3_init_35 : decode cX3_init 35 = .ok (.aload_n 0, 1) := by decide +kernel
theorem dX3_init_36 : decode cX3_init 36 = .ok (.bipush 8, 2) := by decide +kernel
theorem dX3_init_38 : decode cX3_init 38 = .ok (.newarray .int, 2) := by decide +kernel
theorem dX3_init_40 : decode cX3_init 40 = .ok (.putfield 22, 3) := by decide +kernel
theorem dX3_init_43 : decode cX3_init 43 = .ok (.aload_n 0, 1) := by decide +kernel
theorem dX3_init_44 : decode cX3_init 44 = .ok (.bipush 8, 2) := by decide +kernel
theorem dX3_init_46 : decode cX3_init 46 = .ok (.newarray .boolean, 2) := by decide +kernel
theorem dX3_init_48 : decode cX3_init 48 = .ok (.putfield 25, 3) := by decide +kernel
theorem dX3_init_51 : decode cX3_init 51 = .ok (.aload_n 0, 1) := by decide +kernel
theorem dX3_init_52 : decode cX3_init 52 = .ok (.sipush 440, 3) := by decide +kernel
theorem dX3_init_55 : decode cX3_init 55 = .ok (.newarray .int, 2) := by decide +kernel
theorem dX3_init_57 : decode cX3_init 57 = .ok (.putfield 29, 3) := by decide +kernel
theorem dX3_init_60 : decode cX3_init 60 = .ok (.aload_n 0, 1) := by decide +kernel
theorem dX3_init_61 : decode cX3_init 61 = .ok (.sipush 440, 3) := by decide +kernel
theorem dX3_init_64 : decode cX3_init 64 = .ok (.newarray .int, 2) := by decide +kernel
theorem dX3_init_66 : decode cX3_init 66 = .ok (.putfield 32, 3) := by decide +kernel
theorem dX3_init_69 : decode cX3_init 69 = .ok (.aload_n 0, 1) := by decide +kernel
theorem dX3_init_70 : decode cX3_init 70 = .ok (.sipush 440, 3) := by decide +kernel
theorem dX3_init_73 : decode cX3_init 73 = .ok (.newarray .int, 2) := by decide +kernel
theorem dX3_init_75 : decode cX3_init 75 = .ok (.putfield 35, 3) := by decide +kernel
theorem dX3_init_78 : decode cX3_init 78 = .ok (.aload_n 0, 1) := by decide +kernel
theorem dX3_init_79 : decode cX3_init 79 = .ok (.sipush 440, 3) := by decide +kernel
theorem dX3_init_82 : decode cX3_init 82 = .ok (.newarray .boolean, 2) := by decide +kernel
theorem dX3_init_84 : decode cX3_init 84 = .ok (.putfield 38, 3) := by decide +kernel
theorem dX3_init_87 : decode cX3_init 87 = .ok (.return_, 1) := by decide +kernel
theorem dX3_thrown_0 : decode cX3_thrown 0 = .ok (.aload_n 0, 1) := by decide +kernel
theorem dX3_thrown_1 : decode cX3_thrown 1 = .ok (.getfield 41, 3) := by decide +kernel
theorem dX3_thrown_4 : decode cX3_thrown 4 = .ok (.ireturn, 1) := by decide +kernel
theorem dX3_isIn_0 : decode cX3_isIn 0 = .ok (.iload_n 0, 1) := by decide +kernel
theorem dX3_isIn_1 : decode cX3_isIn 1 = .ok (.iload_n 1, 1) := by decide +kernel
theorem dX3_isIn_2 : decode cX3_isIn 2 = .ok (.if_icmp .lt 12, 3) := by decide +kernel
theorem dX3_isIn_5 : decode cX3_isIn 5 = .ok (.iload_n 0, 1) := by decide +kernel
theorem dX3_isIn_6 : decode cX3_isIn 6 = .ok (.iload_n 2, 1) := by decide +kernel
theorem dX3_isIn_7 : decode cX3_isIn 7 = .ok (.if_icmp .gt 7, 3) := by decide +kernel
theorem dX3_isIn_10 : decode cX3_isIn 10 = .ok (.iconst 1, 1) := by decide +kernel
theorem dX3_isIn_11 : decode cX3_isIn 11 = .ok (.goto 4, 3) := by decide +kernel
theorem dX3_isIn_14 : decode cX3_isIn 14 = .ok (.iconst 0, 1) := by decide +kernel
theorem dX3_isIn_15 : decode cX3_isIn 15 = .ok (.ireturn, 1) := by decide +kernel
theorem dX3_hasColumn_0 : decode cX3_hasColumn 0 = .ok (.aload_n 0, 1) := by decide +kernel
theorem dX3_hasColumn_1 : decode cX3_hasColumn 1 = .ok (.getfield 7, 3) := by decide +kernel
theorem dX3_hasColumn_4 : decode cX3_hasColumn 4 = .ok (.iload_n 1, 1) := by decide +kernel
theorem dX3_hasColumn_5 : decode cX3_hasColumn 5 = .ok (.iaload, 1) := by decide +kernel
theorem dX3_hasColumn_6 : decode cX3_hasColumn 6 = .ok (.iload_n 2, 1) := by decide +kernel
theorem dX3_hasColumn_7 : decode cX3_hasColumn 7 = .ok (.ishr, 1) := by decide +kernel
theorem dX3_hasColumn_8 : decode cX3_hasColumn 8 = .ok (.iconst 1, 1) := by decide +kernel
theorem dX3_hasColumn_9 : decode cX3_hasColumn 9 = .ok (.iand, 1) := by decide +kernel
theorem dX3_hasColumn_10 : decode cX3_hasColumn 10 = .ok (.iconst 1, 1) := by decide +kernel
theorem dX3_hasColumn_11 : decode cX3_hasColumn 11 = .ok (.if_icmp .ne 7, 3) := by decide +kernel
theorem dX3_hasColumn_14 : decode cX3_hasColumn 14 = .ok (.iconst 1, 1) := by decide +kernel
theorem dX3_hasColumn_15 : decode cX3_hasColumn 15 = .ok (.goto 4, 3) := by decide +kernel
theorem dX3_hasColumn_18 : decode cX3_hasColumn 18 = .ok (.iconst 0, 1) := by decide +kernel
theorem dX3_hasColumn_19 : decode cX3_hasColumn 19 = .ok (.ireturn, 1) := by decide +kernel
theorem dX3_hasRow_0 : decode cX3_hasRow 0 = .ok (.aload_n 0, 1) := by decide +kernel
theorem dX3_hasRow_1 : decode cX3_hasRow 1 = .ok (.getfield 13, 3) := by decide +kernel
theorem dX3_hasRow_4 : decode cX3_hasRow 4 = .ok (.iload_n 1, 1) := by decide +kernel
theorem dX3_hasRow_5 : decode cX3_hasRow 5 = .ok (.iaload, 1) := by decide +kernel
theorem dX3_hasRow_6 : decode cX3_hasRow 6 = .ok (.iload_n 2, 1) := by decide +kernel
theorem dX3_hasRow_7 : decode cX3_hasRow 7 = .ok (.ishr, 1) := by decide +kernel
theorem dX3_hasRow_8 : decode cX3_hasRow 8 = .ok (.iconst 1, 1) := by decide +kernel
theorem dX3_hasRow_9 : decode cX3_hasRow 9 = .ok (.iand, 1) := by decide +kernel
theorem dX3_hasRow_10 : decode cX3_hasRow 10 = .ok (.iconst 1, 1) := by decide +kernel
theorem dX3_hasRow_11 : decode cX3_hasRow 11 = .ok (.if_icmp .ne 7, 3) := by decide +kernel
theorem dX3_hasRow_14 : decode cX3_hasRow 14 = .ok (.iconst 1, 1) := by decide +kernel
theorem dX3_hasRow_15 : decode cX3_hasRow 15 = .ok (.goto 4, 3) := by decide +kernel
theorem dX3_hasRow_18 : decode cX3_hasRow 18 = .ok (.iconst 0, 1) := by decide +kernel
theorem dX3_hasRow_19 : decode cX3_hasRow 19 = .ok (.ireturn, 1) := by decide +kernel
set_option maxRecDepth 20000 in
theorem ggX3_hasCell_X3_hasRow : GoodIn wsX3_hasCell wsX3_hasRow := goodIn_r _ [5, 6, 12, 13, 14, 15, 16, 17, 18, 19, 20, 21, 22, 23, 24] (by decide +kernel) (by decide +kernel)
set_option maxRecDepth 20000 in
theorem gX3_hasCell_X3_hasRow : GoodIn wsX3_hasCell (wsV RX3 45 RX3 yX3_hasRow wsX3_hasRow) := goodIn_app (goodIn_of _ (by decide +kernel)) ggX3_hasCell_X3_hasRow
set_option maxRecDepth 20000 in
theorem ggX3_hasCell_X3_hasColumn : GoodIn wsX3_hasCell wsX3_hasColumn := goodIn_r _ [10, 11, 12, 13, 14, 15, 16, 17, 18, 19, 20, 21, 22, 23, 24] (by decide +kernel) (by decide +kernel)
set_option maxRecDepth 20000 in
theorem gX3_hasCell_X3_hasColumn : GoodIn wsX3_hasCell (wsV RX3 49 RX3 yX3_hasColumn wsX3_hasColumn) := goodIn_app (goodIn_of _ (by decide +kernel)) ggX3_hasCell_X3_hasColumn
theorem dX3_hasCell_0 : decode cX3_hasCell 0 = .ok (.aload_n 0, 1) := by decide +kernel
theorem dX3_hasCell_1 : decode cX3_hasCell 1 = .ok (.iload_n 1, 1) := by decide +kernel
theorem dX3_hasCell_2 : decode cX3_hasCell 2 = .ok (.iload_n 2, 1) := by decide +kernel
theorem dX3_hasCell_3 : decode cX3_hasCell 3 = .ok (.invokevirtual 45, 3) := by decide +kernel
theorem dX3_hasCell_6 : decode cX3_hasCell 6 = .ok (.ifCond .eq 16, 3) := by decide +kernel
theorem dX3_hasCell_9 : decode cX3_hasCell 9 = .ok (.aload_n 0, 1) := by decide +kernel
theorem dX3_hasCell_10 : decode cX3_hasCell 10 = .ok (.iload_n 1, 1) := by decide +kernel
theorem dX3_hasCell_11 : decode cX3_hasCell 11 = .ok (.iload_n 3, 1) := by decide +kernel
theorem dX3_hasCell_12 : decode cX3_hasCell 12 = .ok (.invokevirtual 49, 3) := by decide +kernel
theorem dX3_hasCell_15 : decode cX3_hasCell 15 = .ok (.ifCond .eq 7, 3) := by decide +kernel
theorem dX3_hasCell_18 : decode cX3_hasCell 18 = .ok (.iconst 1, 1) := by decide +kernel
theorem dX3_hasCell_19 : decode cX3_hasCell 19 = .ok (.goto 4, 3) := by decide +kernel
theorem dX3_hasCell_22 : decode cX3_hasCell 22 = .ok (.iconst 0, 1) := by decide +kernel
theorem dX3_hasCell_23 : decode cX3_hasCell 23 = .ok (.ireturn, 1) := by decide +kernel
theorem dX3_at_0 : decode cX3_at 0 = .ok (.aload_n 0, 1) := by decide +kernel
theorem dX3_at_1 : decode cX3_at 1 = .ok (.getfield 19, 3) := by decide +kernel
theorem dX3_at_4 : decode cX3_at 4 = .ok (.sipush 192, 3) := by decide +kernel
theorem dX3_at_7 : decode cX3_at 7 = .ok (.iload_n 1, 1) := by decide +kernel
theorem dX3_at_8 : decode cX3_at 8 = .ok (.imul, 1) := by decide +kernel
theorem dX3_at_9 : decode cX3_at 9 = .ok (.bipush 8, 2) := by decide +kernel
theorem dX3_at_11 : decode cX3_at 11 = .ok (.iload_n 2, 1) := by decide +kernel
theorem dX3_at_12 : decode cX3_at 12 = .ok (.imul, 1) := by decide +kernel
theorem dX3_at_13 : decode cX3_at 13 = .ok (.iadd, 1) := by decide +kernel
theorem dX3_at_14 : decode cX3_at 14 = .ok (.iload_n 3, 1) := by decide +kernel
theorem dX3_at_15 : decode cX3_at 15 = .ok (.iadd, 1) := by decide +kernel
theorem dX3_at_16 : decode cX3_at 16 = .ok (.iaload, 1) := by decide +kernel
theorem dX3_at_17 : decode cX3_at 17 = .ok (.ireturn, 1) := by decide +kernel
theorem dX3_count_0 : decode cX3_count 0 = .ok (.iconst 0, 1) := by decide +kernel
theorem dX3_count_1 : decode cX3_count 1 = .ok (.istore_n 1, 1) := by decide +kernel
theorem dX3_count_2 : decode cX3_count 2 = .ok (.iconst 0, 1) := by decide +kernel
theorem dX3_count_3 : decode cX3_count 3 = .ok (.istore_n 2, 1) := by decide +kernel
theorem dX3_count_4 : decode cX3_count 4 = .ok (.iload_n 2, 1) := by decide +kernel
theorem dX3_count_5 : decode cX3_count 5 = .ok (.bipush 24, 2) := by decide +kernel
theorem dX3_count_7 : decode cX3_count 7 = .ok (.if_icmp .ge 17, 3) := by decide +kernel
theorem dX3_count_10 : decode cX3_count 10 = .ok (.iload_n 1, 1) := by decide +kernel
theorem dX3_count_11 : decode cX3_count 11 = .ok (.iload_n 0, 1) := by decide +kernel
theorem dX3_count_12 : decode cX3_count 12 = .ok (.iload_n 2, 1) := by decide +kernel
theorem dX3_count_13 : decode cX3_count 13 = .ok (.ishr, 1) := by decide +kernel
theorem dX3_count_14 : decode cX3_count 14 = .ok (.iconst 1, 1) := by decide +kernel
theorem dX3_count_15 : decode cX3_count 15 = .ok (.iand, 1) := by decide +kernel
theorem dX3_count_16 : decode cX3_count 16 = .ok (.iadd, 1) := by decide +kernel
theorem dX3_count_17 : decode cX3_count 17 = .ok (.istore_n 1, 1) := by decide +kernel
theorem dX3_count_18 : decode cX3_count 18 = .ok (.iinc 2 1, 3) := by decide +kernel
theorem dX3_count_21 : decode cX3_count 21 = .ok (.goto (-17), 3) := by decide +kernel
theorem dX3_count_24 : decode cX3_count 24 = .ok (.iload_n 1, 1) := by decide +kernel
theorem dX3_count_25 : decode cX3_count 25 = .ok (.ireturn, 1) := by decide +kernel
set_option maxRecDepth 20000 in
theorem ggX3_addColumn_X3_isIn : GoodIn wsX3_addColumn wsX3_isIn := goodIn_r _ [9] (by decide +kernel) (by decide +kernel)
set_option maxRecDepth 20000 in
theorem gX3_addColumn_X3_isIn : GoodIn wsX3_addColumn (va_wsS RX3 52 yX3_isIn wsX3_isIn) := goodIn_app (goodIn_of _ (by decide +kernel)) ggX3_addColumn_X3_isIn
set_option maxRecDepth 20000 in
theorem ggX3_addColumn_X3_hasColumn : GoodIn wsX3_addColumn wsX3_hasColumn := goodIn_r _ [13, 2, 17, 18, 19, 20, 21, 22, 23, 24, 25, 26, 27, 28, 29] (by decide +kernel) (by decide +kernel)
set_option maxRecDepth 20000 in
theorem gX3_addColumn_X3_hasColumn : GoodIn wsX3_addColumn (wsV RX3 49 RX3 yX3_hasColumn wsX3_hasColumn) := goodIn_app (goodIn_of _ (by decide +kernel)) ggX3_addColumn_X3_hasColumn
set_option maxRecDepth 20000 in
theorem ggX3_addColumn_X3_count : GoodIn wsX3_addColumn wsX3_count := goodIn_r _ [16] (by decide +kernel) (by decide +kernel)
set_option maxRecDepth 20000 in
theorem gX3_addColumn_X3_count : GoodIn wsX3_addColumn (va_wsS RX3 60 yX3_count wsX3_count) := goodIn_app (goodIn_of _ (by decide +kernel)) ggX3_addColumn_X3_count
theorem dX3_addColumn_0 : decode cX3_addColumn 0 = .ok (.aload_n 0, 1) := by decide +kernel
theorem dX3_addColumn_1 : decode cX3_addColumn 1 = .ok (.iload_n 1, 1) := by decide +kernel
theorem dX3_addColumn_2 : decode cX3_addColumn 2 = .ok (.iconst 0, 1) := by decide +kernel
theorem dX3_addColumn_3 : decode cX3_addColumn 3 = .ok (.iconst 2, 1) := by decide +kernel
theorem dX3_addColumn_4 : decode cX3_addColumn 4 = .ok (.invokestatic 52, 3) := by decide +kernel
theorem dX3_addColumn_7 : decode cX3_addColumn 7 = .ok (.ifCond .eq 13, 3) := by decide +kernel
theorem dX3_addColumn_10 : decode cX3_addColumn 10 = .ok (.iload_n 2, 1) := by decide +kernel
theorem dX3_addColumn_11 : decode cX3_addColumn 11 = .ok (.iconst 0, 1) := by decide +kernel
theorem dX3_addColumn_12 : decode cX3_addColumn 12 = .ok (.bipush 7, 2) := by decide +kernel
theorem dX3_addColumn_14 : decode cX3_addColumn 14 = .ok (.invokestatic 52, 3) := by decide +kernel
theorem dX3_addColumn_17 : decode cX3_addColumn 17 = .ok (.ifCond .ne 7, 3) := by decide +kernel
theorem dX3_addColumn_20 : decode cX3_addColumn 20 = .ok (.iconst 1, 1) := by decide +kernel
theorem dX3_addColumn_21 : decode cX3_addColumn 21 = .ok (.goto 31, 3) := by decide +kernel
theorem dX3_addColumn_24 : decode cX3_addColumn 24 = .ok (.iload_n 3, 1) := by decide +kernel
theorem dX3_addColumn_25 : decode cX3_addColumn 25 = .ok (.iconst 0, 1) := by decide +kernel
theorem dX3_addColumn_26 : decode cX3_addColumn 26 = .ok (.bipush 99, 2) := by decide +kernel
theorem dX3_addColumn_28 : decode cX3_addColumn 28 = .ok (.invokestatic 52, 3) := by decide +kernel
theorem dX3_addColumn_31 : decode cX3_addColumn 31 = .ok (.ifCond .ne 7, 3) := by decide +kernel
theorem dX3_addColumn_34 : decode cX3_addColumn 34 = .ok (.iconst 2, 1) := by decide +kernel
theorem dX3_addColumn_35 : decode cX3_addColumn 35 = .ok (.goto 17, 3) := by decide +kernel
theorem dX3_addColumn_38 : decode cX3_addColumn 38 = .ok (.aload_n 0, 1) := by decide +kernel
theorem dX3_addColumn_39 : decode cX3_addColumn 39 = .ok (.iload_n 1, 1) := by decide +kernel
theorem dX3_addColumn_40 : decode cX3_addColumn 40 = .ok (.iload_n 2, 1) := by decide +kernel
theorem dX3_addColumn_41 : decode cX3_addColumn 41 = .ok (.invokevirtual 49, 3) := by decide +kernel
theorem dX3_addColumn_44 : decode cX3_addColumn 44 = .ok (.ifCond .eq 7, 3) := by decide +kernel
theorem dX3_addColumn_47 : decode cX3_addColumn 47 = .ok (.iconst 3, 1) := by decide +kernel
theorem dX3_addColumn_48 : decode cX3_addColumn 48 = .ok (.goto 4, 3) := by decide +kernel
theorem dX3_addColumn_51 : decode cX3_addColumn 51 = .ok (.iconst 0, 1) := by decide +kernel
theorem dX3_addColumn_52 : decode cX3_addColumn 52 = .ok (.putfield 41, 3) := by decide +kernel
theorem dX3_addColumn_55 : decode cX3_addColumn 55 = .ok (.aload_n 0, 1) := by decide +kernel
theorem dX3_addColumn_56 : decode cX3_addColumn 56 = .ok (.getfield 41, 3) := by decide +kernel
theorem dX3_addColumn_59 : decode cX3_addColumn 59 = .ok (.ifCond .le 5, 3) := by decide +kernel
theorem dX3_addColumn_62 : decode cX3_addColumn 62 = .ok (.iconst 0, 1) := by decide +kernel
theorem dX3_addColumn_63 : decode cX3_addColumn 63 = .ok (.ireturn, 1) := by decide +kernel
theorem dX3_addColumn_64 : decode cX3_addColumn 64 = .ok (.aload_n 0, 1) := by decide +kernel
theorem dX3_addColumn_65 : decode cX3_addColumn 65 = .ok (.getfield 7, 3) := by decide +kernel
theorem dX3_addColumn_68 : decode cX3_addColumn 68 = .ok (.iload_n 1, 1) := by decide +kernel
theorem dX3_addColumn_69 : decode cX3_addColumn 69 = .ok (.dup2, 1) := by decide +kernel
theorem dX3_addColumn_70 : decode cX3_addColumn 70 = .ok (.iaload, 1) := by decide +kernel
theorem dX3_addColumn_71 : decode cX3_addColumn 71 = .ok (.iconst 1, 1) := by decide +kernel
theorem dX3_addColumn_72 : decode cX3_addColumn 72 = .ok (.iload_n 2, 1) := by decide +kernel
theorem dX3_addColumn_73 : decode cX3_addColumn 73 = .ok (.ishl, 1) := by decide +kernel
theorem dX3_addColumn_74 : decode cX3_addColumn 74 = .ok (.ior, 1) := by decide +kernel
theorem dX3_addColumn_75 : decode cX3_addColumn 75 = .ok (.iastore, 1) := by decide +kernel
theorem dX3_addColumn_76 : decode cX3_addColumn 76 = .ok (.aload_n 0, 1) := by decide +kernel
theorem dX3_addColumn_77 : decode cX3_addColumn 77 = .ok (.getfield 16, 3) := by decide +kernel
theorem dX3_addColumn_80 : decode cX3_addColumn 80 = .ok (.bipush 8, 2) := by decide +kernel
theorem dX3_addColumn_82 : decode cX3_addColumn 82 = .ok (.iload_n 1, 1) := by decide +kernel
theorem dX3_addColumn_83 : decode cX3_addColumn 83 = .ok (.imul, 1) := by decide +kernel
theorem dX3_addColumn_84 : decode cX3_addColumn 84 = .ok (.iload_n 2, 1) := by decide +kernel
theorem dX3_addColumn_85 : decode cX3_addColumn 85 = .ok (.iadd, 1) := by decide +kernel
theorem dX3_addColumn_86 : decode cX3_addColumn 86 = .ok (.iload_n 3, 1) := by decide +kernel
theorem dX3_addColumn_87 : decode cX3_addColumn 87 = .ok (.iastore, 1) := by decide +kernel
theorem dX3_addColumn_88 : decode cX3_addColumn 88 = .ok (.iconst 0, 1) := by decide +kernel
theorem dX3_addColumn_89 : decode cX3_addColumn 89 = .ok (.istore 4, 2) := by decide +kernel
theorem dX3_addColumn_91 : decode cX3_addColumn 91 = .ok (.iload 4, 2) := by decide +kernel
theorem dX3_addColumn_93 : decode cX3_addColumn 93 = .ok (.bipush 24, 2) := by decide +kernel
theorem dX3_addColumn_95 : decode cX3_addColumn 95 = .ok (.if_icmp .ge 28, 3) := by decide +kernel
theorem dX3_addColumn_98 : decode cX3_addColumn 98 = .ok (.aload_n 0, 1) := by decide +kernel
theorem dX3_addColumn_99 : decode cX3_addColumn 99 = .ok (.getfield 19, 3) := by decide +kernel
theorem dX3_addColumn_102 : decode cX3_addColumn 102 = .ok (.sipush 192, 3) := by decide +kernel
theorem dX3_addColumn_105 : decode cX3_addColumn 105 = .ok (.iload_n 1, 1) := by decide +kernel
theorem dX3_addColumn_106 : decode cX3_addColumn 106 = .ok (.imul, 1) := by decide +kernel
theorem dX3_addColumn_107 : decode cX3_addColumn 107 = .ok (.bipush 8, 2) := by decide +kernel
theorem dX3_addColumn_109 : decode cX3_addColumn 109 = .ok (.iload 4, 2) := by decide +kernel
theorem dX3_addColumn_111 : decode cX3_addColumn 111 = .ok (.imul, 1) := by decide +kernel
theorem dX3_addColumn_112 : decode cX3_addColumn 112 = .ok (.iadd, 1) := by decide +kernel
theorem dX3_addColumn_113 : decode cX3_addColumn 113 = .ok (.iload_n 2, 1) := by decide +kernel
theorem dX3_addColumn_114 : decode cX3_addColumn 114 = .ok (.iadd, 1) := by decide +kernel
theorem dX3_addColumn_115 : decode cX3_addColumn 115 = .ok (.iconst 0, 1) := by decide +kernel
theorem dX3_addColumn_116 : decode cX3_addColumn 116 = .ok (.iastore, 1) := by decide +kernel
theorem dX3_addColumn_117 : decode cX3_addColumn 117 = .ok (.iinc 4 1, 3) := by decide +kernel
theorem dX3_addColumn_120 : decode cX3_addColumn 120 = .ok (.goto (-29), 3) := by decide +kernel
theorem dX3_addColumn_123 : decode cX3_addColumn 123 = .ok (.aload_n 0, 1) := by decide +kernel
theorem dX3_addColumn_124 : decode cX3_addColumn 124 = .ok (.iconst 0, 1) := by decide +kernel
theorem dX3_addColumn_125 : decode cX3_addColumn 125 = .ok (.putfield 56, 3) := by decide +kernel
theorem dX3_addColumn_128 : decode cX3_addColumn 128 = .ok (.aload_n 0, 1) := by decide +kernel
theorem dX3_addColumn_129 : decode cX3_addColumn 129 = .ok (.getfield 7, 3) := by decide +kernel
theorem dX3_addColumn_132 : decode cX3_addColumn 132 = .ok (.iload_n 1, 1) := by decide +kernel
theorem dX3_addColumn_133 : decode cX3_addColumn 133 = .ok (.iaload, 1) := by decide +kernel
theorem dX3_addColumn_134 : decode cX3_addColumn 134 = .ok (.invokestatic 60, 3) := by decide +kernel
theorem dX3_addColumn_137 : decode cX3_addColumn 137 = .ok (.ireturn, 1) := by decide +kernel
set_option maxRecDepth 20000 in
theorem ggX3_findsColumn_X3_isIn : GoodIn wsX3_findsColumn wsX3_isIn := goodIn_r _ [5] (by decide +kernel) (by decide +kernel)
set_option maxRecDepth 20000 in
theorem gX3_findsColumn_X3_isIn : GoodIn wsX3_findsColumn (va_wsS RX3 52 yX3_isIn wsX3_isIn) := goodIn_app (goodIn_of _ (by decide +kernel)) ggX3_findsColumn_X3_isIn
set_option maxRecDepth 20000 in
theorem ggX3_findsColumn_X3_hasColumn : GoodIn wsX3_findsColumn wsX3_hasColumn := goodIn_r _ [9, 10, 11, 12, 13, 14, 15, 16, 17, 18, 19, 20, 21, 22, 23] (by decide +kernel) (by decide +kernel)
set_option maxRecDepth 20000 in
theorem gX3_findsColumn_X3_hasColumn : GoodIn wsX3_findsColumn (wsV RX3 49 RX3 yX3_hasColumn wsX3_hasColumn) := goodIn_app (goodIn_of _ (by decide +kernel)) ggX3_findsColumn_X3_hasColumn
theorem dX3_findsColumn_0 : decode cX3_findsColumn 0 = .ok (.aload_n 0, 1) := by decide +kernel
theorem dX3_findsColumn_1 : decode cX3_findsColumn 1 = .ok (.iload_n 1, 1) := by decide +kernel
theorem dX3_findsColumn_2 : decode cX3_findsColumn 2 = .ok (.iconst 0, 1) := by decide +kernel
theorem dX3_findsColumn_3 : decode cX3_findsColumn 3 = .ok (.iload_n 2, 1) := by decide +kernel
theorem dX3_findsColumn_4 : decode cX3_findsColumn 4 = .ok (.invokestatic 52, 3) := by decide +kernel
theorem dX3_findsColumn_7 : decode cX3_findsColumn 7 = .ok (.ifCond .eq 26, 3) := by decide +kernel
theorem dX3_findsColumn_10 : decode cX3_findsColumn 10 = .ok (.iload_n 3, 1) := by decide +kernel
theorem dX3_findsColumn_11 : decode cX3_findsColumn 11 = .ok (.iconst 0, 1) := by decide +kernel
theorem dX3_findsColumn_12 : decode cX3_findsColumn 12 = .ok (.bipush 7, 2) := by decide +kernel
theorem dX3_findsColumn_14 : decode cX3_findsColumn 14 = .ok (.invokestatic 52, 3) := by decide +kernel
theorem dX3_findsColumn_17 : decode cX3_findsColumn 17 = .ok (.ifCond .eq 16, 3) := by decide +kernel
theorem dX3_findsColumn_20 : decode cX3_findsColumn 20 = .ok (.aload_n 0, 1) := by decide +kernel
theorem dX3_findsColumn_21 : decode cX3_findsColumn 21 = .ok (.iload_n 1, 1) := by decide +kernel
theorem dX3_findsColumn_22 : decode cX3_findsColumn 22 = .ok (.iload_n 3, 1) := by decide +kernel
theorem dX3_findsColumn_23 : decode cX3_findsColumn 23 = .ok (.invokevirtual 49, 3) := by decide +kernel
theorem dX3_findsColumn_26 : decode cX3_findsColumn 26 = .ok (.ifCond .eq 7, 3) := by decide +kernel
theorem dX3_findsColumn_29 : decode cX3_findsColumn 29 = .ok (.iconst 0, 1) := by decide +kernel
theorem dX3_findsColumn_30 : decode cX3_findsColumn 30 = .ok (.goto 4, 3) := by decide +kernel
theorem dX3_findsColumn_33 : decode cX3_findsColumn 33 = .ok (.iconst 1, 1) := by decide +kernel
theorem dX3_findsColumn_34 : decode cX3_findsColumn 34 = .ok (.putfield 41, 3) := by decide +kernel
theorem dX3_findsColumn_37 : decode cX3_findsColumn 37 = .ok (.aload_n 0, 1) := by decide +kernel
theorem dX3_findsColumn_38 : decode cX3_findsColumn 38 = .ok (.getfield 41, 3) := by decide +kernel
theorem dX3_findsColumn_41 : decode cX3_findsColumn 41 = .ok (.ifCond .ne 7, 3) := by decide +kernel
theorem dX3_findsColumn_44 : decode cX3_findsColumn 44 = .ok (.iconst 1, 1) := by decide +kernel
theorem dX3_findsColumn_45 : decode cX3_findsColumn 45 = .ok (.goto 4, 3) := by decide +kernel
theorem dX3_findsColumn_48 : decode cX3_findsColumn 48 = .ok (.iconst 0, 1) := by decide +kernel
theorem dX3_findsColumn_49 : decode cX3_findsColumn 49 = .ok (.ireturn, 1) := by decide +kernel
set_option maxRecDepth 20000 in
theorem ggX3_dropColumn_X3_findsColumn : GoodIn wsX3_dropColumn wsX3_findsColumn := goodIn_r _ [8, 9, 10, 11, 7, 12, 13, 14, 15, 16, 1, 17, 18, 19, 20, 21, 22, 23, 24, 25, 26, 27, 28, 29] (by decide +kernel) (by decide +kernel)
set_option maxRecDepth 20000 in
theorem gX3_dropColumn_X3_findsColumn : GoodIn wsX3_dropColumn (wsV RX3 64 RX3 yX3_findsColumn wsX3_findsColumn) := goodIn_app (goodIn_of _ (by decide +kernel)) ggX3_dropColumn_X3_findsColumn
theorem dX3_dropColumn_0 : decode cX3_dropColumn 0 = .ok (.aload_n 0, 1) := by decide +kernel
theorem dX3_dropColumn_1 : decode cX3_dropColumn 1 = .ok (.iload_n 1, 1) := by decide +kernel
theorem dX3_dropColumn_2 : decode cX3_dropColumn 2 = .ok (.iconst 2, 1) := by decide +kernel
theorem dX3_dropColumn_3 : decode cX3_dropColumn 3 = .ok (.iload_n 2, 1) := by decide +kernel
theorem dX3_dropColumn_4 : decode cX3_dropColumn 4 = .ok (.invokevirtual 64, 3) := by decide +kernel
theorem dX3_dropColumn_7 : decode cX3_dropColumn 7 = .ok (.ifCond .ne 5, 3) := by decide +kernel
theorem dX3_dropColumn_10 : decode cX3_dropColumn 10 = .ok (.iconst 0, 1) := by decide +kernel
theorem dX3_dropColumn_11 : decode cX3_dropColumn 11 = .ok (.ireturn, 1) := by decide +kernel
theorem dX3_dropColumn_12 : decode cX3_dropColumn 12 = .ok (.aload_n 0, 1) := by decide +kernel
theorem dX3_dropColumn_13 : decode cX3_dropColumn 13 = .ok (.getfield 7, 3) := by decide +kernel
theorem dX3_dropColumn_16 : decode cX3_dropColumn 16 = .ok (.iload_n 1, 1) := by decide +kernel
theorem dX3_dropColumn_17 : decode cX3_dropColumn 17 = .ok (.dup2, 1) := by decide +kernel
theorem dX3_dropColumn_18 : decode cX3_dropColumn 18 = .ok (.iaload, 1) := by decide +kernel
theorem dX3_dropColumn_19 : decode cX3_dropColumn 19 = .ok (.iconst 1, 1) := by decide +kernel
theorem dX3_dropColumn_20 : decode cX3_dropColumn 20 = .ok (.iload_n 2, 1) := by decide +kernel
theorem dX3_dropColumn_21 : decode cX3_dropColumn 21 = .ok (.ishl, 1) := by decide +kernel
theorem dX3_dropColumn_22 : decode cX3_dropColumn 22 = .ok (.iconst (-1), 1) := by decide +kernel
theorem dX3_dropColumn_23 : decode cX3_dropColumn 23 = .ok (.ixor, 1) := by decide +kernel
theorem dX3_dropColumn_24 : decode cX3_dropColumn 24 = .ok (.iand, 1) := by decide +kernel
theorem dX3_dropColumn_25 : decode cX3_dropColumn 25 = .ok (.iastore, 1) := by decide +kernel
theorem dX3_dropColumn_26 : decode cX3_dropColumn 26 = .ok (.aload_n 0, 1) := by decide +kernel
theorem dX3_dropColumn_27 : decode cX3_dropColumn 27 = .ok (.iconst 0, 1) := by decide +kernel
theorem dX3_dropColumn_28 : decode cX3_dropColumn 28 = .ok (.putfield 56, 3) := by decide +kernel
theorem dX3_dropColumn_31 : decode cX3_dropColumn 31 = .ok (.aload_n 0, 1) := by decide +kernel
theorem dX3_dropColumn_32 : decode cX3_dropColumn 32 = .ok (.getfield 16, 3) := by decide +kernel
theorem dX3_dropColumn_35 : decode cX3_dropColumn 35 = .ok (.bipush 8, 2) := by decide +kernel
theorem dX3_dropColumn_37 : decode cX3_dropColumn 37 = .ok (.iload_n 1, 1) := by decide +kernel
theorem dX3_dropColumn_38 : decode cX3_dropColumn 38 = .ok (.imul, 1) := by decide +kernel
theorem dX3_dropColumn_39 : decode cX3_dropColumn 39 = .ok (.iload_n 2, 1) := by decide +kernel
theorem dX3_dropColumn_40 : decode cX3_dropColumn 40 = .ok (.iadd, 1) := by decide +kernel
theorem dX3_dropColumn_41 : decode cX3_dropColumn 41 = .ok (.iaload, 1) := by decide +kernel
theorem dX3_dropColumn_42 : decode cX3_dropColumn 42 = .ok (.ireturn, 1) := by decide +kernel
set_option maxRecDepth 20000 in
theorem ggX3_rename_X3_findsColumn : GoodIn wsX3_rename wsX3_findsColumn := goodIn_r _ [8, 1, 9, 10, 7, 11, 12, 13, 14, 15, 16, 17, 18, 19, 20, 21, 22, 23, 24, 25, 26, 27, 28, 29] (by decide +kernel) (by decide +kernel)
set_option maxRecDepth 20000 in
theorem gX3_rename_X3_findsColumn : GoodIn wsX3_rename (wsV RX3 64 RX3 yX3_findsColumn wsX3_findsColumn) := goodIn_app (goodIn_of _ (by decide +kernel)) ggX3_rename_X3_findsColumn
set_option maxRecDepth 20000 in
theorem ggX3_rename_X3_isIn : GoodIn wsX3_rename wsX3_isIn := goodIn_r _ [11] (by decide +kernel) (by decide +kernel)
set_option maxRecDepth 20000 in
theorem gX3_rename_X3_isIn : GoodIn wsX3_rename (va_wsS RX3 52 yX3_isIn wsX3_isIn) := goodIn_app (goodIn_of _ (by decide +kernel)) ggX3_rename_X3_isIn
theorem dX3_rename_0 : decode cX3_rename 0 = .ok (.aload_n 0, 1) := by decide +kernel
theorem dX3_rename_1 : decode cX3_rename 1 = .ok (.iload_n 1, 1) := by decide +kernel
theorem dX3_rename_2 : decode cX3_rename 2 = .ok (.iconst 2, 1) := by decide +kernel
theorem dX3_rename_3 : decode cX3_rename 3 = .ok (.iload_n 2, 1) := by decide +kernel
theorem dX3_rename_4 : decode cX3_rename 4 = .ok (.invokevirtual 64, 3) := by decide +kernel
theorem dX3_rename_7 : decode cX3_rename 7 = .ok (.ifCond .ne 5, 3) := by decide +kernel
theorem dX3_rename_10 : decode cX3_rename 10 = .ok (.iconst 0, 1) := by decide +kernel
theorem dX3_rename_11 : decode cX3_rename 11 = .ok (.ireturn, 1) := by decide +kernel
theorem dX3_rename_12 : decode cX3_rename 12 = .ok (.aload_n 0, 1) := by decide +kernel
theorem dX3_rename_13 : decode cX3_rename 13 = .ok (.iload_n 3, 1) := by decide +kernel
theorem dX3_rename_14 : decode cX3_rename 14 = .ok (.iconst 0, 1) := by decide +kernel
theorem dX3_rename_15 : decode cX3_rename 15 = .ok (.bipush 99, 2) := by decide +kernel
theorem dX3_rename_17 : decode cX3_rename 17 = .ok (.invokestatic 52, 3) := by decide +kernel
theorem dX3_rename_20 : decode cX3_rename 20 = .ok (.ifCond .eq 7, 3) := by decide +kernel
theorem dX3_rename_23 : decode cX3_rename 23 = .ok (.iconst 0, 1) := by decide +kernel
theorem dX3_rename_24 : decode cX3_rename 24 = .ok (.goto 4, 3) := by decide +kernel
theorem dX3_rename_27 : decode cX3_rename 27 = .ok (.iconst 2, 1) := by decide +kernel
theorem dX3_rename_28 : decode cX3_rename 28 = .ok (.putfield 41, 3) := by decide +kernel
theorem dX3_rename_31 : decode cX3_rename 31 = .ok (.aload_n 0, 1) := by decide +kernel
theorem dX3_rename_32 : decode cX3_rename 32 = .ok (.getfield 41, 3) := by decide +kernel
theorem dX3_rename_35 : decode cX3_rename 35 = .ok (.ifCond .le 5, 3) := by decide +kernel
theorem dX3_rename_38 : decode cX3_rename 38 = .ok (.iconst 0, 1) := by decide +kernel
theorem dX3_rename_39 : decode cX3_rename 39 = .ok (.ireturn, 1) := by decide +kernel
theorem dX3_rename_40 : decode cX3_rename 40 = .ok (.aload_n 0, 1) := by decide +kernel
theorem dX3_rename_41 : decode cX3_rename 41 = .ok (.getfield 16, 3) := by decide +kernel
theorem dX3_rename_44 : decode cX3_rename 44 = .ok (.bipush 8, 2) := by decide +kernel
theorem dX3_rename_46 : decode cX3_rename 46 = .ok (.iload_n 1, 1) := by decide +kernel
theorem dX3_rename_47 : decode cX3_rename 47 = .ok (.imul, 1) := by decide +kernel
theorem dX3_rename_48 : decode cX3_rename 48 = .ok (.iload_n 2, 1) := by decide +kernel
theorem dX3_rename_49 : decode cX3_rename 49 = .ok (.iadd, 1) := by decide +kernel
theorem dX3_rename_50 : decode cX3_rename 50 = .ok (.iaload, 1) := by decide +kernel
theorem dX3_rename_51 : decode cX3_rename 51 = .ok (.istore 4, 2) := by decide +kernel
theorem dX3_rename_53 : decode cX3_rename 53 = .ok (.aload_n 0, 1) := by decide +kernel
theorem dX3_rename_54 : decode cX3_rename 54 = .ok (.getfield 16, 3) := by decide +kernel
theorem dX3_rename_57 : decode cX3_rename 57 = .ok (.bipush 8, 2) := by decide +kernel
theorem dX3_rename_59 : decode cX3_rename 59 = .ok (.iload_n 1, 1) := by decide +kernel
theorem dX3_rename_60 : decode cX3_rename 60 = .ok (.imul, 1) := by decide +kernel
theorem dX3_rename_61 : decode cX3_rename 61 = .ok (.iload_n 2, 1) := by decide +kernel
theorem dX3_rename_62 : decode cX3_rename 62 = .ok (.iadd, 1) := by decide +kernel
theorem dX3_rename_63 : decode cX3_rename 63 = .ok (.iload_n 3, 1) := by decide +kernel
theorem dX3_rename_64 : decode cX3_rename 64 = .ok (.iastore, 1) := by decide +kernel
theorem dX3_rename_65 : decode cX3_rename 65 = .ok (.aload_n 0, 1) := by decide +kernel
theorem dX3_rename_66 : decode cX3_rename 66 = .ok (.iconst 0, 1) := by decide +kernel
theorem dX3_rename_67 : decode cX3_rename 67 = .ok (.putfield 56, 3) := by decide +kernel
theorem dX3_rename_70 : decode cX3_rename 70 = .ok (.iload 4, 2) := by decide +kernel
theorem dX3_rename_72 : decode cX3_rename 72 = .ok (.ireturn, 1) := by decide +kernel
set_option maxRecDepth 20000 in
theorem ggX3_addRow_X3_isIn : GoodIn wsX3_addRow wsX3_isIn := goodIn_r _ [8] (by decide +kernel) (by decide +kernel)
set_option maxRecDepth 20000 in
theorem gX3_addRow_X3_isIn : GoodIn wsX3_addRow (va_wsS RX3 52 yX3_isIn wsX3_isIn) := goodIn_app (goodIn_of _ (by decide +kernel)) ggX3_addRow_X3_isIn
set_option maxRecDepth 20000 in
theorem ggX3_addRow_X3_hasRow : GoodIn wsX3_addRow wsX3_hasRow := goodIn_r _ [12, 2, 16, 17, 18, 19, 20, 21, 22, 23, 24, 25, 26, 27, 28] (by decide +kernel) (by decide +kernel)
set_option maxRecDepth 20000 in
theorem gX3_addRow_X3_hasRow : GoodIn wsX3_addRow (wsV RX3 45 RX3 yX3_hasRow wsX3_hasRow) := goodIn_app (goodIn_of _ (by decide +kernel)) ggX3_addRow_X3_hasRow
set_option maxRecDepth 20000 in
theorem ggX3_addRow_X3_count : GoodIn wsX3_addRow wsX3_count := goodIn_r _ [15] (by decide +kernel) (by decide +kernel)
set_option maxRecDepth 20000 in
theorem gX3_addRow_X3_count : GoodIn wsX3_addRow (va_wsS RX3 60 yX3_count wsX3_count) := goodIn_app (goodIn_of _ (by decide +kernel)) ggX3_addRow_X3_count
theorem dX3_addRow_0 : decode cX3_addRow 0 = .ok (.aload_n 0, 1) := by decide +kernel
theorem dX3_addRow_1 : decode cX3_addRow 1 = .ok (.iload_n 1, 1) := by decide +kernel
theorem dX3_addRow_2 : decode cX3_addRow 2 = .ok (.iconst 0, 1) := by decide +kernel
theorem dX3_addRow_3 : decode cX3_addRow 3 = .ok (.iconst 2, 1) := by decide +kernel
theorem dX3_addRow_4 : decode cX3_addRow 4 = .ok (.invokestatic 52, 3) := by decide +kernel
theorem dX3_addRow_7 : decode cX3_addRow 7 = .ok (.ifCond .eq 13, 3) := by decide +kernel
theorem dX3_addRow_10 : decode cX3_addRow 10 = .ok (.iload_n 2, 1) := by decide +kernel
theorem dX3_addRow_11 : decode cX3_addRow 11 = .ok (.iconst 0, 1) := by decide +kernel
theorem dX3_addRow_12 : decode cX3_addRow 12 = .ok (.bipush 23, 2) := by decide +kernel
theorem dX3_addRow_14 : decode cX3_addRow 14 = .ok (.invokestatic 52, 3) := by decide +kernel
theorem dX3_addRow_17 : decode cX3_addRow 17 = .ok (.ifCond .ne 7, 3) := by decide +kernel
theorem dX3_addRow_20 : decode cX3_addRow 20 = .ok (.iconst 1, 1) := by decide +kernel
theorem dX3_addRow_21 : decode cX3_addRow 21 = .ok (.goto 17, 3) := by decide +kernel
theorem dX3_addRow_24 : decode cX3_addRow 24 = .ok (.aload_n 0, 1) := by decide +kernel
theorem dX3_addRow_25 : decode cX3_addRow 25 = .ok (.iload_n 1, 1) := by decide +kernel
theorem dX3_addRow_26 : decode cX3_addRow 26 = .ok (.iload_n 2, 1) := by decide +kernel
theorem dX3_addRow_27 : decode cX3_addRow 27 = .ok (.invokevirtual 45, 3) := by decide +kernel
theorem dX3_addRow_30 : decode cX3_addRow 30 = .ok (.ifCond .eq 7, 3) := by decide +kernel
theorem dX3_addRow_33 : decode cX3_addRow 33 = .ok (.iconst 2, 1) := by decide +kernel
theorem dX3_addRow_34 : decode cX3_addRow 34 = .ok (.goto 4, 3) := by decide +kernel
theorem dX3_addRow_37 : decode cX3_addRow 37 = .ok (.iconst 0, 1) := by decide +kernel
theorem dX3_addRow_38 : decode cX3_addRow 38 = .ok (.putfield 41, 3) := by decide +kernel
theorem dX3_addRow_41 : decode cX3_addRow 41 = .ok (.aload_n 0, 1) := by decide +kernel
theorem dX3_addRow_42 : decode cX3_addRow 42 = .ok (.getfield 41, 3) := by decide +kernel
theorem dX3_addRow_45 : decode cX3_addRow 45 = .ok (.ifCond .le 5, 3) := by decide +kernel
theorem dX3_addRow_48 : decode cX3_addRow 48 = .ok (.iconst 0, 1) := by decide +kernel
theorem dX3_addRow_49 : decode cX3_addRow 49 = .ok (.ireturn, 1) := by decide +kernel
theorem dX3_addRow_50 : decode cX3_addRow 50 = .ok (.aload_n 0, 1) := by decide +kernel
theorem dX3_addRow_51 : decode cX3_addRow 51 = .ok (.getfield 13, 3) := by decide +kernel
theorem dX3_addRow_54 : decode cX3_addRow 54 = .ok (.iload_n 1, 1) := by decide +kernel
theorem dX3_addRow_55 : decode cX3_addRow 55 = .ok (.dup2, 1) := by decide +kernel
theorem dX3_addRow_56 : decode cX3_addRow 56 = .ok (.iaload, 1) := by decide +kernel
theorem dX3_addRow_57 : decode cX3_addRow 57 = .ok (.iconst 1, 1) := by decide +kernel
theorem dX3_addRow_58 : decode cX3_addRow 58 = .ok (.iload_n 2, 1) := by decide +kernel
theorem dX3_addRow_59 : decode cX3_addRow 59 = .ok (.ishl, 1) := by decide +kernel
theorem dX3_addRow_60 : decode cX3_addRow 60 = .ok (.ior, 1) := by decide +kernel
theorem dX3_addRow_61 : decode cX3_addRow 61 = .ok (.iastore, 1) := by decide +kernel
theorem dX3_addRow_62 : decode cX3_addRow 62 = .ok (.iconst 0, 1) := by decide +kernel
theorem dX3_addRow_63 : decode cX3_addRow 63 = .ok (.istore_n 3, 1) := by decide +kernel
theorem dX3_addRow_64 : decode cX3_addRow 64 = .ok (.iload_n 3, 1) := by decide +kernel
theorem dX3_addRow_65 : decode cX3_addRow 65 = .ok (.bipush 8, 2) := by decide +kernel
theorem dX3_addRow_67 : decode cX3_addRow 67 = .ok (.if_icmp .ge 27, 3) := by decide +kernel
theorem dX3_addRow_70 : decode cX3_addRow 70 = .ok (.aload_n 0, 1) := by decide +kernel
theorem dX3_addRow_71 : decode cX3_addRow 71 = .ok (.getfield 19, 3) := by decide +kernel
theorem dX3_addRow_74 : decode cX3_addRow 74 = .ok (.sipush 192, 3) := by decide +kernel
theorem dX3_addRow_77 : decode cX3_addRow 77 = .ok (.iload_n 1, 1) := by decide +kernel
theorem dX3_addRow_78 : decode cX3_addRow 78 = .ok (.imul, 1) := by decide +kernel
theorem dX3_addRow_79 : decode cX3_addRow 79 = .ok (.bipush 8, 2) := by decide +kernel
theorem dX3_addRow_81 : decode cX3_addRow 81 = .ok (.iload_n 2, 1) := by decide +kernel
theorem dX3_addRow_82 : decode cX3_addRow 82 = .ok (.imul, 1) := by decide +kernel
theorem dX3_addRow_83 : decode cX3_addRow 83 = .ok (.iadd, 1) := by decide +kernel
theorem dX3_addRow_84 : decode cX3_addRow 84 = .ok (.iload_n 3, 1) := by decide +kernel
theorem dX3_addRow_85 : decode cX3_addRow 85 = .ok (.iadd, 1) := by decide +kernel
theorem dX3_addRow_86 : decode cX3_addRow 86 = .ok (.iconst 0, 1) := by decide +kernel
theorem dX3_addRow_87 : decode cX3_addRow 87 = .ok (.iastore, 1) := by decide +kernel
theorem dX3_addRow_88 : decode cX3_addRow 88 = .ok (.iinc 3 1, 3) := by decide +kernel
theorem dX3_addRow_91 : decode cX3_addRow 91 = .ok (.goto (-27), 3) := by decide +kernel
theorem dX3_addRow_94 : decode cX3_addRow 94 = .ok (.aload_n 0, 1) := by decide +kernel
theorem dX3_addRow_95 : decode cX3_addRow 95 = .ok (.iconst 0, 1) := by decide +kernel
theorem dX3_addRow_96 : decode cX3_addRow 96 = .ok (.putfield 56, 3) := by decide +kernel
theorem dX3_addRow_99 : decode cX3_addRow 99 = .ok (.aload_n 0, 1) := by decide +kernel
theorem dX3_addRow_100 : decode cX3_addRow 100 = .ok (.getfield 13, 3) := by decide +kernel
theorem dX3_addRow_103 : decode cX3_addRow 103 = .ok (.iload_n 1, 1) := by decide +kernel
theorem dX3_addRow_104 : decode cX3_addRow 104 = .ok (.iaload, 1) := by decide +kernel
theorem dX3_addRow_105 : decode cX3_addRow 105 = .ok (.invokestatic 60, 3) := by decide +kernel
theorem dX3_addRow_108 : decode cX3_addRow 108 = .ok (.ireturn, 1) := by decide +kernel
set_option maxRecDepth 20000 in
theorem ggX3_removeRow_X3_isIn : GoodIn wsX3_removeRow wsX3_isIn := goodIn_r _ [7] (by decide +kernel) (by decide +kernel)
set_option maxRecDepth 20000 in
theorem gX3_removeRow_X3_isIn : GoodIn wsX3_removeRow (va_wsS RX3 52 yX3_isIn wsX3_isIn) := goodIn_app (goodIn_of _ (by decide +kernel)) ggX3_removeRow_X3_isIn
set_option maxRecDepth 20000 in
theorem ggX3_removeRow_X3_hasRow : GoodIn wsX3_removeRow wsX3_hasRow := goodIn_r _ [11, 2, 15, 16, 17, 18, 19, 20, 21, 22, 23, 24, 25, 26, 27] (by decide +kernel) (by decide +kernel)
set_option maxRecDepth 20000 in
theorem gX3_removeRow_X3_hasRow : GoodIn wsX3_removeRow (wsV RX3 45 RX3 yX3_hasRow wsX3_hasRow) := goodIn_app (goodIn_of _ (by decide +kernel)) ggX3_removeRow_X3_hasRow
set_option maxRecDepth 20000 in
theorem ggX3_removeRow_X3_count : GoodIn wsX3_removeRow wsX3_count := goodIn_r _ [14] (by decide +kernel) (by decide +kernel)
set_option maxRecDepth 20000 in
theorem gX3_removeRow_X3_count : GoodIn wsX3_removeRow (va_wsS RX3 60 yX3_count wsX3_count) := goodIn_app (goodIn_of _ (by decide +kernel)) ggX3_removeRow_X3_count
theorem dX3_removeRow_0 : decode cX3_removeRow 0 = .ok (.aload_n 0, 1) := by decide +kernel
theorem dX3_removeRow_1 : decode cX3_removeRow 1 = .ok (.iload_n 1, 1) := by decide +kernel
theorem dX3_removeRow_2 : decode cX3_removeRow 2 = .ok (.iconst 0, 1) := by decide +kernel
theorem dX3_removeRow_3 : decode cX3_removeRow 3 = .ok (.iconst 2, 1) := by decide +kernel
theorem dX3_removeRow_4 : decode cX3_removeRow 4 = .ok (.invokestatic 52, 3) := by decide +kernel
theorem dX3_removeRow_7 : decode cX3_removeRow 7 = .ok (.ifCond .eq 26, 3) := by decide +kernel
theorem dX3_removeRow_10 : decode cX3_removeRow 10 = .ok (.iload_n 2, 1) := by decide +kernel
theorem dX3_removeRow_11 : decode cX3_removeRow 11 = .ok (.iconst 0, 1) := by decide +kernel
theorem dX3_removeRow_12 : decode cX3_removeRow 12 = .ok (.bipush 23, 2) := by decide +kernel
theorem dX3_removeRow_14 : decode cX3_removeRow 14 = .ok (.invokestatic 52, 3) := by decide +kernel
theorem dX3_removeRow_17 : decode cX3_removeRow 17 = .ok (.ifCond .eq 16, 3) := by decide +kernel
theorem dX3_removeRow_20 : decode cX3_removeRow 20 = .ok (.aload_n 0, 1) := by decide +kernel
theorem dX3_removeRow_21 : decode cX3_removeRow 21 = .ok (.iload_n 1, 1) := by decide +kernel
theorem dX3_removeRow_22 : decode cX3_removeRow 22 = .ok (.iload_n 2, 1) := by decide +kernel
theorem dX3_removeRow_23 : decode cX3_removeRow 23 = .ok (.invokevirtual 45, 3) := by decide +kernel
theorem dX3_removeRow_26 : decode cX3_removeRow 26 = .ok (.ifCond .eq 7, 3) := by decide +kernel
theorem dX3_removeRow_29 : decode cX3_removeRow 29 = .ok (.iconst 0, 1) := by decide +kernel
theorem dX3_removeRow_30 : decode cX3_removeRow 30 = .ok (.goto 4, 3) := by decide +kernel
theorem dX3_removeRow_33 : decode cX3_removeRow 33 = .ok (.iconst 1, 1) := by decide +kernel
theorem dX3_removeRow_34 : decode cX3_removeRow 34 = .ok (.putfield 41, 3) := by decide +kernel
theorem dX3_removeRow_37 : decode cX3_removeRow 37 = .ok (.aload_n 0, 1) := by decide +kernel
theorem dX3_removeRow_38 : decode cX3_removeRow 38 = .ok (.getfield 41, 3) := by decide +kernel
theorem dX3_removeRow_41 : decode cX3_removeRow 41 = .ok (.ifCond .le 5, 3) := by decide +kernel
theorem dX3_removeRow_44 : decode cX3_removeRow 44 = .ok (.iconst 0, 1) := by decide +kernel
theorem dX3_removeRow_45 : decode cX3_removeRow 45 = .ok (.ireturn, 1) := by decide +kernel
theorem dX3_removeRow_46 : decode cX3_removeRow 46 = .ok (.aload_n 0, 1) := by decide +kernel
theorem dX3_removeRow_47 : decode cX3_removeRow 47 = .ok (.getfield 13, 3) := by decide +kernel
theorem dX3_removeRow_50 : decode cX3_removeRow 50 = .ok (.iload_n 1, 1) := by decide +kernel
theorem dX3_removeRow_51 : decode cX3_removeRow 51 = .ok (.dup2, 1) := by decide +kernel
theorem dX3_removeRow_52 : decode cX3_removeRow 52 = .ok (.iaload, 1) := by decide +kernel
theorem dX3_removeRow_53 : decode cX3_removeRow 53 = .ok (.iconst 1, 1) := by decide +kernel
theorem dX3_removeRow_54 : decode cX3_removeRow 54 = .ok (.iload_n 2, 1) := by decide +kernel
theorem dX3_removeRow_55 : decode cX3_removeRow 55 = .ok (.ishl, 1) := by decide +kernel
theorem dX3_removeRow_56 : decode cX3_removeRow 56 = .ok (.iconst (-1), 1) := by decide +kernel
theorem dX3_removeRow_57 : decode cX3_removeRow 57 = .ok (.ixor, 1) := by decide +kernel
theorem dX3_removeRow_58 : decode cX3_removeRow 58 = .ok (.iand, 1) := by decide +kernel
theorem dX3_removeRow_59 : decode cX3_removeRow 59 = .ok (.iastore, 1) := by decide +kernel
theorem dX3_removeRow_60 : decode cX3_removeRow 60 = .ok (.aload_n 0, 1) := by decide +kernel
theorem dX3_removeRow_61 : decode cX3_removeRow 61 = .ok (.iconst 0, 1) := by decide +kernel
theorem dX3_removeRow_62 : decode cX3_removeRow 62 = .ok (.putfield 56, 3) := by decide +kernel
theorem dX3_removeRow_65 : decode cX3_removeRow 65 = .ok (.aload_n 0, 1) := by decide +kernel
theorem dX3_removeRow_66 : decode cX3_removeRow 66 = .ok (.getfield 13, 3) := by decide +kernel
theorem dX3_removeRow_69 : decode cX3_removeRow 69 = .ok (.iload_n 1, 1) := by decide +kernel
theorem dX3_removeRow_70 : decode cX3_removeRow 70 = .ok (.iaload, 1) := by decide +kernel
theorem dX3_removeRow_71 : decode cX3_removeRow 71 = .ok (.invokestatic 60, 3) := by decide +kernel
theorem dX3_removeRow_74 : decode cX3_removeRow 74 = .ok (.ireturn, 1) := by decide +kernel
set_option maxRecDepth 20000 in
theorem ggX3_findsCell_X3_isIn : GoodIn wsX3_findsCell wsX3_isIn := goodIn_r _ [5] (by decide +kernel) (by decide +kernel)
set_option maxRecDepth 20000 in
theorem gX3_findsCell_X3_isIn : GoodIn wsX3_findsCell (va_wsS RX3 52 yX3_isIn wsX3_isIn) := goodIn_app (goodIn_of _ (by decide +kernel)) ggX3_findsCell_X3_isIn
set_option maxRecDepth 20000 in
theorem ggX3_findsCell_X3_hasCell : GoodIn wsX3_findsCell wsX3_hasCell := goodIn_r _ [9, 10, 11, 12, 4, 13, 14, 15, 16, 17, 18, 19, 20, 21, 22, 23, 24, 25, 26, 27, 28, 29, 30, 31, 32] (by decide +kernel) (by decide +kernel)
set_option maxRecDepth 20000 in
theorem gX3_findsCell_X3_hasCell : GoodIn wsX3_findsCell (wsV RX3 67 RX3 yX3_hasCell wsX3_hasCell) := goodIn_app (goodIn_of _ (by decide +kernel)) ggX3_findsCell_X3_hasCell
theorem dX3_findsCell_0 : decode cX3_findsCell 0 = .ok (.iload_n 1, 1) := by decide +kernel
theorem dX3_findsCell_1 : decode cX3_findsCell 1 = .ok (.iconst 0, 1) := by decide +kernel
theorem dX3_findsCell_2 : decode cX3_findsCell 2 = .ok (.iload_n 2, 1) := by decide +kernel
theorem dX3_findsCell_3 : decode cX3_findsCell 3 = .ok (.invokestatic 52, 3) := by decide +kernel
theorem dX3_findsCell_6 : decode cX3_findsCell 6 = .ok (.ifCond .eq 28, 3) := by decide +kernel
theorem dX3_findsCell_9 : decode cX3_findsCell 9 = .ok (.iload_n 3, 1) := by decide +kernel
theorem dX3_findsCell_10 : decode cX3_findsCell 10 = .ok (.iconst 0, 1) := by decide +kernel
theorem dX3_findsCell_11 : decode cX3_findsCell 11 = .ok (.bipush 23, 2) := by decide +kernel
theorem dX3_findsCell_13 : decode cX3_findsCell 13 = .ok (.invokestatic 52, 3) := by decide +kernel
theorem dX3_findsCell_16 : decode cX3_findsCell 16 = .ok (.ifCond .eq 18, 3) := by decide +kernel
theorem dX3_findsCell_19 : decode cX3_findsCell 19 = .ok (.iload 4, 2) := by decide +kernel
theorem dX3_findsCell_21 : decode cX3_findsCell 21 = .ok (.iconst 0, 1) := by decide +kernel
theorem dX3_findsCell_22 : decode cX3_findsCell 22 = .ok (.bipush 7, 2) := by decide +kernel
theorem dX3_findsCell_24 : decode cX3_findsCell 24 = .ok (.invokestatic 52, 3) := by decide +kernel
theorem dX3_findsCell_27 : decode cX3_findsCell 27 = .ok (.ifCond .eq 7, 3) := by decide +kernel
theorem dX3_findsCell_30 : decode cX3_findsCell 30 = .ok (.iconst 1, 1) := by decide +kernel
theorem dX3_findsCell_31 : decode cX3_findsCell 31 = .ok (.goto 4, 3) := by decide +kernel
theorem dX3_findsCell_34 : decode cX3_findsCell 34 = .ok (.iconst 0, 1) := by decide +kernel
theorem dX3_findsCell_35 : decode cX3_findsCell 35 = .ok (.istore 5, 2) := by decide +kernel
theorem dX3_findsCell_37 : decode cX3_findsCell 37 = .ok (.aload_n 0, 1) := by decide +kernel
theorem dX3_findsCell_38 : decode cX3_findsCell 38 = .ok (.iload 5, 2) := by decide +kernel
theorem dX3_findsCell_40 : decode cX3_findsCell 40 = .ok (.ifCond .eq 18, 3) := by decide +kernel
theorem dX3_findsCell_43 : decode cX3_findsCell 43 = .ok (.aload_n 0, 1) := by decide +kernel
theorem dX3_findsCell_44 : decode cX3_findsCell 44 = .ok (.iload_n 1, 1) := by decide +kernel
theorem dX3_findsCell_45 : decode cX3_findsCell 45 = .ok (.iload_n 3, 1) := by decide +kernel
theorem dX3_findsCell_46 : decode cX3_findsCell 46 = .ok (.iload 4, 2) := by decide +kernel
theorem dX3_findsCell_48 : decode cX3_findsCell 48 = .ok (.invokevirtual 67, 3) := by decide +kernel
theorem dX3_findsCell_51 : decode cX3_findsCell 51 = .ok (.ifCond .eq 7, 3) := by decide +kernel
theorem dX3_findsCell_54 : decode cX3_findsCell 54 = .ok (.iconst 0, 1) := by decide +kernel
theorem dX3_findsCell_55 : decode cX3_findsCell 55 = .ok (.goto 4, 3) := by decide +kernel
theorem dX3_findsCell_58 : decode cX3_findsCell 58 = .ok (.iconst 1, 1) := by decide +kernel
theorem dX3_findsCell_59 : decode cX3_findsCell 59 = .ok (.putfield 41, 3) := by decide +kernel
theorem dX3_findsCell_62 : decode cX3_findsCell 62 = .ok (.aload_n 0, 1) := by decide +kernel
theorem dX3_findsCell_63 : decode cX3_findsCell 63 = .ok (.getfield 41, 3) := by decide +kernel
theorem dX3_findsCell_66 : decode cX3_findsCell 66 = .ok (.ifCond .ne 7, 3) := by decide +kernel
theorem dX3_findsCell_69 : decode cX3_findsCell 69 = .ok (.iconst 1, 1) := by decide +kernel
theorem dX3_findsCell_70 : decode cX3_findsCell 70 = .ok (.goto 4, 3) := by decide +kernel
theorem dX3_findsCell_73 : decode cX3_findsCell 73 = .ok (.iconst 0, 1) := by decide +kernel
theorem dX3_findsCell_74 : decode cX3_findsCell 74 = .ok (.ireturn, 1) := by decide +kernel
set_option maxRecDepth 20000 in
theorem ggX3_set_X3_findsCell : GoodIn wsX3_set wsX3_findsCell := goodIn_r _ [8, 1, 9, 10, 7, 11, 12, 13, 14, 15, 16, 17, 18, 19, 20, 21, 22, 23, 24, 25, 30, 31, 32, 33, 34, 35, 36, 37, 38, 39, 40, 41, 42] (by decide +kernel) (by decide +kernel)
set_option maxRecDepth 20000 in
theorem gX3_set_X3_findsCell : GoodIn wsX3_set (wsV RX3 70 RX3 yX3_findsCell wsX3_findsCell) := goodIn_app (goodIn_of _ (by decide +kernel)) ggX3_set_X3_findsCell
set_option maxRecDepth 20000 in
theorem ggX3_set_X3_isIn : GoodIn wsX3_set wsX3_isIn := goodIn_r _ [11] (by decide +kernel) (by decide +kernel)
set_option maxRecDepth 20000 in
theorem gX3_set_X3_isIn : GoodIn wsX3_set (va_wsS RX3 52 yX3_isIn wsX3_isIn) := goodIn_app (goodIn_of _ (by decide +kernel)) ggX3_set_X3_isIn
set_option maxRecDepth 20000 in
theorem ggX3_set_X3_at : GoodIn wsX3_set wsX3_at := goodIn_r _ [29, 2, 30, 31, 32, 33, 34, 35, 36, 37, 38, 39, 40, 41, 42] (by decide +kernel) (by decide +kernel)
set_option maxRecDepth 20000 in
theorem gX3_set_X3_at : GoodIn wsX3_set (wsV RX3 74 RX3 yX3_at wsX3_at) := goodIn_app (goodIn_of _ (by decide +kernel)) ggX3_set_X3_at
theorem dX3_set_0 : decode cX3_set 0 = .ok (.aload_n 0, 1) := by decide +kernel
theorem dX3_set_1 : decode cX3_set 1 = .ok (.iload_n 1, 1) := by decide +kernel
theorem dX3_set_2 : decode cX3_set 2 = .ok (.iconst 2, 1) := by decide +kernel
theorem dX3_set_3 : decode cX3_set 3 = .ok (.iload_n 2, 1) := by decide +kernel
theorem dX3_set_4 : decode cX3_set 4 = .ok (.iload_n 3, 1) := by decide +kernel
theorem dX3_set_5 : decode cX3_set 5 = .ok (.invokevirtual 70, 3) := by decide +kernel
theorem dX3_set_8 : decode cX3_set 8 = .ok (.ifCond .ne 5, 3) := by decide +kernel
theorem dX3_set_11 : decode cX3_set 11 = .ok (.iconst 0, 1) := by decide +kernel
theorem dX3_set_12 : decode cX3_set 12 = .ok (.ireturn, 1) := by decide +kernel
theorem dX3_set_13 : decode cX3_set 13 = .ok (.aload_n 0, 1) := by decide +kernel
theorem dX3_set_14 : decode cX3_set 14 = .ok (.iload 4, 2) := by decide +kernel
theorem dX3_set_16 : decode cX3_set 16 = .ok (.sipush (-9999), 3) := by decide +kernel
theorem dX3_set_19 : decode cX3_set 19 = .ok (.sipush 9999, 3) := by decide +kernel
theorem dX3_set_22 : decode cX3_set 22 = .ok (.invokestatic 52, 3) := by decide +kernel
theorem dX3_set_25 : decode cX3_set 25 = .ok (.ifCond .eq 7, 3) := by decide +kernel
theorem dX3_set_28 : decode cX3_set 28 = .ok (.iconst 0, 1) := by decide +kernel
theorem dX3_set_29 : decode cX3_set 29 = .ok (.goto 4, 3) := by decide +kernel
theorem dX3_set_32 : decode cX3_set 32 = .ok (.iconst 2, 1) := by decide +kernel
theorem dX3_set_33 : decode cX3_set 33 = .ok (.putfield 41, 3) := by decide +kernel
theorem dX3_set_36 : decode cX3_set 36 = .ok (.aload_n 0, 1) := by decide +kernel
theorem dX3_set_37 : decode cX3_set 37 = .ok (.getfield 41, 3) := by decide +kernel
theorem dX3_set_40 : decode cX3_set 40 = .ok (.ifCond .le 5, 3) := by decide +kernel
theorem dX3_set_43 : decode cX3_set 43 = .ok (.iconst 0, 1) := by decide +kernel
theorem dX3_set_44 : decode cX3_set 44 = .ok (.ireturn, 1) := by decide +kernel
theorem dX3_set_45 : decode cX3_set 45 = .ok (.aload_n 0, 1) := by decide +kernel
theorem dX3_set_46 : decode cX3_set 46 = .ok (.iload_n 1, 1) := by decide +kernel
theorem dX3_set_47 : decode cX3_set 47 = .ok (.iload_n 2, 1) := by decide +kernel
theorem dX3_set_48 : decode cX3_set 48 = .ok (.iload_n 3, 1) := by decide +kernel
theorem dX3_set_49 : decode cX3_set 49 = .ok (.invokevirtual 74, 3) := by decide +kernel
theorem dX3_set_52 : decode cX3_set 52 = .ok (.istore 5, 2) := by decide +kernel
theorem dX3_set_54 : decode cX3_set 54 = .ok (.aload_n 0, 1) := by decide +kernel
theorem dX3_set_55 : decode cX3_set 55 = .ok (.getfield 19, 3) := by decide +kernel
theorem dX3_set_58 : decode cX3_set 58 = .ok (.sipush 192, 3) := by decide +kernel
theorem dX3_set_61 : decode cX3_set 61 = .ok (.iload_n 1, 1) := by decide +kernel
theorem dX3_set_62 : decode cX3_set 62 = .ok (.imul, 1) := by decide +kernel
theorem dX3_set_63 : decode cX3_set 63 = .ok (.bipush 8, 2) := by decide +kernel
theorem dX3_set_65 : decode cX3_set 65 = .ok (.iload_n 2, 1) := by decide +kernel
theorem dX3_set_66 : decode cX3_set 66 = .ok (.imul, 1) := by decide +kernel
theorem dX3_set_67 : decode cX3_set 67 = .ok (.iadd, 1) := by decide +kernel
theorem dX3_set_68 : decode cX3_set 68 = .ok (.iload_n 3, 1) := by decide +kernel
theorem dX3_set_69 : decode cX3_set 69 = .ok (.iadd, 1) := by decide +kernel
theorem dX3_set_70 : decode cX3_set 70 = .ok (.iload 4, 2) := by decide +kernel
theorem dX3_set_72 : decode cX3_set 72 = .ok (.iastore, 1) := by decide +kernel
theorem dX3_set_73 : decode cX3_set 73 = .ok (.aload_n 0, 1) := by decide +kernel
theorem dX3_set_74 : decode cX3_set 74 = .ok (.iconst 0, 1) := by decide +kernel
theorem dX3_set_75 : decode cX3_set 75 = .ok (.putfield 56, 3) := by decide +kernel
theorem dX3_set_78 : decode cX3_set 78 = .ok (.iload 5, 2) := by decide +kernel
theorem dX3_set_80 : decode cX3_set 80 = .ok (.ireturn, 1) := by decide +kernel
set_option maxRecDepth 20000 in
theorem ggX3_setRule_X3_isIn : GoodIn wsX3_setRule wsX3_isIn := goodIn_r _ [7] (by decide +kernel) (by decide +kernel)
set_option maxRecDepth 20000 in
theorem gX3_setRule_X3_isIn : GoodIn wsX3_setRule (va_wsS RX3 52 yX3_isIn wsX3_isIn) := goodIn_app (goodIn_of _ (by decide +kernel)) ggX3_setRule_X3_isIn
theorem dX3_setRule_0 : decode cX3_setRule 0 = .ok (.aload_n 0, 1) := by decide +kernel
theorem dX3_setRule_1 : decode cX3_setRule 1 = .ok (.iload_n 1, 1) := by decide +kernel
theorem dX3_setRule_2 : decode cX3_setRule 2 = .ok (.iconst 0, 1) := by decide +kernel
theorem dX3_setRule_3 : decode cX3_setRule 3 = .ok (.bipush 7, 2) := by decide +kernel
theorem dX3_setRule_5 : decode cX3_setRule 5 = .ok (.invokestatic 52, 3) := by decide +kernel
theorem dX3_setRule_8 : decode cX3_setRule 8 = .ok (.ifCond .ne 7, 3) := by decide +kernel
theorem dX3_setRule_11 : decode cX3_setRule 11 = .ok (.iconst 1, 1) := by decide +kernel
theorem dX3_setRule_12 : decode cX3_setRule 12 = .ok (.goto 17, 3) := by decide +kernel
theorem dX3_setRule_15 : decode cX3_setRule 15 = .ok (.iload_n 2, 1) := by decide +kernel
theorem dX3_setRule_16 : decode cX3_setRule 16 = .ok (.iconst 0, 1) := by decide +kernel
theorem dX3_setRule_17 : decode cX3_setRule 17 = .ok (.iconst 3, 1) := by decide +kernel
theorem dX3_setRule_18 : decode cX3_setRule 18 = .ok (.invokestatic 52, 3) := by decide +kernel
theorem dX3_setRule_21 : decode cX3_setRule 21 = .ok (.ifCond .eq 7, 3) := by decide +kernel
theorem dX3_setRule_24 : decode cX3_setRule 24 = .ok (.iconst 0, 1) := by decide +kernel
theorem dX3_setRule_25 : decode cX3_setRule 25 = .ok (.goto 4, 3) := by decide +kernel
theorem dX3_setRule_28 : decode cX3_setRule 28 = .ok (.iconst 2, 1) := by decide +kernel
theorem dX3_setRule_29 : decode cX3_setRule 29 = .ok (.putfield 41, 3) := by decide +kernel
theorem dX3_setRule_32 : decode cX3_setRule 32 = .ok (.aload_n 0, 1) := by decide +kernel
theorem dX3_setRule_33 : decode cX3_setRule 33 = .ok (.getfield 41, 3) := by decide +kernel
theorem dX3_setRule_36 : decode cX3_setRule 36 = .ok (.ifCond .le 5, 3) := by decide +kernel
theorem dX3_setRule_39 : decode cX3_setRule 39 = .ok (.iconst 0, 1) := by decide +kernel
theorem dX3_setRule_40 : decode cX3_setRule 40 = .ok (.ireturn, 1) := by decide +kernel
theorem dX3_setRule_41 : decode cX3_setRule 41 = .ok (.aload_n 0, 1) := by decide +kernel
theorem dX3_setRule_42 : decode cX3_setRule 42 = .ok (.getfield 22, 3) := by decide +kernel
theorem dX3_setRule_45 : decode cX3_setRule 45 = .ok (.iload_n 1, 1) := by decide +kernel
theorem dX3_setRule_46 : decode cX3_setRule 46 = .ok (.iaload, 1) := by decide +kernel
theorem dX3_setRule_47 : decode cX3_setRule 47 = .ok (.istore_n 3, 1) := by decide +kernel
theorem dX3_setRule_48 : decode cX3_setRule 48 = .ok (.aload_n 0, 1) := by decide +kernel
theorem dX3_setRule_49 : decode cX3_setRule 49 = .ok (.getfield 22, 3) := by decide +kernel
theorem dX3_setRule_52 : decode cX3_setRule 52 = .ok (.iload_n 1, 1) := by decide +kernel
theorem dX3_setRule_53 : decode cX3_setRule 53 = .ok (.iload_n 2, 1) := by decide +kernel
theorem dX3_setRule_54 : decode cX3_setRule 54 = .ok (.iastore, 1) := by decide +kernel
theorem dX3_setRule_55 : decode cX3_setRule 55 = .ok (.aload_n 0, 1) := by decide +kernel
theorem dX3_setRule_56 : decode cX3_setRule 56 = .ok (.iconst 0, 1) := by decide +kernel
theorem dX3_setRule_57 : decode cX3_setRule 57 = .ok (.putfield 56, 3) := by decide +kernel
theorem dX3_setRule_60 : decode cX3_setRule 60 = .ok (.iload_n 3, 1) := by decide +kernel
theorem dX3_setRule_61 : decode cX3_setRule 61 = .ok (.ireturn, 1) := by decide +kernel
set_option maxRecDepth 20000 in
theorem ggX3_setReference_X3_isIn : GoodIn wsX3_setReference wsX3_isIn := goodIn_r _ [7] (by decide +kernel) (by decide +kernel)
set_option maxRecDepth 20000 in
theorem gX3_setReference_X3_isIn : GoodIn wsX3_setReference (va_wsS RX3 52 yX3_isIn wsX3_isIn) := goodIn_app (goodIn_of _ (by decide +kernel)) ggX3_setReference_X3_isIn
theorem dX3_setReference_0 : decode cX3_setReference 0 = .ok (.aload_n 0, 1) := by decide +kernel
theorem dX3_setReference_1 : decode cX3_setReference 1 = .ok (.iload_n 1, 1) := by decide +kernel
theorem dX3_setReference_2 : decode cX3_setReference 2 = .ok (.iconst 0, 1) := by decide +kernel
theorem dX3_setReference_3 : decode cX3_setReference 3 = .ok (.bipush 7, 2) := by decide +kernel
theorem dX3_setReference_5 : decode cX3_setReference 5 = .ok (.invokestatic 52, 3) := by decide +kernel
theorem dX3_setReference_8 : decode cX3_setReference 8 = .ok (.ifCond .eq 7, 3) := by decide +kernel
theorem dX3_setReference_11 : decode cX3_setReference 11 = .ok (.iconst 0, 1) := by decide +kernel
theorem dX3_setReference_12 : decode cX3_setReference 12 = .ok (.goto 4, 3) := by decide +kernel
theorem dX3_setReference_15 : decode cX3_setReference 15 = .ok (.iconst 1, 1) := by decide +kernel
theorem dX3_setReference_16 : decode cX3_setReference 16 = .ok (.putfield 41, 3) := by decide +kernel
theorem dX3_setReference_19 : decode cX3_setReference 19 = .ok (.aload_n 0, 1) := by decide +kernel
theorem dX3_setReference_20 : decode cX3_setReference 20 = .ok (.getfield 41, 3) := by decide +kernel
theorem dX3_setReference_23 : decode cX3_setReference 23 = .ok (.ifCond .le 5, 3) := by decide +kernel
theorem dX3_setReference_26 : decode cX3_setReference 26 = .ok (.iconst 0, 1) := by decide +kernel
theorem dX3_setReference_27 : decode cX3_setReference 27 = .ok (.ireturn, 1) := by decide +kernel
theorem dX3_setReference_28 : decode cX3_setReference 28 = .ok (.aload_n 0, 1) := by decide +kernel
theorem dX3_setReference_29 : decode cX3_setReference 29 = .ok (.getfield 25, 3) := by decide +kernel
theorem dX3_setReference_32 : decode cX3_setReference 32 = .ok (.iload_n 1, 1) := by decide +kernel
theorem dX3_setReference_33 : decode cX3_setReference 33 = .ok (.baload, 1) := by decide +kernel
theorem dX3_setReference_34 : decode cX3_setReference 34 = .ok (.istore_n 3, 1) := by decide +kernel
theorem dX3_setReference_35 : decode cX3_setReference 35 = .ok (.aload_n 0, 1) := by decide +kernel
theorem dX3_setReference_36 : decode cX3_setReference 36 = .ok (.getfield 25, 3) := by decide +kernel
theorem dX3_setReference_39 : decode cX3_setReference 39 = .ok (.iload_n 1, 1) := by decide +kernel
theorem dX3_setReference_40 : decode cX3_setReference 40 = .ok (.iload_n 2, 1) := by decide +kernel
theorem dX3_setReference_41 : decode cX3_setReference 41 = .ok (.bastore, 1) := by decide +kernel
theorem dX3_setReference_42 : decode cX3_setReference 42 = .ok (.aload_n 0, 1) := by decide +kernel
theorem dX3_setReference_43 : decode cX3_setReference 43 = .ok (.iconst 0, 1) := by decide +kernel
theorem dX3_setReference_44 : decode cX3_setReference 44 = .ok (.putfield 56, 3) := by decide +kernel
theorem dX3_setReference_47 : decode cX3_setReference 47 = .ok (.iload_n 3, 1) := by decide +kernel
theorem dX3_setReference_48 : decode cX3_setReference 48 = .ok (.iload_n 2, 1) := by decide +kernel
theorem dX3_setReference_49 : decode cX3_setReference 49 = .ok (.if_icmp .eq 7, 3) := by decide +kernel
theorem dX3_setReference_52 : decode cX3_setReference 52 = .ok (.iconst 1, 1) := by decide +kernel
theorem dX3_setReference_53 : decode cX3_setReference 53 = .ok (.goto 4, 3) := by decide +kernel
theorem dX3_setReference_56 : decode cX3_setReference 56 = .ok (.iconst 0, 1) := by decide +kernel
theorem dX3_setReference_57 : decode cX3_setReference 57 = .ok (.ireturn, 1) := by decide +kernel
set_option maxRecDepth 20000 in
theorem ggX3_columns_X3_isIn : GoodIn wsX3_columns wsX3_isIn := goodIn_r _ [6] (by decide +kernel) (by decide +kernel)
set_option maxRecDepth 20000 in
theorem gX3_columns_X3_isIn : GoodIn wsX3_columns (va_wsS RX3 52 yX3_isIn wsX3_isIn) := goodIn_app (goodIn_of _ (by decide +kernel)) ggX3_columns_X3_isIn
theorem dX3_columns_0 : decode cX3_columns 0 = .ok (.aload_n 0, 1) := by decide +kernel
theorem dX3_columns_1 : decode cX3_columns 1 = .ok (.iload_n 1, 1) := by decide +kernel
theorem dX3_columns_2 : decode cX3_columns 2 = .ok (.iconst 0, 1) := by decide +kernel
theorem dX3_columns_3 : decode cX3_columns 3 = .ok (.iconst 3, 1) := by decide +kernel
theorem dX3_columns_4 : decode cX3_columns 4 = .ok (.invokestatic 52, 3) := by decide +kernel
theorem dX3_columns_7 : decode cX3_columns 7 = .ok (.ifCond .eq 7, 3) := by decide +kernel
theorem dX3_columns_10 : decode cX3_columns 10 = .ok (.iconst 0, 1) := by decide +kernel
theorem dX3_columns_11 : decode cX3_columns 11 = .ok (.goto 4, 3) := by decide +kernel
theorem dX3_columns_14 : decode cX3_columns 14 = .ok (.iconst 1, 1) := by decide +kernel
theorem dX3_columns_15 : decode cX3_columns 15 = .ok (.putfield 41, 3) := by decide +kernel
theorem dX3_columns_18 : decode cX3_columns 18 = .ok (.aload_n 0, 1) := by decide +kernel
theorem dX3_columns_19 : decode cX3_columns 19 = .ok (.getfield 41, 3) := by decide +kernel
theorem dX3_columns_22 : decode cX3_columns 22 = .ok (.ifCond .le 7, 3) := by decide +kernel
theorem dX3_columns_25 : decode cX3_columns 25 = .ok (.iconst 0, 1) := by decide +kernel
theorem dX3_columns_26 : decode cX3_columns 26 = .ok (.goto 9, 3) := by decide +kernel
theorem dX3_columns_29 : decode cX3_columns 29 = .ok (.aload_n 0, 1) := by decide +kernel
theorem dX3_columns_30 : decode cX3_columns 30 = .ok (.getfield 7, 3) := by decide +kernel
theorem dX3_columns_33 : decode cX3_columns 33 = .ok (.iload_n 1, 1) := by decide +kernel
theorem dX3_columns_34 : decode cX3_columns 34 = .ok (.iaload, 1) := by decide +kernel
theorem dX3_columns_35 : decode cX3_columns 35 = .ok (.ireturn, 1) := by decide +kernel
set_option maxRecDepth 20000 in
theorem ggX3_rows_X3_isIn : GoodIn wsX3_rows wsX3_isIn := goodIn_r _ [6] (by decide +kernel) (by decide +kernel)
set_option maxRecDepth 20000 in
theorem gX3_rows_X3_isIn : GoodIn wsX3_rows (va_wsS RX3 52 yX3_isIn wsX3_isIn) := goodIn_app (goodIn_of _ (by decide +kernel)) ggX3_rows_X3_isIn
theorem dX3_rows_0 : decode cX3_rows 0 = .ok (.aload_n 0, 1) := by decide +kernel
theorem dX3_rows_1 : decode cX3_rows 1 = .ok (.iload_n 1, 1) := by decide +kernel
theorem dX3_rows_2 : decode cX3_rows 2 = .ok (.iconst 0, 1) := by decide +kernel
theorem dX3_rows_3 : decode cX3_rows 3 = .ok (.iconst 3, 1) := by decide +kernel
theorem dX3_rows_4 : decode cX3_rows 4 = .ok (.invokestatic 52, 3) := by decide +kernel
theorem dX3_rows_7 : decode cX3_rows 7 = .ok (.ifCond .eq 7, 3) := by decide +kernel
theorem dX3_rows_10 : decode cX3_rows 10 = .ok (.iconst 0, 1) := by decide +kernel
theorem dX3_rows_11 : decode cX3_rows 11 = .ok (.goto 4, 3) := by decide +kernel
theorem dX3_rows_14 : decode cX3_rows 14 = .ok (.iconst 1, 1) := by decide +kernel
theorem dX3_rows_15 : decode cX3_rows 15 = .ok (.putfield 41, 3) := by decide +kernel
theorem dX3_rows_18 : decode cX3_rows 18 = .ok (.aload_n 0, 1) := by decide +kernel
theorem dX3_rows_19 : decode cX3_rows 19 = .ok (.getfield 41, 3) := by decide +kernel
theorem dX3_rows_22 : decode cX3_rows 22 = .ok (.ifCond .le 7, 3) := by decide +kernel
theorem dX3_rows_25 : decode cX3_rows 25 = .ok (.iconst 0, 1) := by decide +kernel
theorem dX3_rows_26 : decode cX3_rows 26 = .ok (.goto 9, 3) := by decide +kernel
theorem dX3_rows_29 : decode cX3_rows 29 = .ok (.aload_n 0, 1) := by decide +kernel
theorem dX3_rows_30 : decode cX3_rows 30 = .ok (.getfield 13, 3) := by decide +kernel
theorem dX3_rows_33 : decode cX3_rows 33 = .ok (.iload_n 1, 1) := by decide +kernel
theorem dX3_rows_34 : decode cX3_rows 34 = .ok (.iaload, 1) := by decide +kernel
theorem dX3_rows_35 : decode cX3_rows 35 = .ok (.ireturn, 1) := by decide +kernel
set_option maxRecDepth 20000 in
theorem ggX3_name_X3_findsColumn : GoodIn wsX3_name wsX3_findsColumn := goodIn_r _ [6, 7, 8, 9, 5, 10, 11, 12, 13, 14, 15, 16, 17, 18, 19, 20, 21, 22, 23, 24, 25, 26, 27, 28] (by decide +kernel) (by decide +kernel)
set_option maxRecDepth 20000 in
theorem gX3_name_X3_findsColumn : GoodIn wsX3_name (wsV RX3 64 RX3 yX3_findsColumn wsX3_findsColumn) := goodIn_app (goodIn_of _ (by decide +kernel)) ggX3_name_X3_findsColumn
theorem dX3_name_0 : decode cX3_name 0 = .ok (.aload_n 0, 1) := by decide +kernel
theorem dX3_name_1 : decode cX3_name 1 = .ok (.iload_n 1, 1) := by decide +kernel
theorem dX3_name_2 : decode cX3_name 2 = .ok (.iconst 3, 1) := by decide +kernel
theorem dX3_name_3 : decode cX3_name 3 = .ok (.iload_n 2, 1) := by decide +kernel
theorem dX3_name_4 : decode cX3_name 4 = .ok (.invokevirtual 64, 3) := by decide +kernel
theorem dX3_name_7 : decode cX3_name 7 = .ok (.ifCond .eq 17, 3) := by decide +kernel
theorem dX3_name_10 : decode cX3_name 10 = .ok (.aload_n 0, 1) := by decide +kernel
theorem dX3_name_11 : decode cX3_name 11 = .ok (.getfield 16, 3) := by decide +kernel
theorem dX3_name_14 : decode cX3_name 14 = .ok (.bipush 8, 2) := by decide +kernel
theorem dX3_name_16 : decode cX3_name 16 = .ok (.iload_n 1, 1) := by decide +kernel
theorem dX3_name_17 : decode cX3_name 17 = .ok (.imul, 1) := by decide +kernel
theorem dX3_name_18 : decode cX3_name 18 = .ok (.iload_n 2, 1) := by decide +kernel
theorem dX3_name_19 : decode cX3_name 19 = .ok (.iadd, 1) := by decide +kernel
theorem dX3_name_20 : decode cX3_name 20 = .ok (.iaload, 1) := by decide +kernel
theorem dX3_name_21 : decode cX3_name 21 = .ok (.goto 4, 3) := by decide +kernel
theorem dX3_name_24 : decode cX3_name 24 = .ok (.iconst 0, 1) := by decide +kernel
theorem dX3_name_25 : decode cX3_name 25 = .ok (.ireturn, 1) := by decide +kernel
set_option maxRecDepth 20000 in
theorem ggX3_get_X3_findsCell : GoodIn wsX3_get wsX3_findsCell := goodIn_r _ [5, 6, 7, 8, 4, 9, 10, 11, 12, 13, 14, 15, 16, 17, 18, 19, 20, 21, 22, 23, 29, 30, 31, 32, 33, 34, 35, 36, 37, 38, 39, 40, 41] (by decide +kernel) (by decide +kernel)
set_option maxRecDepth 20000 in
theorem gX3_get_X3_findsCell : GoodIn wsX3_get (wsV RX3 70 RX3 yX3_findsCell wsX3_findsCell) := goodIn_app (goodIn_of _ (by decide +kernel)) ggX3_get_X3_findsCell
set_option maxRecDepth 20000 in
theorem ggX3_get_X3_at : GoodIn wsX3_get wsX3_at := goodIn_r _ [27, 28, 29, 30, 31, 32, 33, 34, 35, 36, 37, 38, 39, 40, 41] (by decide +kernel) (by decide +kernel)
set_option maxRecDepth 20000 in
theorem gX3_get_X3_at : GoodIn wsX3_get (wsV RX3 74 RX3 yX3_at wsX3_at) := goodIn_app (goodIn_of _ (by decide +kernel)) ggX3_get_X3_at
theorem dX3_get_0 : decode cX3_get 0 = .ok (.aload_n 0, 1) := by decide +kernel
theorem dX3_get_1 : decode cX3_get 1 = .ok (.iload_n 1, 1) := by decide +kernel
theorem dX3_get_2 : decode cX3_get 2 = .ok (.iconst 3, 1) := by decide +kernel
theorem dX3_get_3 : decode cX3_get 3 = .ok (.iload_n 2, 1) := by decide +kernel
theorem dX3_get_4 : decode cX3_get 4 = .ok (.iload_n 3, 1) := by decide +kernel
theorem dX3_get_5 : decode cX3_get 5 = .ok (.invokevirtual 70, 3) := by decide +kernel
theorem dX3_get_8 : decode cX3_get 8 = .ok (.ifCond .eq 13, 3) := by decide +kernel
theorem dX3_get_11 : decode cX3_get 11 = .ok (.aload_n 0, 1) := by decide +kernel
theorem dX3_get_12 : decode cX3_get 12 = .ok (.iload_n 1, 1) := by decide +kernel
theorem dX3_get_13 : decode cX3_get 13 = .ok (.iload_n 2, 1) := by decide +kernel
theorem dX3_get_14 : decode cX3_get 14 = .ok (.iload_n 3, 1) := by decide +kernel
theorem dX3_get_15 : decode cX3_get 15 = .ok (.invokevirtual 74, 3) := by decide +kernel
theorem dX3_get_18 : decode cX3_get 18 = .ok (.goto 4, 3) := by decide +kernel
theorem dX3_get_21 : decode cX3_get 21 = .ok (.iconst 0, 1) := by decide +kernel
theorem dX3_get_22 : decode cX3_get 22 = .ok (.ireturn, 1) := by decide +kernel
set_option maxRecDepth 20000 in
theorem ggX3_changedCell_X3_hasCell : GoodIn wsX3_changedCell wsX3_hasCell := goodIn_r _ [5, 6, 7, 8, 4, 9, 10, 11, 12, 13, 14, 15, 21, 22, 23, 24, 25, 26, 27, 28, 29, 30, 31, 32, 33] (by decide +kernel) (by decide +kernel)
set_option maxRecDepth 20000 in
theorem gX3_changedCell_X3_hasCell : GoodIn wsX3_changedCell (wsV RX3 67 RX3 yX3_hasCell wsX3_hasCell) := goodIn_app (goodIn_of _ (by decide +kernel)) ggX3_changedCell_X3_hasCell
set_option maxRecDepth 20000 in
theorem ggX3_changedCell_X3_at : GoodIn wsX3_changedCell wsX3_at := goodIn_r _ [19, 20, 21, 22, 23, 24, 25, 26, 27, 28, 29, 30, 31, 32, 33] (by decide +kernel) (by decide +kernel)
set_option maxRecDepth 20000 in
theorem gX3_changedCell_X3_at : GoodIn wsX3_changedCell (wsV RX3 74 RX3 yX3_at wsX3_at) := goodIn_app (goodIn_of _ (by decide +kernel)) ggX3_changedCell_X3_at
theorem dX3_changedCell_0 : decode cX3_changedCell 0 = .ok (.aload_n 0, 1) := by decide +kernel
theorem dX3_changedCell_1 : decode cX3_changedCell 1 = .ok (.iconst 0, 1) := by decide +kernel
theorem dX3_changedCell_2 : decode cX3_changedCell 2 = .ok (.iload_n 2, 1) := by decide +kernel
theorem dX3_changedCell_3 : decode cX3_changedCell 3 = .ok (.iload_n 3, 1) := by decide +kernel
theorem dX3_changedCell_4 : decode cX3_changedCell 4 = .ok (.invokevirtual 67, 3) := by decide +kernel
theorem dX3_changedCell_7 : decode cX3_changedCell 7 = .ok (.ifCond .eq 34, 3) := by decide +kernel
theorem dX3_changedCell_10 : decode cX3_changedCell 10 = .ok (.aload_n 0, 1) := by decide +kernel
theorem dX3_changedCell_11 : decode cX3_changedCell 11 = .ok (.iload_n 1, 1) := by decide +kernel
theorem dX3_changedCell_12 : decode cX3_changedCell 12 = .ok (.iload_n 2, 1) := by decide +kernel
theorem dX3_changedCell_13 : decode cX3_changedCell 13 = .ok (.iload_n 3, 1) := by decide +kernel
theorem dX3_changedCell_14 : decode cX3_changedCell 14 = .ok (.invokevirtual 67, 3) := by decide +kernel
theorem dX3_changedCell_17 : decode cX3_changedCell 17 = .ok (.ifCond .eq 24, 3) := by decide +kernel
theorem dX3_changedCell_20 : decode cX3_changedCell 20 = .ok (.aload_n 0, 1) := by decide +kernel
theorem dX3_changedCell_21 : decode cX3_changedCell 21 = .ok (.iconst 0, 1) := by decide +kernel
theorem dX3_changedCell_22 : decode cX3_changedCell 22 = .ok (.iload_n 2, 1) := by decide +kernel
theorem dX3_changedCell_23 : decode cX3_changedCell 23 = .ok (.iload_n 3, 1) := by decide +kernel
theorem dX3_changedCell_24 : decode cX3_changedCell 24 = .ok (.invokevirtual 74, 3) := by decide +kernel
theorem dX3_changedCell_27 : decode cX3_changedCell 27 = .ok (.aload_n 0, 1) := by decide +kernel
theorem dX3_changedCell_28 : decode cX3_changedCell 28 = .ok (.iload_n 1, 1) := by decide +kernel
theorem dX3_changedCell_29 : decode cX3_changedCell 29 = .ok (.iload_n 2, 1) := by decide +kernel
theorem dX3_changedCell_30 : decode cX3_changedCell 30 = .ok (.iload_n 3, 1) := by decide +kernel
theorem dX3_changedCell_31 : decode cX3_changedCell 31 = .ok (.invokevirtual 74, 3) := by decide +kernel
theorem dX3_changedCell_34 : decode cX3_changedCell 34 = .ok (.if_icmp .eq 7, 3) := by decide +kernel
theorem dX3_changedCell_37 : decode cX3_changedCell 37 = .ok (.iconst 1, 1) := by decide +kernel
theorem dX3_changedCell_38 : decode cX3_changedCell 38 = .ok (.goto 4, 3) := by decide +kernel
theorem dX3_changedCell_41 : decode cX3_changedCell 41 = .ok (.iconst 0, 1) := by decide +kernel
theorem dX3_changedCell_42 : decode cX3_changedCell 42 = .ok (.ireturn, 1) := by decide +kernel
set_option maxRecDepth 20000 in
theorem ggX3_renamed_X3_hasColumn : GoodIn wsX3_renamed wsX3_hasColumn := goodIn_r _ [6, 7, 8, 9, 10, 11, 12, 13, 14, 15, 16, 17, 18, 19, 20] (by decide +kernel) (by decide +kernel)
set_option maxRecDepth 20000 in
theorem gX3_renamed_X3_hasColumn : GoodIn wsX3_renamed (wsV RX3 49 RX3 yX3_hasColumn wsX3_hasColumn) := goodIn_app (goodIn_of _ (by decide +kernel)) ggX3_renamed_X3_hasColumn
theorem dX3_renamed_0 : decode cX3_renamed 0 = .ok (.aload_n 0, 1) := by decide +kernel
theorem dX3_renamed_1 : decode cX3_renamed 1 = .ok (.iconst 0, 1) := by decide +kernel
theorem dX3_renamed_2 : decode cX3_renamed 2 = .ok (.iload_n 2, 1) := by decide +kernel
theorem dX3_renamed_3 : decode cX3_renamed 3 = .ok (.invokevirtual 49, 3) := by decide +kernel
theorem dX3_renamed_6 : decode cX3_renamed 6 = .ok (.ifCond .eq 36, 3) := by decide +kernel
theorem dX3_renamed_9 : decode cX3_renamed 9 = .ok (.aload_n 0, 1) := by decide +kernel
theorem dX3_renamed_10 : decode cX3_renamed 10 = .ok (.iload_n 1, 1) := by decide +kernel
theorem dX3_renamed_11 : decode cX3_renamed 11 = .ok (.iload_n 2, 1) := by decide +kernel
theorem dX3_renamed_12 : decode cX3_renamed 12 = .ok (.invokevirtual 49, 3) := by decide +kernel
theorem dX3_renamed_15 : decode cX3_renamed 15 = .ok (.ifCond .eq 27, 3) := by decide +kernel
theorem dX3_renamed_18 : decode cX3_renamed 18 = .ok (.aload_n 0, 1) := by decide +kernel
theorem dX3_renamed_19 : decode cX3_renamed 19 = .ok (.getfield 16, 3) := by decide +kernel
theorem dX3_renamed_22 : decode cX3_renamed 22 = .ok (.iload_n 2, 1) := by decide +kernel
theorem dX3_renamed_23 : decode cX3_renamed 23 = .ok (.iaload, 1) := by decide +kernel
theorem dX3_renamed_24 : decode cX3_renamed 24 = .ok (.aload_n 0, 1) := by decide +kernel
theorem dX3_renamed_25 : decode cX3_renamed 25 = .ok (.getfield 16, 3) := by decide +kernel
theorem dX3_renamed_28 : decode cX3_renamed 28 = .ok (.bipush 8, 2) := by decide +kernel
theorem dX3_renamed_30 : decode cX3_renamed 30 = .ok (.iload_n 1, 1) := by decide +kernel
theorem dX3_renamed_31 : decode cX3_renamed 31 = .ok (.imul, 1) := by decide +kernel
theorem dX3_renamed_32 : decode cX3_renamed 32 = .ok (.iload_n 2, 1) := by decide +kernel
theorem dX3_renamed_33 : decode cX3_renamed 33 = .ok (.iadd, 1) := by decide +kernel
theorem dX3_renamed_34 : decode cX3_renamed 34 = .ok (.iaload, 1) := by decide +kernel
theorem dX3_renamed_35 : decode cX3_renamed 35 = .ok (.if_icmp .eq 7, 3) := by decide +kernel
theorem dX3_renamed_38 : decode cX3_renamed 38 = .ok (.iconst 1, 1) := by decide +kernel
theorem dX3_renamed_39 : decode cX3_renamed 39 = .ok (.goto 4, 3) := by decide +kernel
theorem dX3_renamed_42 : decode cX3_renamed 42 = .ok (.iconst 0, 1) := by decide +kernel
theorem dX3_renamed_43 : decode cX3_renamed 43 = .ok (.ireturn, 1) := by decide +kernel
set_option maxRecDepth 20000 in
theorem ggX3_changedColumn_X3_renamed : GoodIn wsX3_changedColumn wsX3_renamed := goodIn_r _ [5, 6, 7, 8, 9, 4, 10, 11, 30, 31, 32, 33, 34, 35, 36, 37, 38, 39, 40, 41, 42] (by decide +kernel) (by decide +kernel)
set_option maxRecDepth 20000 in
theorem gX3_changedColumn_X3_renamed : GoodIn wsX3_changedColumn (wsV RX3 78 RX3 yX3_renamed wsX3_renamed) := goodIn_app (goodIn_of _ (by decide +kernel)) ggX3_changedColumn_X3_renamed
set_option maxRecDepth 20000 in
theorem ggX3_changedColumn_X3_changedCell : GoodIn wsX3_changedColumn wsX3_changedCell := goodIn_r _ [15, 16, 17, 18, 4, 19, 20, 21, 22, 23, 24, 7, 8, 9, 10, 11, 25, 26, 27, 28, 29, 30, 31, 32, 33, 34, 35, 36, 37, 38, 39, 40, 41, 42] (by decide +kernel) (by decide +kernel)
set_option maxRecDepth 20000 in
theorem gX3_changedColumn_X3_changedCell : GoodIn wsX3_changedColumn (wsV RX3 81 RX3 yX3_changedCell wsX3_changedCell) := goodIn_app (goodIn_of _ (by decide +kernel)) ggX3_changedColumn_X3_changedCell
theorem dX3_changedColumn_0 : decode cX3_changedColumn 0 = .ok (.aload_n 0, 1) := by decide +kernel
theorem dX3_changedColumn_1 : decode cX3_changedColumn 1 = .ok (.iload_n 1, 1) := by decide +kernel
theorem dX3_changedColumn_2 : decode cX3_changedColumn 2 = .ok (.iload_n 2, 1) := by decide +kernel
theorem dX3_changedColumn_3 : decode cX3_changedColumn 3 = .ok (.invokevirtual 78, 3) := by decide +kernel
theorem dX3_changedColumn_6 : decode cX3_changedColumn 6 = .ok (.istore_n 3, 1) := by decide +kernel
theorem dX3_changedColumn_7 : decode cX3_changedColumn 7 = .ok (.iconst 0, 1) := by decide +kernel
theorem dX3_changedColumn_8 : decode cX3_changedColumn 8 = .ok (.istore 4, 2) := by decide +kernel
theorem dX3_changedColumn_10 : decode cX3_changedColumn 10 = .ok (.iload 4, 2) := by decide +kernel
theorem dX3_changedColumn_12 : decode cX3_changedColumn 12 = .ok (.bipush 24, 2) := by decide +kernel
theorem dX3_changedColumn_14 : decode cX3_changedColumn 14 = .ok (.if_icmp .ge 20, 3) := by decide +kernel
theorem dX3_changedColumn_17 : decode cX3_changedColumn 17 = .ok (.iload_n 3, 1) := by decide +kernel
theorem dX3_changedColumn_18 : decode cX3_changedColumn 18 = .ok (.aload_n 0, 1) := by decide +kernel
theorem dX3_changedColumn_19 : decode cX3_changedColumn 19 = .ok (.iload_n 1, 1) := by decide +kernel
theorem dX3_changedColumn_20 : decode cX3_changedColumn 20 = .ok (.iload 4, 2) := by decide +kernel
theorem dX3_changedColumn_22 : decode cX3_changedColumn 22 = .ok (.iload_n 2, 1) := by decide +kernel
theorem dX3_changedColumn_23 : decode cX3_changedColumn 23 = .ok (.invokevirtual 81, 3) := by decide +kernel
theorem dX3_changedColumn_26 : decode cX3_changedColumn 26 = .ok (.ior, 1) := by decide +kernel
theorem dX3_changedColumn_27 : decode cX3_changedColumn 27 = .ok (.istore_n 3, 1) := by decide +kernel
theorem dX3_changedColumn_28 : decode cX3_changedColumn 28 = .ok (.iinc 4 1, 3) := by decide +kernel
theorem dX3_changedColumn_31 : decode cX3_changedColumn 31 = .ok (.goto (-21), 3) := by decide +kernel
theorem dX3_changedColumn_34 : decode cX3_changedColumn 34 = .ok (.iload_n 3, 1) := by decide +kernel
theorem dX3_changedColumn_35 : decode cX3_changedColumn 35 = .ok (.ireturn, 1) := by decide +kernel
set_option maxRecDepth 20000 in
theorem ggX3_changedRow_X3_changedCell : GoodIn wsX3_changedRow wsX3_changedCell := goodIn_r _ [5, 6, 7, 8, 4, 9, 10, 11, 12, 13, 14, 15, 16, 17, 18, 19, 20, 21, 22, 23, 24, 25, 26, 27, 28, 29, 30, 31, 32, 33, 34, 35, 36, 37] (by decide +kernel) (by decide +kernel)
set_option maxRecDepth 20000 in
theorem gX3_changedRow_X3_changedCell : GoodIn wsX3_changedRow (wsV RX3 81 RX3 yX3_changedCell wsX3_changedCell) := goodIn_app (goodIn_of _ (by decide +kernel)) ggX3_changedRow_X3_changedCell
theorem dX3_changedRow_0 : decode cX3_changedRow 0 = .ok (.iconst 0, 1) := by decide +kernel
theorem dX3_changedRow_1 : decode cX3_changedRow 1 = .ok (.istore_n 3, 1) := by decide +kernel
theorem dX3_changedRow_2 : decode cX3_changedRow 2 = .ok (.iconst 0, 1) := by decide +kernel
theorem dX3_changedRow_3 : decode cX3_changedRow 3 = .ok (.istore 4, 2) := by decide +kernel
theorem dX3_changedRow_5 : decode cX3_changedRow 5 = .ok (.iload 4, 2) := by decide +kernel
theorem dX3_changedRow_7 : decode cX3_changedRow 7 = .ok (.bipush 8, 2) := by decide +kernel
theorem dX3_changedRow_9 : decode cX3_changedRow 9 = .ok (.if_icmp .ge 20, 3) := by decide +kernel
theorem dX3_changedRow_12 : decode cX3_changedRow 12 = .ok (.iload_n 3, 1) := by decide +kernel
theorem dX3_changedRow_13 : decode cX3_changedRow 13 = .ok (.aload_n 0, 1) := by decide +kernel
theorem dX3_changedRow_14 : decode cX3_changedRow 14 = .ok (.iload_n 1, 1) := by decide +kernel
theorem dX3_changedRow_15 : decode cX3_changedRow 15 = .ok (.iload_n 2, 1) := by decide +kernel
theorem dX3_changedRow_16 : decode cX3_changedRow 16 = .ok (.iload 4, 2) := by decide +kernel
theorem dX3_changedRow_18 : decode cX3_changedRow 18 = .ok (.invokevirtual 81, 3) := by decide +kernel
theorem dX3_changedRow_21 : decode cX3_changedRow 21 = .ok (.ior, 1) := by decide +kernel
theorem dX3_changedRow_22 : decode cX3_changedRow 22 = .ok (.istore_n 3, 1) := by decide +kernel
theorem dX3_changedRow_23 : decode cX3_changedRow 23 = .ok (.iinc 4 1, 3) := by decide +kernel
theorem dX3_changedRow_26 : decode cX3_changedRow 26 = .ok (.goto (-21), 3) := by decide +kernel
theorem dX3_changedRow_29 : decode cX3_changedRow 29 = .ok (.iload_n 3, 1) := by decide +kernel
theorem dX3_changedRow_30 : decode cX3_changedRow 30 = .ok (.ireturn, 1) := by decide +kernel
set_option maxRecDepth 20000 in
theorem ggX3_changes_X3_isIn : GoodIn wsX3_changes wsX3_isIn := goodIn_r _ [7] (by decide +kernel) (by decide +kernel)
set_option maxRecDepth 20000 in
theorem gX3_changes_X3_isIn : GoodIn wsX3_changes (va_wsS RX3 52 yX3_isIn wsX3_isIn) := goodIn_app (goodIn_of _ (by decide +kernel)) ggX3_changes_X3_isIn
set_option maxRecDepth 20000 in
theorem ggX3_changes_X3_count : GoodIn wsX3_changes wsX3_count := goodIn_r _ [10] (by decide +kernel) (by decide +kernel)
set_option maxRecDepth 20000 in
theorem gX3_changes_X3_count : GoodIn wsX3_changes (va_wsS RX3 60 yX3_count wsX3_count) := goodIn_app (goodIn_of _ (by decide +kernel)) ggX3_changes_X3_count
set_option maxRecDepth 20000 in
theorem ggX3_changes_X3_renamed : GoodIn wsX3_changes wsX3_renamed := goodIn_r _ [14, 15, 16, 17, 18, 6, 19, 2, 37, 38, 39, 40, 41, 42, 43, 44, 45, 46, 47, 48, 49] (by decide +kernel) (by decide +kernel)
set_option maxRecDepth 20000 in
theorem gX3_changes_X3_renamed : GoodIn wsX3_changes (wsV RX3 78 RX3 yX3_renamed wsX3_renamed) := goodIn_app (goodIn_of _ (by decide +kernel)) ggX3_changes_X3_renamed
set_option maxRecDepth 20000 in
theorem ggX3_changes_X3_changedCell : GoodIn wsX3_changes wsX3_changedCell := goodIn_r _ [23, 24, 25, 26, 6, 27, 28, 29, 30, 31, 3, 16, 17, 18, 19, 2, 32, 33, 34, 35, 36, 37, 38, 39, 40, 41, 42, 43, 44, 45, 46, 47, 48, 49] (by decide +kernel) (by decide +kernel)
set_option maxRecDepth 20000 in
theorem gX3_changes_X3_changedCell : GoodIn wsX3_changes (wsV RX3 81 RX3 yX3_changedCell wsX3_changedCell) := goodIn_app (goodIn_of _ (by decide +kernel)) ggX3_changes_X3_changedCell
theorem dX3_changes_0 : decode cX3_changes 0 = .ok (.aload_n 0, 1) := by decide +kernel
theorem dX3_changes_1 : decode cX3_changes 1 = .ok (.iload_n 1, 1) := by decide +kernel
theorem dX3_changes_2 : decode cX3_changes 2 = .ok (.iconst 1, 1) := by decide +kernel
theorem dX3_changes_3 : decode cX3_changes 3 = .ok (.iconst 2, 1) := by decide +kernel
theorem dX3_changes_4 : decode cX3_changes 4 = .ok (.invokestatic 52, 3) := by decide +kernel
theorem dX3_changes_7 : decode cX3_changes 7 = .ok (.ifCond .eq 7, 3) := by decide +kernel
theorem dX3_changes_10 : decode cX3_changes 10 = .ok (.iconst 0, 1) := by decide +kernel
theorem dX3_changes_11 : decode cX3_changes 11 = .ok (.goto 4, 3) := by decide +kernel
theorem dX3_changes_14 : decode cX3_changes 14 = .ok (.iconst 1, 1) := by decide +kernel
theorem dX3_changes_15 : decode cX3_changes 15 = .ok (.putfield 41, 3) := by decide +kernel
theorem dX3_changes_18 : decode cX3_changes 18 = .ok (.aload_n 0, 1) := by decide +kernel
theorem dX3_changes_19 : decode cX3_changes 19 = .ok (.getfield 41, 3) := by decide +kernel
theorem dX3_changes_22 : decode cX3_changes 22 = .ok (.ifCond .le 5, 3) := by decide +kernel
theorem dX3_changes_25 : decode cX3_changes 25 = .ok (.iconst 0, 1) := by decide +kernel
theorem dX3_changes_26 : decode cX3_changes 26 = .ok (.ireturn, 1) := by decide +kernel
theorem dX3_changes_27 : decode cX3_changes 27 = .ok (.aload_n 0, 1) := by decide +kernel
theorem dX3_changes_28 : decode cX3_changes 28 = .ok (.getfield 7, 3) := by decide +kernel
theorem dX3_changes_31 : decode cX3_changes 31 = .ok (.iload_n 1, 1) := by decide +kernel
theorem dX3_changes_32 : decode cX3_changes 32 = .ok (.iaload, 1) := by decide +kernel
theorem dX3_changes_33 : decode cX3_changes 33 = .ok (.aload_n 0, 1) := by decide +kernel
theorem dX3_changes_34 : decode cX3_changes 34 = .ok (.getfield 7, 3) := by decide +kernel
theorem dX3_changes_37 : decode cX3_changes 37 = .ok (.iconst 0, 1) := by decide +kernel
theorem dX3_changes_38 : decode cX3_changes 38 = .ok (.iaload, 1) := by decide +kernel
theorem dX3_changes_39 : decode cX3_changes 39 = .ok (.ixor, 1) := by decide +kernel
theorem dX3_changes_40 : decode cX3_changes 40 = .ok (.invokestatic 60, 3) := by decide +kernel
theorem dX3_changes_43 : decode cX3_changes 43 = .ok (.aload_n 0, 1) := by decide +kernel
theorem dX3_changes_44 : decode cX3_changes 44 = .ok (.getfield 13, 3) := by decide +kernel
theorem dX3_changes_47 : decode cX3_changes 47 = .ok (.iload_n 1, 1) := by decide +kernel
theorem dX3_changes_48 : decode cX3_changes 48 = .ok (.iaload, 1) := by decide +kernel
theorem dX3_changes_49 : decode cX3_changes 49 = .ok (.aload_n 0, 1) := by decide +kernel
theorem dX3_changes_50 : decode cX3_changes 50 = .ok (.getfield 13, 3) := by decide +kernel
theorem dX3_changes_53 : decode cX3_changes 53 = .ok (.iconst 0, 1) := by decide +kernel
theorem dX3_changes_54 : decode cX3_changes 54 = .ok (.iaload, 1) := by decide +kernel
theorem dX3_changes_55 : decode cX3_changes 55 = .ok (.ixor, 1) := by decide +kernel
theorem dX3_changes_56 : decode cX3_changes 56 = .ok (.invokestatic 60, 3) := by decide +kernel
theorem dX3_changes_59 : decode cX3_changes 59 = .ok (.iadd, 1) := by decide +kernel
theorem dX3_changes_60 : decode cX3_changes 60 = .ok (.istore_n 2, 1) := by decide +kernel
theorem dX3_changes_61 : decode cX3_changes 61 = .ok (.iconst 0, 1) := by decide +kernel
theorem dX3_changes_62 : decode cX3_changes 62 = .ok (.istore_n 3, 1) := by decide +kernel
theorem dX3_changes_63 : decode cX3_changes 63 = .ok (.iload_n 3, 1) := by decide +kernel
theorem dX3_changes_64 : decode cX3_changes 64 = .ok (.bipush 8, 2) := by decide +kernel
theorem dX3_changes_66 : decode cX3_changes 66 = .ok (.if_icmp .ge 61, 3) := by decide +kernel
theorem dX3_changes_69 : decode cX3_changes 69 = .ok (.iload_n 2, 1) := by decide +kernel
theorem dX3_changes_70 : decode cX3_changes 70 = .ok (.aload_n 0, 1) := by decide +kernel
theorem dX3_changes_71 : decode cX3_changes 71 = .ok (.iload_n 1, 1) := by decide +kernel
theorem dX3_changes_72 : decode cX3_changes 72 = .ok (.iload_n 3, 1) := by decide +kernel
theorem dX3_changes_73 : decode cX3_changes 73 = .ok (.invokevirtual 78, 3) := by decide +kernel
theorem dX3_changes_76 : decode cX3_changes 76 = .ok (.ifCond .eq 7, 3) := by decide +kernel
theorem dX3_changes_79 : decode cX3_changes 79 = .ok (.iconst 1, 1) := by decide +kernel
theorem dX3_changes_80 : decode cX3_changes 80 = .ok (.goto 4, 3) := by decide +kernel
theorem dX3_changes_83 : decode cX3_changes 83 = .ok (.iconst 0, 1) := by decide +kernel
theorem dX3_changes_84 : decode cX3_changes 84 = .ok (.iadd, 1) := by decide +kernel
theorem dX3_changes_85 : decode cX3_changes 85 = .ok (.istore_n 2, 1) := by decide +kernel
theorem dX3_changes_86 : decode cX3_changes 86 = .ok (.iconst 0, 1) := by decide +kernel
theorem dX3_changes_87 : decode cX3_changes 87 = .ok (.istore 4, 2) := by decide +kernel
theorem dX3_changes_89 : decode cX3_changes 89 = .ok (.iload 4, 2) := by decide +kernel
theorem dX3_changes_91 : decode cX3_changes 91 = .ok (.bipush 24, 2) := by decide +kernel
theorem dX3_changes_93 : decode cX3_changes 93 = .ok (.if_icmp .ge 28, 3) := by decide +kernel
theorem dX3_changes_96 : decode cX3_changes 96 = .ok (.iload_n 2, 1) := by decide +kernel
theorem dX3_changes_97 : decode cX3_changes 97 = .ok (.aload_n 0, 1) := by decide +kernel
theorem dX3_changes_98 : decode cX3_changes 98 = .ok (.iload_n 1, 1) := by decide +kernel
theorem dX3_changes_99 : decode cX3_changes 99 = .ok (.iload 4, 2) := by decide +kernel
theorem dX3_changes_101 : decode cX3_changes 101 = .ok (.iload_n 3, 1) := by decide +kernel
theorem dX3_changes_102 : decode cX3_changes 102 = .ok (.invokevirtual 81, 3) := by decide +kernel
theorem dX3_changes_105 : decode cX3_changes 105 = .ok (.ifCond .eq 7, 3) := by decide +kernel
theorem dX3_changes_108 : decode cX3_changes 108 = .ok (.iconst 1, 1) := by decide +kernel
theorem dX3_changes_109 : decode cX3_changes 109 = .ok (.goto 4, 3) := by decide +kernel
theorem dX3_changes_112 : decode cX3_changes 112 = .ok (.iconst 0, 1) := by decide +kernel
theorem dX3_changes_113 : decode cX3_changes 113 = .ok (.iadd, 1) := by decide +kernel
theorem dX3_changes_114 : decode cX3_changes 114 = .ok (.istore_n 2, 1) := by decide +kernel
theorem dX3_changes_115 : decode cX3_changes 115 = .ok (.iinc 4 1, 3) := by decide +kernel
theorem dX3_changes_118 : decode cX3_changes 118 = .ok (.goto (-29), 3) := by decide +kernel
theorem dX3_changes_121 : decode cX3_changes 121 = .ok (.iinc 3 1, 3) := by decide +kernel
theorem dX3_changes_124 : decode cX3_changes 124 = .ok (.goto (-61), 3) := by decide +kernel
theorem dX3_changes_127 : decode cX3_changes 127 = .ok (.iload_n 2, 1) := by decide +kernel
theorem dX3_changes_128 : decode cX3_changes 128 = .ok (.ireturn, 1) := by decide +kernel
theorem dX3_merged_0 : decode cX3_merged 0 = .ok (.iload_n 0, 1) := by decide +kernel
theorem dX3_merged_1 : decode cX3_merged 1 = .ok (.bipush 6, 2) := by decide +kernel
theorem dX3_merged_3 : decode cX3_merged 3 = .ok (.iand, 1) := by decide +kernel
theorem dX3_merged_4 : decode cX3_merged 4 = .ok (.bipush 6, 2) := by decide +kernel
theorem dX3_merged_6 : decode cX3_merged 6 = .ok (.if_icmp .eq 13, 3) := by decide +kernel
theorem dX3_merged_9 : decode cX3_merged 9 = .ok (.iload_n 0, 1) := by decide +kernel
theorem dX3_merged_10 : decode cX3_merged 10 = .ok (.iconst 2, 1) := by decide +kernel
theorem dX3_merged_11 : decode cX3_merged 11 = .ok (.if_icmp .eq 8, 3) := by decide +kernel
theorem dX3_merged_14 : decode cX3_merged 14 = .ok (.iload_n 0, 1) := by decide +kernel
theorem dX3_merged_15 : decode cX3_merged 15 = .ok (.iconst 4, 1) := by decide +kernel
theorem dX3_merged_16 : decode cX3_merged 16 = .ok (.if_icmp .ne 5, 3) := by decide +kernel
theorem dX3_merged_19 : decode cX3_merged 19 = .ok (.iconst 1, 1) := by decide +kernel
theorem dX3_merged_20 : decode cX3_merged 20 = .ok (.ireturn, 1) := by decide +kernel
theorem dX3_merged_21 : decode cX3_merged 21 = .ok (.iload_n 0, 1) := by decide +kernel
theorem dX3_merged_22 : decode cX3_merged 22 = .ok (.iconst 3, 1) := by decide +kernel
theorem dX3_merged_23 : decode cX3_merged 23 = .ok (.if_icmp .ne 7, 3) := by decide +kernel
theorem dX3_merged_26 : decode cX3_merged 26 = .ok (.iload_n 1, 1) := by decide +kernel
theorem dX3_merged_27 : decode cX3_merged 27 = .ok (.ifCond .ne 12, 3) := by decide +kernel
theorem dX3_merged_30 : decode cX3_merged 30 = .ok (.iload_n 0, 1) := by decide +kernel
theorem dX3_merged_31 : decode cX3_merged 31 = .ok (.iconst 5, 1) := by decide +kernel
theorem dX3_merged_32 : decode cX3_merged 32 = .ok (.if_icmp .ne 11, 3) := by decide +kernel
theorem dX3_merged_35 : decode cX3_merged 35 = .ok (.iload_n 2, 1) := by decide +kernel
theorem dX3_merged_36 : decode cX3_merged 36 = .ok (.ifCond .eq 7, 3) := by decide +kernel
theorem dX3_merged_39 : decode cX3_merged 39 = .ok (.iconst 2, 1) := by decide +kernel
theorem dX3_merged_40 : decode cX3_merged 40 = .ok (.goto 4, 3) := by decide +kernel
theorem dX3_merged_43 : decode cX3_merged 43 = .ok (.iconst 0, 1) := by decide +kernel
theorem dX3_merged_44 : decode cX3_merged 44 = .ok (.ireturn, 1) := by decide +kernel
set_option maxRecDepth 20000 in
theorem ggX3_mergedColumn_X3_hasColumn : GoodIn wsX3_mergedColumn wsX3_hasColumn := goodIn_r _ [5, 6, 37, 38, 39, 40, 41, 42, 43, 44, 45, 46, 47, 48, 49] (by decide +kernel) (by decide +kernel)
set_option maxRecDepth 20000 in
theorem gX3_mergedColumn_X3_hasColumn : GoodIn wsX3_mergedColumn (wsV RX3 49 RX3 yX3_hasColumn wsX3_hasColumn) := goodIn_app (goodIn_of _ (by decide +kernel)) ggX3_mergedColumn_X3_hasColumn
set_option maxRecDepth 20000 in
theorem ggX3_mergedColumn_X3_changedColumn : GoodIn wsX3_mergedColumn wsX3_changedColumn := goodIn_r _ [10, 11, 12, 13, 4, 14, 15, 1, 2, 3, 5, 6, 16, 17, 18, 19, 20, 21, 22, 23, 24, 25, 26, 27, 28, 29, 30, 31, 32, 33, 37, 38, 39, 40, 41, 42, 43, 44, 45, 46, 47, 48, 49] (by decide +kernel) (by decide +kernel)
set_option maxRecDepth 20000 in
theorem gX3_mergedColumn_X3_changedColumn : GoodIn wsX3_mergedColumn (wsV RX3 84 RX3 yX3_changedColumn wsX3_changedColumn) := goodIn_app (goodIn_of _ (by decide +kernel)) ggX3_mergedColumn_X3_changedColumn
set_option maxRecDepth 20000 in
theorem ggX3_mergedColumn_X3_merged : GoodIn wsX3_mergedColumn wsX3_merged := goodIn_r _ [36] (by decide +kernel) (by decide +kernel)
set_option maxRecDepth 20000 in
theorem gX3_mergedColumn_X3_merged : GoodIn wsX3_mergedColumn (va_wsS RX3 87 yX3_merged wsX3_merged) := goodIn_app (goodIn_of _ (by decide +kernel)) ggX3_mergedColumn_X3_merged
theorem dX3_mergedColumn_0 : decode cX3_mergedColumn 0 = .ok (.aload_n 0, 1) := by decide +kernel
theorem dX3_mergedColumn_1 : decode cX3_mergedColumn 1 = .ok (.iconst 0, 1) := by decide +kernel
theorem dX3_mergedColumn_2 : decode cX3_mergedColumn 2 = .ok (.iload_n 1, 1) := by decide +kernel
theorem dX3_mergedColumn_3 : decode cX3_mergedColumn 3 = .ok (.invokevirtual 49, 3) := by decide +kernel
theorem dX3_mergedColumn_6 : decode cX3_mergedColumn 6 = .ok (.ifCond .eq 7, 3) := by decide +kernel
theorem dX3_mergedColumn_9 : decode cX3_mergedColumn 9 = .ok (.iconst 1, 1) := by decide +kernel
theorem dX3_mergedColumn_10 : decode cX3_mergedColumn 10 = .ok (.goto 4, 3) := by decide +kernel
theorem dX3_mergedColumn_13 : decode cX3_mergedColumn 13 = .ok (.iconst 0, 1) := by decide +kernel
theorem dX3_mergedColumn_14 : decode cX3_mergedColumn 14 = .ok (.aload_n 0, 1) := by decide +kernel
theorem dX3_mergedColumn_15 : decode cX3_mergedColumn 15 = .ok (.iconst 1, 1) := by decide +kernel
theorem dX3_mergedColumn_16 : decode cX3_mergedColumn 16 = .ok (.iload_n 1, 1) := by decide +kernel
theorem dX3_mergedColumn_17 : decode cX3_mergedColumn 17 = .ok (.invokevirtual 49, 3) := by decide +kernel
theorem dX3_mergedColumn_20 : decode cX3_mergedColumn 20 = .ok (.ifCond .eq 7, 3) := by decide +kernel
theorem dX3_mergedColumn_23 : decode cX3_mergedColumn 23 = .ok (.iconst 2, 1) := by decide +kernel
theorem dX3_mergedColumn_24 : decode cX3_mergedColumn 24 = .ok (.goto 4, 3) := by decide +kernel
theorem dX3_mergedColumn_27 : decode cX3_mergedColumn 27 = .ok (.iconst 0, 1) := by decide +kernel
theorem dX3_mergedColumn_28 : decode cX3_mergedColumn 28 = .ok (.ior, 1) := by decide +kernel
theorem dX3_mergedColumn_29 : decode cX3_mergedColumn 29 = .ok (.aload_n 0, 1) := by decide +kernel
theorem dX3_mergedColumn_30 : decode cX3_mergedColumn 30 = .ok (.iconst 2, 1) := by decide +kernel
theorem dX3_mergedColumn_31 : decode cX3_mergedColumn 31 = .ok (.iload_n 1, 1) := by decide +kernel
theorem dX3_mergedColumn_32 : decode cX3_mergedColumn 32 = .ok (.invokevirtual 49, 3) := by decide +kernel
theorem dX3_mergedColumn_35 : decode cX3_mergedColumn 35 = .ok (.ifCond .eq 7, 3) := by decide +kernel
theorem dX3_mergedColumn_38 : decode cX3_mergedColumn 38 = .ok (.iconst 4, 1) := by decide +kernel
theorem dX3_mergedColumn_39 : decode cX3_mergedColumn 39 = .ok (.goto 4, 3) := by decide +kernel
theorem dX3_mergedColumn_42 : decode cX3_mergedColumn 42 = .ok (.iconst 0, 1) := by decide +kernel
theorem dX3_mergedColumn_43 : decode cX3_mergedColumn 43 = .ok (.ior, 1) := by decide +kernel
theorem dX3_mergedColumn_44 : decode cX3_mergedColumn 44 = .ok (.istore_n 2, 1) := by decide +kernel
theorem dX3_mergedColumn_45 : decode cX3_mergedColumn 45 = .ok (.iload_n 2, 1) := by decide +kernel
theorem dX3_mergedColumn_46 : decode cX3_mergedColumn 46 = .ok (.aload_n 0, 1) := by decide +kernel
theorem dX3_mergedColumn_47 : decode cX3_mergedColumn 47 = .ok (.iconst 1, 1) := by decide +kernel
theorem dX3_mergedColumn_48 : decode cX3_mergedColumn 48 = .ok (.iload_n 1, 1) := by decide +kernel
theorem dX3_mergedColumn_49 : decode cX3_mergedColumn 49 = .ok (.invokevirtual 84, 3) := by decide +kernel
theorem dX3_mergedColumn_52 : decode cX3_mergedColumn 52 = .ok (.aload_n 0, 1) := by decide +kernel
theorem dX3_mergedColumn_53 : decode cX3_mergedColumn 53 = .ok (.iconst 2, 1) := by decide +kernel
theorem dX3_mergedColumn_54 : decode cX3_mergedColumn 54 = .ok (.iload_n 1, 1) := by decide +kernel
theorem dX3_mergedColumn_55 : decode cX3_mergedColumn 55 = .ok (.invokevirtual 84, 3) := by decide +kernel
theorem dX3_mergedColumn_58 : decode cX3_mergedColumn 58 = .ok (.invokestatic 87, 3) := by decide +kernel
theorem dX3_mergedColumn_61 : decode cX3_mergedColumn 61 = .ok (.ireturn, 1) := by decide +kernel
set_option maxRecDepth 20000 in
theorem ggX3_mergedRow_X3_hasRow : GoodIn wsX3_mergedRow wsX3_hasRow := goodIn_r _ [5, 6, 32, 33, 34, 35, 36, 37, 38, 39, 40, 41, 42, 43, 44] (by decide +kernel) (by decide +kernel)
set_option maxRecDepth 20000 in
theorem gX3_mergedRow_X3_hasRow : GoodIn wsX3_mergedRow (wsV RX3 45 RX3 yX3_hasRow wsX3_hasRow) := goodIn_app (goodIn_of _ (by decide +kernel)) ggX3_mergedRow_X3_hasRow
set_option maxRecDepth 20000 in
theorem ggX3_mergedRow_X3_changedRow : GoodIn wsX3_mergedRow wsX3_changedRow := goodIn_r _ [10, 11, 12, 13, 4, 14, 15, 16, 17, 18, 1, 2, 3, 5, 6, 19, 20, 21, 22, 23, 24, 25, 26, 27, 28, 32, 33, 34, 35, 36, 37, 38, 39, 40, 41, 42, 43, 44] (by decide +kernel) (by decide +kernel)
set_option maxRecDepth 20000 in
theorem gX3_mergedRow_X3_changedRow : GoodIn wsX3_mergedRow (wsV RX3 91 RX3 yX3_changedRow wsX3_changedRow) := goodIn_app (goodIn_of _ (by decide +kernel)) ggX3_mergedRow_X3_changedRow
set_option maxRecDepth 20000 in
theorem ggX3_mergedRow_X3_merged : GoodIn wsX3_mergedRow wsX3_merged := goodIn_r _ [31] (by decide +kernel) (by decide +kernel)
set_option maxRecDepth 20000 in
theorem gX3_mergedRow_X3_merged : GoodIn wsX3_mergedRow (va_wsS RX3 87 yX3_merged wsX3_merged) := goodIn_app (goodIn_of _ (by decide +kernel)) ggX3_mergedRow_X3_merged
theorem dX3_mergedRow_0 : decode cX3_mergedRow 0 = .ok (.aload_n 0, 1) := by decide +kernel
theorem dX3_mergedRow_1 : decode cX3_mergedRow 1 = .ok (.iconst 0, 1) := by decide +kernel
theorem dX3_mergedRow_2 : decode cX3_mergedRow 2 = .ok (.iload_n 1, 1) := by decide +kernel
theorem dX3_mergedRow_3 : decode cX3_mergedRow 3 = .ok (.invokevirtual 45, 3) := by decide +kernel
theorem dX3_mergedRow_6 : decode cX3_mergedRow 6 = .ok (.ifCond .eq 7, 3) := by decide +kernel
theorem dX3_mergedRow_9 : decode cX3_mergedRow 9 = .ok (.iconst 1, 1) := by decide +kernel
theorem dX3_mergedRow_10 : decode cX3_mergedRow 10 = .ok (.goto 4, 3) := by decide +kernel
theorem dX3_mergedRow_13 : decode cX3_mergedRow 13 = .ok (.iconst 0, 1) := by decide +kernel
theorem dX3_mergedRow_14 : decode cX3_mergedRow 14 = .ok (.aload_n 0, 1) := by decide +kernel
theorem dX3_mergedRow_15 : decode cX3_mergedRow 15 = .ok (.iconst 1, 1) := by decide +kernel
theorem dX3_mergedRow_16 : decode cX3_mergedRow 16 = .ok (.iload_n 1, 1) := by decide +kernel
theorem dX3_mergedRow_17 : decode cX3_mergedRow 17 = .ok (.invokevirtual 45, 3) := by decide +kernel
theorem dX3_mergedRow_20 : decode cX3_mergedRow 20 = .ok (.ifCond .eq 7, 3) := by decide +kernel
theorem dX3_mergedRow_23 : decode cX3_mergedRow 23 = .ok (.iconst 2, 1) := by decide +kernel
theorem dX3_mergedRow_24 : decode cX3_mergedRow 24 = .ok (.goto 4, 3) := by decide +kernel
theorem dX3_mergedRow_27 : decode cX3_mergedRow 27 = .ok (.iconst 0, 1) := by decide +kernel
theorem dX3_mergedRow_28 : decode cX3_mergedRow 28 = .ok (.ior, 1) := by decide +kernel
theorem dX3_mergedRow_29 : decode cX3_mergedRow 29 = .ok (.aload_n 0, 1) := by decide +kernel
theorem dX3_mergedRow_30 : decode cX3_mergedRow 30 = .ok (.iconst 2, 1) := by decide +kernel
theorem dX3_mergedRow_31 : decode cX3_mergedRow 31 = .ok (.iload_n 1, 1) := by decide +kernel
theorem dX3_mergedRow_32 : decode cX3_mergedRow 32 = .ok (.invokevirtual 45, 3) := by decide +kernel
theorem dX3_mergedRow_35 : decode cX3_mergedRow 35 = .ok (.ifCond .eq 7, 3) := by decide +kernel
theorem dX3_mergedRow_38 : decode cX3_mergedRow 38 = .ok (.iconst 4, 1) := by decide +kernel
theorem dX3_mergedRow_39 : decode cX3_mergedRow 39 = .ok (.goto 4, 3) := by decide +kernel
theorem dX3_mergedRow_42 : decode cX3_mergedRow 42 = .ok (.iconst 0, 1) := by decide +kernel
theorem dX3_mergedRow_43 : decode cX3_mergedRow 43 = .ok (.ior, 1) := by decide +kernel
theorem dX3_mergedRow_44 : decode cX3_mergedRow 44 = .ok (.istore_n 2, 1) := by decide +kernel
theorem dX3_mergedRow_45 : decode cX3_mergedRow 45 = .ok (.iload_n 2, 1) := by decide +kernel
theorem dX3_mergedRow_46 : decode cX3_mergedRow 46 = .ok (.aload_n 0, 1) := by decide +kernel
theorem dX3_mergedRow_47 : decode cX3_mergedRow 47 = .ok (.iconst 1, 1) := by decide +kernel
theorem dX3_mergedRow_48 : decode cX3_mergedRow 48 = .ok (.iload_n 1, 1) := by decide +kernel
theorem dX3_mergedRow_49 : decode cX3_mergedRow 49 = .ok (.invokevirtual 91, 3) := by decide +kernel
theorem dX3_mergedRow_52 : decode cX3_mergedRow 52 = .ok (.aload_n 0, 1) := by decide +kernel
theorem dX3_mergedRow_53 : decode cX3_mergedRow 53 = .ok (.iconst 2, 1) := by decide +kernel
theorem dX3_mergedRow_54 : decode cX3_mergedRow 54 = .ok (.iload_n 1, 1) := by decide +kernel
theorem dX3_mergedRow_55 : decode cX3_mergedRow 55 = .ok (.invokevirtual 91, 3) := by decide +kernel
theorem dX3_mergedRow_58 : decode cX3_mergedRow 58 = .ok (.invokestatic 87, 3) := by decide +kernel
theorem dX3_mergedRow_61 : decode cX3_mergedRow 61 = .ok (.ireturn, 1) := by decide +kernel
set_option maxRecDepth 20000 in
theorem ggX3_naming_X3_hasColumn : GoodIn wsX3_naming wsX3_hasColumn := goodIn_r _ [6, 7, 12, 13, 14, 15, 16, 17, 18, 19, 20, 21, 22, 23, 24] (by decide +kernel) (by decide +kernel)
set_option maxRecDepth 20000 in
theorem gX3_naming_X3_hasColumn : GoodIn wsX3_naming (wsV RX3 49 RX3 yX3_hasColumn wsX3_hasColumn) := goodIn_app (goodIn_of _ (by decide +kernel)) ggX3_naming_X3_hasColumn
set_option maxRecDepth 20000 in
theorem ggX3_naming_X3_renamed : GoodIn wsX3_naming wsX3_renamed := goodIn_r _ [11, 1, 2, 3, 4, 5, 6, 7, 12, 13, 14, 15, 16, 17, 18, 19, 20, 21, 22, 23, 24] (by decide +kernel) (by decide +kernel)
set_option maxRecDepth 20000 in
theorem gX3_naming_X3_renamed : GoodIn wsX3_naming (wsV RX3 78 RX3 yX3_renamed wsX3_renamed) := goodIn_app (goodIn_of _ (by decide +kernel)) ggX3_naming_X3_renamed
theorem dX3_naming_0 : decode cX3_naming 0 = .ok (.aload_n 0, 1) := by decide +kernel
theorem dX3_naming_1 : decode cX3_naming 1 = .ok (.iconst 1, 1) := by decide +kernel
theorem dX3_naming_2 : decode cX3_naming 2 = .ok (.iload_n 1, 1) := by decide +kernel
theorem dX3_naming_3 : decode cX3_naming 3 = .ok (.invokevirtual 49, 3) := by decide +kernel
theorem dX3_naming_6 : decode cX3_naming 6 = .ok (.istore_n 2, 1) := by decide +kernel
theorem dX3_naming_7 : decode cX3_naming 7 = .ok (.aload_n 0, 1) := by decide +kernel
theorem dX3_naming_8 : decode cX3_naming 8 = .ok (.iconst 2, 1) := by decide +kernel
theorem dX3_naming_9 : decode cX3_naming 9 = .ok (.iload_n 1, 1) := by decide +kernel
theorem dX3_naming_10 : decode cX3_naming 10 = .ok (.invokevirtual 49, 3) := by decide +kernel
theorem dX3_naming_13 : decode cX3_naming 13 = .ok (.istore_n 3, 1) := by decide +kernel
theorem dX3_naming_14 : decode cX3_naming 14 = .ok (.iload_n 2, 1) := by decide +kernel
theorem dX3_naming_15 : decode cX3_naming 15 = .ok (.ifCond .eq 28, 3) := by decide +kernel
theorem dX3_naming_18 : decode cX3_naming 18 = .ok (.iload_n 3, 1) := by decide +kernel
theorem dX3_naming_19 : decode cX3_naming 19 = .ok (.ifCond .eq 24, 3) := by decide +kernel
theorem dX3_naming_22 : decode cX3_naming 22 = .ok (.aload_n 0, 1) := by decide +kernel
theorem dX3_naming_23 : decode cX3_naming 23 = .ok (.getfield 16, 3) := by decide +kernel
theorem dX3_naming_26 : decode cX3_naming 26 = .ok (.bipush 8, 2) := by decide +kernel
theorem dX3_naming_28 : decode cX3_naming 28 = .ok (.iload_n 1, 1) := by decide +kernel
theorem dX3_naming_29 : decode cX3_naming 29 = .ok (.iadd, 1) := by decide +kernel
theorem dX3_naming_30 : decode cX3_naming 30 = .ok (.iaload, 1) := by decide +kernel
theorem dX3_naming_31 : decode cX3_naming 31 = .ok (.aload_n 0, 1) := by decide +kernel
theorem dX3_naming_32 : decode cX3_naming 32 = .ok (.getfield 16, 3) := by decide +kernel
theorem dX3_naming_35 : decode cX3_naming 35 = .ok (.bipush 16, 2) := by decide +kernel
theorem dX3_naming_37 : decode cX3_naming 37 = .ok (.iload_n 1, 1) := by decide +kernel
theorem dX3_naming_38 : decode cX3_naming 38 = .ok (.iadd, 1) := by decide +kernel
theorem dX3_naming_39 : decode cX3_naming 39 = .ok (.iaload, 1) := by decide +kernel
theorem dX3_naming_40 : decode cX3_naming 40 = .ok (.if_icmp .ne 13, 3) := by decide +kernel
theorem dX3_naming_43 : decode cX3_naming 43 = .ok (.iload_n 2, 1) := by decide +kernel
theorem dX3_naming_44 : decode cX3_naming 44 = .ok (.ifCond .eq 7, 3) := by decide +kernel
theorem dX3_naming_47 : decode cX3_naming 47 = .ok (.iconst 1, 1) := by decide +kernel
theorem dX3_naming_48 : decode cX3_naming 48 = .ok (.goto 4, 3) := by decide +kernel
theorem dX3_naming_51 : decode cX3_naming 51 = .ok (.iconst 2, 1) := by decide +kernel
theorem dX3_naming_52 : decode cX3_naming 52 = .ok (.ireturn, 1) := by decide +kernel
theorem dX3_naming_53 : decode cX3_naming 53 = .ok (.aload_n 0, 1) := by decide +kernel
theorem dX3_naming_54 : decode cX3_naming 54 = .ok (.iconst 1, 1) := by decide +kernel
theorem dX3_naming_55 : decode cX3_naming 55 = .ok (.iload_n 1, 1) := by decide +kernel
theorem dX3_naming_56 : decode cX3_naming 56 = .ok (.invokevirtual 78, 3) := by decide +kernel
theorem dX3_naming_59 : decode cX3_naming 59 = .ok (.istore 4, 2) := by decide +kernel
theorem dX3_naming_61 : decode cX3_naming 61 = .ok (.aload_n 0, 1) := by decide +kernel
theorem dX3_naming_62 : decode cX3_naming 62 = .ok (.iconst 2, 1) := by decide +kernel
theorem dX3_naming_63 : decode cX3_naming 63 = .ok (.iload_n 1, 1) := by decide +kernel
theorem dX3_naming_64 : decode cX3_naming 64 = .ok (.invokevirtual 78, 3) := by decide +kernel
theorem dX3_naming_67 : decode cX3_naming 67 = .ok (.istore 5, 2) := by decide +kernel
theorem dX3_naming_69 : decode cX3_naming 69 = .ok (.iload 4, 2) := by decide +kernel
theorem dX3_naming_71 : decode cX3_naming 71 = .ok (.iload 5, 2) := by decide +kernel
theorem dX3_naming_73 : decode cX3_naming 73 = .ok (.if_icmp .ne 7, 3) := by decide +kernel
theorem dX3_naming_76 : decode cX3_naming 76 = .ok (.iconst 0, 1) := by decide +kernel
theorem dX3_naming_77 : decode cX3_naming 77 = .ok (.goto 13, 3) := by decide +kernel
theorem dX3_naming_80 : decode cX3_naming 80 = .ok (.iload 4, 2) := by decide +kernel
theorem dX3_naming_82 : decode cX3_naming 82 = .ok (.ifCond .eq 7, 3) := by decide +kernel
theorem dX3_naming_85 : decode cX3_naming 85 = .ok (.iconst 1, 1) := by decide +kernel
theorem dX3_naming_86 : decode cX3_naming 86 = .ok (.goto 4, 3) := by decide +kernel
theorem dX3_naming_89 : decode cX3_naming 89 = .ok (.iconst 2, 1) := by decide +kernel
theorem dX3_naming_90 : decode cX3_naming 90 = .ok (.ireturn, 1) := by decide +kernel
set_option maxRecDepth 20000 in
theorem ggX3_atOdds_X3_hasCell : GoodIn wsX3_atOdds wsX3_hasCell := goodIn_r _ [6, 7, 8, 9, 5, 10, 11, 12, 13, 14, 15, 16, 22, 23, 24, 25, 26, 27, 28, 29, 30, 31, 32, 33, 34] (by decide +kernel) (by decide +kernel)
set_option maxRecDepth 20000 in
theorem gX3_atOdds_X3_hasCell : GoodIn wsX3_atOdds (wsV RX3 67 RX3 yX3_hasCell wsX3_hasCell) := goodIn_app (goodIn_of _ (by decide +kernel)) ggX3_atOdds_X3_hasCell
set_option maxRecDepth 20000 in
theorem ggX3_atOdds_X3_at : GoodIn wsX3_atOdds wsX3_at := goodIn_r _ [20, 21, 22, 23, 24, 25, 26, 27, 28, 29, 30, 31, 32, 33, 34] (by decide +kernel) (by decide +kernel)
set_option maxRecDepth 20000 in
theorem gX3_atOdds_X3_at : GoodIn wsX3_atOdds (wsV RX3 74 RX3 yX3_at wsX3_at) := goodIn_app (goodIn_of _ (by decide +kernel)) ggX3_atOdds_X3_at
theorem dX3_atOdds_0 : decode cX3_atOdds 0 = .ok (.aload_n 0, 1) := by decide +kernel
theorem dX3_atOdds_1 : decode cX3_atOdds 1 = .ok (.iconst 1, 1) := by decide +kernel
theorem dX3_atOdds_2 : decode cX3_atOdds 2 = .ok (.iload_n 1, 1) := by decide +kernel
theorem dX3_atOdds_3 : decode cX3_atOdds 3 = .ok (.iload_n 2, 1) := by decide +kernel
theorem dX3_atOdds_4 : decode cX3_atOdds 4 = .ok (.invokevirtual 67, 3) := by decide +kernel
theorem dX3_atOdds_7 : decode cX3_atOdds 7 = .ok (.ifCond .eq 27, 3) := by decide +kernel
theorem dX3_atOdds_10 : decode cX3_atOdds 10 = .ok (.aload_n 0, 1) := by decide +kernel
theorem dX3_atOdds_11 : decode cX3_atOdds 11 = .ok (.iconst 2, 1) := by decide +kernel
theorem dX3_atOdds_12 : decode cX3_atOdds 12 = .ok (.iload_n 1, 1) := by decide +kernel
theorem dX3_atOdds_13 : decode cX3_atOdds 13 = .ok (.iload_n 2, 1) := by decide +kernel
theorem dX3_atOdds_14 : decode cX3_atOdds 14 = .ok (.invokevirtual 67, 3) := by decide +kernel
theorem dX3_atOdds_17 : decode cX3_atOdds 17 = .ok (.ifCond .eq 17, 3) := by decide +kernel
theorem dX3_atOdds_20 : decode cX3_atOdds 20 = .ok (.aload_n 0, 1) := by decide +kernel
theorem dX3_atOdds_21 : decode cX3_atOdds 21 = .ok (.getfield 22, 3) := by decide +kernel
theorem dX3_atOdds_24 : decode cX3_atOdds 24 = .ok (.iload_n 2, 1) := by decide +kernel
theorem dX3_atOdds_25 : decode cX3_atOdds 25 = .ok (.iaload, 1) := by decide +kernel
theorem dX3_atOdds_26 : decode cX3_atOdds 26 = .ok (.iconst 3, 1) := by decide +kernel
theorem dX3_atOdds_27 : decode cX3_atOdds 27 = .ok (.if_icmp .eq 7, 3) := by decide +kernel
theorem dX3_atOdds_30 : decode cX3_atOdds 30 = .ok (.iconst 1, 1) := by decide +kernel
theorem dX3_atOdds_31 : decode cX3_atOdds 31 = .ok (.goto 4, 3) := by decide +kernel
theorem dX3_atOdds_34 : decode cX3_atOdds 34 = .ok (.iconst 0, 1) := by decide +kernel
theorem dX3_atOdds_35 : decode cX3_atOdds 35 = .ok (.istore_n 3, 1) := by decide +kernel
theorem dX3_atOdds_36 : decode cX3_atOdds 36 = .ok (.aload_n 0, 1) := by decide +kernel
theorem dX3_atOdds_37 : decode cX3_atOdds 37 = .ok (.iconst 0, 1) := by decide +kernel
theorem dX3_atOdds_38 : decode cX3_atOdds 38 = .ok (.iload_n 1, 1) := by decide +kernel
theorem dX3_atOdds_39 : decode cX3_atOdds 39 = .ok (.iload_n 2, 1) := by decide +kernel
theorem dX3_atOdds_40 : decode cX3_atOdds 40 = .ok (.invokevirtual 67, 3) := by decide +kernel
theorem dX3_atOdds_43 : decode cX3_atOdds 43 = .ok (.ifCond .eq 41, 3) := by decide +kernel
theorem dX3_atOdds_46 : decode cX3_atOdds 46 = .ok (.aload_n 0, 1) := by decide +kernel
theorem dX3_atOdds_47 : decode cX3_atOdds 47 = .ok (.iconst 0, 1) := by decide +kernel
theorem dX3_atOdds_48 : decode cX3_atOdds 48 = .ok (.iload_n 1, 1) := by decide +kernel
theorem dX3_atOdds_49 : decode cX3_atOdds 49 = .ok (.iload_n 2, 1) := by decide +kernel
theorem dX3_atOdds_50 : decode cX3_atOdds 50 = .ok (.invokevirtual 74, 3) := by decide +kernel
theorem dX3_atOdds_53 : decode cX3_atOdds 53 = .ok (.aload_n 0, 1) := by decide +kernel
theorem dX3_atOdds_54 : decode cX3_atOdds 54 = .ok (.iconst 1, 1) := by decide +kernel
theorem dX3_atOdds_55 : decode cX3_atOdds 55 = .ok (.iload_n 1, 1) := by decide +kernel
theorem dX3_atOdds_56 : decode cX3_atOdds 56 = .ok (.iload_n 2, 1) := by decide +kernel
theorem dX3_atOdds_57 : decode cX3_atOdds 57 = .ok (.invokevirtual 74, 3) := by decide +kernel
theorem dX3_atOdds_60 : decode cX3_atOdds 60 = .ok (.if_icmp .eq 20, 3) := by decide +kernel
theorem dX3_atOdds_63 : decode cX3_atOdds 63 = .ok (.aload_n 0, 1) := by decide +kernel
theorem dX3_atOdds_64 : decode cX3_atOdds 64 = .ok (.iconst 0, 1) := by decide +kernel
theorem dX3_atOdds_65 : decode cX3_atOdds 65 = .ok (.iload_n 1, 1) := by decide +kernel
theorem dX3_atOdds_66 : decode cX3_atOdds 66 = .ok (.iload_n 2, 1) := by decide +kernel
theorem dX3_atOdds_67 : decode cX3_atOdds 67 = .ok (.invokevirtual 74, 3) := by decide +kernel
theorem dX3_atOdds_70 : decode cX3_atOdds 70 = .ok (.aload_n 0, 1) := by decide +kernel
theorem dX3_atOdds_71 : decode cX3_atOdds 71 = .ok (.iconst 2, 1) := by decide +kernel
theorem dX3_atOdds_72 : decode cX3_atOdds 72 = .ok (.iload_n 1, 1) := by decide +kernel
theorem dX3_atOdds_73 : decode cX3_atOdds 73 = .ok (.iload_n 2, 1) := by decide +kernel
theorem dX3_atOdds_74 : decode cX3_atOdds 74 = .ok (.invokevirtual 74, 3) := by decide +kernel
theorem dX3_atOdds_77 : decode cX3_atOdds 77 = .ok (.if_icmp .ne 7, 3) := by decide +kernel
theorem dX3_atOdds_80 : decode cX3_atOdds 80 = .ok (.iconst 1, 1) := by decide +kernel
theorem dX3_atOdds_81 : decode cX3_atOdds 81 = .ok (.goto 4, 3) := by decide +kernel
theorem dX3_atOdds_84 : decode cX3_atOdds 84 = .ok (.iconst 0, 1) := by decide +kernel
theorem dX3_atOdds_85 : decode cX3_atOdds 85 = .ok (.istore 4, 2) := by decide +kernel
theorem dX3_atOdds_87 : decode cX3_atOdds 87 = .ok (.iload_n 3, 1) := by decide +kernel
theorem dX3_atOdds_88 : decode cX3_atOdds 88 = .ok (.ifCond .eq 29, 3) := by decide +kernel
theorem dX3_atOdds_91 : decode cX3_atOdds 91 = .ok (.aload_n 0, 1) := by decide +kernel
theorem dX3_atOdds_92 : decode cX3_atOdds 92 = .ok (.iconst 1, 1) := by decide +kernel
theorem dX3_atOdds_93 : decode cX3_atOdds 93 = .ok (.iload_n 1, 1) := by decide +kernel
theorem dX3_atOdds_94 : decode cX3_atOdds 94 = .ok (.iload_n 2, 1) := by decide +kernel
theorem dX3_atOdds_95 : decode cX3_atOdds 95 = .ok (.invokevirtual 74, 3) := by decide +kernel
theorem dX3_atOdds_98 : decode cX3_atOdds 98 = .ok (.aload_n 0, 1) := by decide +kernel
theorem dX3_atOdds_99 : decode cX3_atOdds 99 = .ok (.iconst 2, 1) := by decide +kernel
theorem dX3_atOdds_100 : decode cX3_atOdds 100 = .ok (.iload_n 1, 1) := by decide +kernel
theorem dX3_atOdds_101 : decode cX3_atOdds 101 = .ok (.iload_n 2, 1) := by decide +kernel
theorem dX3_atOdds_102 : decode cX3_atOdds 102 = .ok (.invokevirtual 74, 3) := by decide +kernel
theorem dX3_atOdds_105 : decode cX3_atOdds 105 = .ok (.if_icmp .eq 12, 3) := by decide +kernel
theorem dX3_atOdds_108 : decode cX3_atOdds 108 = .ok (.iload 4, 2) := by decide +kernel
theorem dX3_atOdds_110 : decode cX3_atOdds 110 = .ok (.ifCond .ne 7, 3) := by decide +kernel
theorem dX3_atOdds_113 : decode cX3_atOdds 113 = .ok (.iconst 1, 1) := by decide +kernel
theorem dX3_atOdds_114 : decode cX3_atOdds 114 = .ok (.goto 4, 3) := by decide +kernel
theorem dX3_atOdds_117 : decode cX3_atOdds 117 = .ok (.iconst 0, 1) := by decide +kernel
theorem dX3_atOdds_118 : decode cX3_atOdds 118 = .ok (.ireturn, 1) := by decide +kernel
set_option maxRecDepth 20000 in
theorem ggX3_mergedCell_X3_hasCell : GoodIn wsX3_mergedCell wsX3_hasCell := goodIn_r _ [6, 7, 8, 9, 5, 10, 11, 12, 13, 14, 15, 16, 26, 27, 28, 29, 30, 31, 32, 33, 34, 35, 36, 37, 38] (by decide +kernel) (by decide +kernel)
set_option maxRecDepth 20000 in
theorem gX3_mergedCell_X3_hasCell : GoodIn wsX3_mergedCell (wsV RX3 67 RX3 yX3_hasCell wsX3_hasCell) := goodIn_app (goodIn_of _ (by decide +kernel)) ggX3_mergedCell_X3_hasCell
set_option maxRecDepth 20000 in
theorem ggX3_mergedCell_X3_at : GoodIn wsX3_mergedCell wsX3_at := goodIn_r _ [20, 21, 26, 27, 28, 29, 30, 31, 32, 33, 34, 35, 36, 37, 38] (by decide +kernel) (by decide +kernel)
set_option maxRecDepth 20000 in
theorem gX3_mergedCell_X3_at : GoodIn wsX3_mergedCell (wsV RX3 74 RX3 yX3_at wsX3_at) := goodIn_app (goodIn_of _ (by decide +kernel)) ggX3_mergedCell_X3_at
set_option maxRecDepth 20000 in
theorem ggX3_mergedCell_X3_atOdds : GoodIn wsX3_mergedCell wsX3_atOdds := goodIn_r _ [25, 1, 2, 3, 4, 5, 6, 7, 8, 9, 10, 11, 12, 13, 14, 15, 16, 17, 18, 19, 20, 21, 26, 27, 28, 29, 30, 31, 32, 33, 34, 35, 36, 37, 38] (by decide +kernel) (by decide +kernel)
set_option maxRecDepth 20000 in
theorem gX3_mergedCell_X3_atOdds : GoodIn wsX3_mergedCell (wsV RX3 94 RX3 yX3_atOdds wsX3_atOdds) := goodIn_app (goodIn_of _ (by decide +kernel)) ggX3_mergedCell_X3_atOdds
theorem dX3_mergedCell_0 : decode cX3_mergedCell 0 = .ok (.aload_n 0, 1) := by decide +kernel
theorem dX3_mergedCell_1 : decode cX3_mergedCell 1 = .ok (.iconst 1, 1) := by decide +kernel
theorem dX3_mergedCell_2 : decode cX3_mergedCell 2 = .ok (.iload_n 1, 1) := by decide +kernel
theorem dX3_mergedCell_3 : decode cX3_mergedCell 3 = .ok (.iload_n 2, 1) := by decide +kernel
theorem dX3_mergedCell_4 : decode cX3_mergedCell 4 = .ok (.invokevirtual 67, 3) := by decide +kernel
theorem dX3_mergedCell_7 : decode cX3_mergedCell 7 = .ok (.istore_n 3, 1) := by decide +kernel
theorem dX3_mergedCell_8 : decode cX3_mergedCell 8 = .ok (.aload_n 0, 1) := by decide +kernel
theorem dX3_mergedCell_9 : decode cX3_mergedCell 9 = .ok (.iconst 2, 1) := by decide +kernel
theorem dX3_mergedCell_10 : decode cX3_mergedCell 10 = .ok (.iload_n 1, 1) := by decide +kernel
theorem dX3_mergedCell_11 : decode cX3_mergedCell 11 = .ok (.iload_n 2, 1) := by decide +kernel
theorem dX3_mergedCell_12 : decode cX3_mergedCell 12 = .ok (.invokevirtual 67, 3) := by decide +kernel
theorem dX3_mergedCell_15 : decode cX3_mergedCell 15 = .ok (.istore 4, 2) := by decide +kernel
theorem dX3_mergedCell_17 : decode cX3_mergedCell 17 = .ok (.iload_n 3, 1) := by decide +kernel
theorem dX3_mergedCell_18 : decode cX3_mergedCell 18 = .ok (.ifCond .eq 13, 3) := by decide +kernel
theorem dX3_mergedCell_21 : decode cX3_mergedCell 21 = .ok (.aload_n 0, 1) := by decide +kernel
theorem dX3_mergedCell_22 : decode cX3_mergedCell 22 = .ok (.iconst 1, 1) := by decide +kernel
theorem dX3_mergedCell_23 : decode cX3_mergedCell 23 = .ok (.iload_n 1, 1) := by decide +kernel
theorem dX3_mergedCell_24 : decode cX3_mergedCell 24 = .ok (.iload_n 2, 1) := by decide +kernel
theorem dX3_mergedCell_25 : decode cX3_mergedCell 25 = .ok (.invokevirtual 74, 3) := by decide +kernel
theorem dX3_mergedCell_28 : decode cX3_mergedCell 28 = .ok (.goto 4, 3) := by decide +kernel
theorem dX3_mergedCell_31 : decode cX3_mergedCell 31 = .ok (.iconst 0, 1) := by decide +kernel
theorem dX3_mergedCell_32 : decode cX3_mergedCell 32 = .ok (.istore 5, 2) := by decide +kernel
theorem dX3_mergedCell_34 : decode cX3_mergedCell 34 = .ok (.iload 4, 2) := by decide +kernel
theorem dX3_mergedCell_36 : decode cX3_mergedCell 36 = .ok (.ifCond .eq 13, 3) := by decide +kernel
theorem dX3_mergedCell_39 : decode cX3_mergedCell 39 = .ok (.aload_n 0, 1) := by decide +kernel
theorem dX3_mergedCell_40 : decode cX3_mergedCell 40 = .ok (.iconst 2, 1) := by decide +kernel
theorem dX3_mergedCell_41 : decode cX3_mergedCell 41 = .ok (.iload_n 1, 1) := by decide +kernel
theorem dX3_mergedCell_42 : decode cX3_mergedCell 42 = .ok (.iload_n 2, 1) := by decide +kernel
theorem dX3_mergedCell_43 : decode cX3_mergedCell 43 = .ok (.invokevirtual 74, 3) := by decide +kernel
theorem dX3_mergedCell_46 : decode cX3_mergedCell 46 = .ok (.goto 4, 3) := by decide +kernel
theorem dX3_mergedCell_49 : decode cX3_mergedCell 49 = .ok (.iconst 0, 1) := by decide +kernel
theorem dX3_mergedCell_50 : decode cX3_mergedCell 50 = .ok (.istore 6, 2) := by decide +kernel
theorem dX3_mergedCell_52 : decode cX3_mergedCell 52 = .ok (.aload_n 0, 1) := by decide +kernel
theorem dX3_mergedCell_53 : decode cX3_mergedCell 53 = .ok (.iconst 0, 1) := by decide +kernel
theorem dX3_mergedCell_54 : decode cX3_mergedCell 54 = .ok (.iload_n 1, 1) := by decide +kernel
theorem dX3_mergedCell_55 : decode cX3_mergedCell 55 = .ok (.iload_n 2, 1) := by decide +kernel
theorem dX3_mergedCell_56 : decode cX3_mergedCell 56 = .ok (.invokevirtual 67, 3) := by decide +kernel
theorem dX3_mergedCell_59 : decode cX3_mergedCell 59 = .ok (.ifCond .eq 13, 3) := by decide +kernel
theorem dX3_mergedCell_62 : decode cX3_mergedCell 62 = .ok (.aload_n 0, 1) := by decide +kernel
theorem dX3_mergedCell_63 : decode cX3_mergedCell 63 = .ok (.iconst 0, 1) := by decide +kernel
theorem dX3_mergedCell_64 : decode cX3_mergedCell 64 = .ok (.iload_n 1, 1) := by decide +kernel
theorem dX3_mergedCell_65 : decode cX3_mergedCell 65 = .ok (.iload_n 2, 1) := by decide +kernel
theorem dX3_mergedCell_66 : decode cX3_mergedCell 66 = .ok (.invokevirtual 74, 3) := by decide +kernel
theorem dX3_mergedCell_69 : decode cX3_mergedCell 69 = .ok (.goto 4, 3) := by decide +kernel
theorem dX3_mergedCell_72 : decode cX3_mergedCell 72 = .ok (.iconst 0, 1) := by decide +kernel
theorem dX3_mergedCell_73 : decode cX3_mergedCell 73 = .ok (.istore 7, 2) := by decide +kernel
theorem dX3_mergedCell_75 : decode cX3_mergedCell 75 = .ok (.iload_n 3, 1) := by decide +kernel
theorem dX3_mergedCell_76 : decode cX3_mergedCell 76 = .ok (.ifCond .eq 8, 3) := by decide +kernel
theorem dX3_mergedCell_79 : decode cX3_mergedCell 79 = .ok (.iload 4, 2) := by decide +kernel
theorem dX3_mergedCell_81 : decode cX3_mergedCell 81 = .ok (.ifCond .ne 9, 3) := by decide +kernel
theorem dX3_mergedCell_84 : decode cX3_mergedCell 84 = .ok (.iload 5, 2) := by decide +kernel
theorem dX3_mergedCell_86 : decode cX3_mergedCell 86 = .ok (.iload 6, 2) := by decide +kernel
theorem dX3_mergedCell_88 : decode cX3_mergedCell 88 = .ok (.iadd, 1) := by decide +kernel
theorem dX3_mergedCell_89 : decode cX3_mergedCell 89 = .ok (.ireturn, 1) := by decide +kernel
theorem dX3_mergedCell_90 : decode cX3_mergedCell 90 = .ok (.aload_n 0, 1) := by decide +kernel
theorem dX3_mergedCell_91 : decode cX3_mergedCell 91 = .ok (.getfield 22, 3) := by decide +kernel
theorem dX3_mergedCell_94 : decode cX3_mergedCell 94 = .ok (.iload_n 2, 1) := by decide +kernel
theorem dX3_mergedCell_95 : decode cX3_mergedCell 95 = .ok (.iaload, 1) := by decide +kernel
theorem dX3_mergedCell_96 : decode cX3_mergedCell 96 = .ok (.iconst 3, 1) := by decide +kernel
theorem dX3_mergedCell_97 : decode cX3_mergedCell 97 = .ok (.if_icmp .ne 12, 3) := by decide +kernel
theorem dX3_mergedCell_100 : decode cX3_mergedCell 100 = .ok (.iload 5, 2) := by decide +kernel
theorem dX3_mergedCell_102 : decode cX3_mergedCell 102 = .ok (.iload 6, 2) := by decide +kernel
theorem dX3_mergedCell_104 : decode cX3_mergedCell 104 = .ok (.iadd, 1) := by decide +kernel
theorem dX3_mergedCell_105 : decode cX3_mergedCell 105 = .ok (.iload 7, 2) := by decide +kernel
theorem dX3_mergedCell_107 : decode cX3_mergedCell 107 = .ok (.isub, 1) := by decide +kernel
theorem dX3_mergedCell_108 : decode cX3_mergedCell 108 = .ok (.ireturn, 1) := by decide +kernel
theorem dX3_mergedCell_109 : decode cX3_mergedCell 109 = .ok (.aload_n 0, 1) := by decide +kernel
theorem dX3_mergedCell_110 : decode cX3_mergedCell 110 = .ok (.iload_n 1, 1) := by decide +kernel
theorem dX3_mergedCell_111 : decode cX3_mergedCell 111 = .ok (.iload_n 2, 1) := by decide +kernel
theorem dX3_mergedCell_112 : decode cX3_mergedCell 112 = .ok (.invokevirtual 94, 3) := by decide +kernel
theorem dX3_mergedCell_115 : decode cX3_mergedCell 115 = .ok (.ifCond .eq 28, 3) := by decide +kernel
theorem dX3_mergedCell_118 : decode cX3_mergedCell 118 = .ok (.aload_n 0, 1) := by decide +kernel
theorem dX3_mergedCell_119 : decode cX3_mergedCell 119 = .ok (.getfield 22, 3) := by decide +kernel
theorem dX3_mergedCell_122 : decode cX3_mergedCell 122 = .ok (.iload_n 2, 1) := by decide +kernel
theorem dX3_mergedCell_123 : decode cX3_mergedCell 123 = .ok (.iaload, 1) := by decide +kernel
theorem dX3_mergedCell_124 : decode cX3_mergedCell 124 = .ok (.iconst 2, 1) := by decide +kernel
theorem dX3_mergedCell_125 : decode cX3_mergedCell 125 = .ok (.if_icmp .ne 15, 3) := by decide +kernel
theorem dX3_mergedCell_128 : decode cX3_mergedCell 128 = .ok (.iload 6, 2) := by decide +kernel
theorem dX3_mergedCell_130 : decode cX3_mergedCell 130 = .ok (.iload 5, 2) := by decide +kernel
theorem dX3_mergedCell_132 : decode cX3_mergedCell 132 = .ok (.if_icmp .le 8, 3) := by decide +kernel
theorem dX3_mergedCell_135 : decode cX3_mergedCell 135 = .ok (.iload 6, 2) := by decide +kernel
theorem dX3_mergedCell_137 : decode cX3_mergedCell 137 = .ok (.goto 5, 3) := by decide +kernel
theorem dX3_mergedCell_140 : decode cX3_mergedCell 140 = .ok (.iload 5, 2) := by decide +kernel
theorem dX3_mergedCell_142 : decode cX3_mergedCell 142 = .ok (.ireturn, 1) := by decide +kernel
theorem dX3_mergedCell_143 : decode cX3_mergedCell 143 = .ok (.aload_n 0, 1) := by decide +kernel
theorem dX3_mergedCell_144 : decode cX3_mergedCell 144 = .ok (.iconst 0, 1) := by decide +kernel
theorem dX3_mergedCell_145 : decode cX3_mergedCell 145 = .ok (.iload_n 1, 1) := by decide +kernel
theorem dX3_mergedCell_146 : decode cX3_mergedCell 146 = .ok (.iload_n 2, 1) := by decide +kernel
theorem dX3_mergedCell_147 : decode cX3_mergedCell 147 = .ok (.invokevirtual 67, 3) := by decide +kernel
theorem dX3_mergedCell_150 : decode cX3_mergedCell 150 = .ok (.ifCond .eq 15, 3) := by decide +kernel
theorem dX3_mergedCell_153 : decode cX3_mergedCell 153 = .ok (.iload 5, 2) := by decide +kernel
theorem dX3_mergedCell_155 : decode cX3_mergedCell 155 = .ok (.iload 7, 2) := by decide +kernel
theorem dX3_mergedCell_157 : decode cX3_mergedCell 157 = .ok (.if_icmp .ne 8, 3) := by decide +kernel
theorem dX3_mergedCell_160 : decode cX3_mergedCell 160 = .ok (.iload 6, 2) := by decide +kernel
theorem dX3_mergedCell_162 : decode cX3_mergedCell 162 = .ok (.goto 5, 3) := by decide +kernel
theorem dX3_mergedCell_165 : decode cX3_mergedCell 165 = .ok (.iload 5, 2) := by decide +kernel
theorem dX3_mergedCell_167 : decode cX3_mergedCell 167 = .ok (.ireturn, 1) := by decide +kernel
theorem dX3_lists_0 : decode cX3_lists 0 = .ok (.aload_n 0, 1) := by decide +kernel
theorem dX3_lists_1 : decode cX3_lists 1 = .ok (.getfield 29, 3) := by decide +kernel
theorem dX3_lists_4 : decode cX3_lists 4 = .ok (.aload_n 0, 1) := by decide +kernel
theorem dX3_lists_5 : decode cX3_lists 5 = .ok (.getfield 97, 3) := by decide +kernel
theorem dX3_lists_8 : decode cX3_lists 8 = .ok (.iload_n 1, 1) := by decide +kernel
theorem dX3_lists_9 : decode cX3_lists 9 = .ok (.iastore, 1) := by decide +kernel
theorem dX3_lists_10 : decode cX3_lists 10 = .ok (.aload_n 0, 1) := by decide +kernel
theorem dX3_lists_11 : decode cX3_lists 11 = .ok (.getfield 32, 3) := by decide +kernel
theorem dX3_lists_14 : decode cX3_lists 14 = .ok (.aload_n 0, 1) := by decide +kernel
theorem dX3_lists_15 : decode cX3_lists 15 = .ok (.getfield 97, 3) := by decide +kernel
theorem dX3_lists_18 : decode cX3_lists 18 = .ok (.iload_n 2, 1) := by decide +kernel
theorem dX3_lists_19 : decode cX3_lists 19 = .ok (.iastore, 1) := by decide +kernel
theorem dX3_lists_20 : decode cX3_lists 20 = .ok (.aload_n 0, 1) := by decide +kernel
theorem dX3_lists_21 : decode cX3_lists 21 = .ok (.getfield 35, 3) := by decide +kernel
theorem dX3_lists_24 : decode cX3_lists 24 = .ok (.aload_n 0, 1) := by decide +kernel
theorem dX3_lists_25 : decode cX3_lists 25 = .ok (.getfield 97, 3) := by decide +kernel
theorem dX3_lists_28 : decode cX3_lists 28 = .ok (.iload_n 3, 1) := by decide +kernel
theorem dX3_lists_29 : decode cX3_lists 29 = .ok (.iastore, 1) := by decide +kernel
theorem dX3_lists_30 : decode cX3_lists 30 = .ok (.aload_n 0, 1) := by decide +kernel
theorem dX3_lists_31 : decode cX3_lists 31 = .ok (.getfield 38, 3) := by decide +kernel
theorem dX3_lists_34 : decode cX3_lists 34 = .ok (.aload_n 0, 1) := by decide +kernel
theorem dX3_lists_35 : decode cX3_lists 35 = .ok (.getfield 97, 3) := by decide +kernel
theorem dX3_lists_38 : decode cX3_lists 38 = .ok (.iconst 0, 1) := by decide +kernel
theorem dX3_lists_39 : decode cX3_lists 39 = .ok (.bastore, 1) := by decide +kernel
theorem dX3_lists_40 : decode cX3_lists 40 = .ok (.aload_n 0, 1) := by decide +kernel
theorem dX3_lists_41 : decode cX3_lists 41 = .ok (.dup, 1) := by decide +kernel
theorem dX3_lists_42 : decode cX3_lists 42 = .ok (.getfield 97, 3) := by decide +kernel
theorem dX3_lists_45 : decode cX3_lists 45 = .ok (.iconst 1, 1) := by decide +kernel
theorem dX3_lists_46 : decode cX3_lists 46 = .ok (.iadd, 1) := by decide +kernel
theorem dX3_lists_47 : decode cX3_lists 47 = .ok (.putfield 97, 3) := by decide +kernel
theorem dX3_lists_50 : decode cX3_lists 50 = .ok (.return_, 1) := by decide +kernel
set_option maxRecDepth 20000 in
theorem ggX3_fills_X3_mergedColumn : GoodIn wsX3_fills wsX3_mergedColumn := goodIn_r _ [8, 9, 10, 11, 7, 12, 1, 13, 14, 15, 16, 17, 18, 19, 20, 3, 21, 22, 23, 24, 25, 26, 27, 28, 29, 30, 31, 32, 2, 33, 34, 35, 36, 37, 38, 39, 40, 62, 63, 64, 65, 66, 67, 68, 69, 70, 71, 72, 73, 74] (by decide +kernel) (by decide +kernel)
set_option maxRecDepth 20000 in
theorem gX3_fills_X3_mergedColumn : GoodIn wsX3_fills (wsV RX3 100 RX3 yX3_mergedColumn wsX3_mergedColumn) := goodIn_app (goodIn_of _ (by decide +kernel)) ggX3_fills_X3_mergedColumn
set_option maxRecDepth 20000 in
theorem ggX3_fills_X3_naming : GoodIn wsX3_fills wsX3_naming := goodIn_r _ [44, 3, 9, 10, 11, 7, 12, 1, 17, 18, 19, 20, 62, 63, 64, 65, 66, 67, 68, 69, 70, 71, 72, 73, 74] (by decide +kernel) (by decide +kernel)
set_option maxRecDepth 20000 in
theorem gX3_fills_X3_naming : GoodIn wsX3_fills (wsV RX3 103 RX3 yX3_naming wsX3_naming) := goodIn_app (goodIn_of _ (by decide +kernel)) ggX3_fills_X3_naming
set_option maxRecDepth 20000 in
theorem ggX3_fills_X3_lists : GoodIn wsX3_fills wsX3_lists := goodIn_r _ [48, 49, 50, 51, 52, 53, 62, 63, 64, 65, 66, 67, 68, 69, 70, 71, 72, 73, 74] (by decide +kernel) (by decide +kernel)
set_option maxRecDepth 20000 in
theorem gX3_fills_X3_lists : GoodIn wsX3_fills (wsV RX3 106 RX3 yX3_lists wsX3_lists) := goodIn_app (goodIn_of _ (by decide +kernel)) ggX3_fills_X3_lists
set_option maxRecDepth 20000 in
theorem ggX3_fills_X3_mergedRow : GoodIn wsX3_fills wsX3_mergedRow := goodIn_r _ [57, 29, 30, 31, 7, 32, 2, 58, 59, 60, 61, 21, 22, 23, 24, 25, 26, 27, 28, 9, 10, 11, 12, 1, 33, 34, 35, 36, 37, 38, 39, 40, 62, 63, 64, 65, 66, 67, 68, 69, 70, 71, 72, 73, 74] (by decide +kernel) (by decide +kernel)
set_option maxRecDepth 20000 in
theorem gX3_fills_X3_mergedRow : GoodIn wsX3_fills (wsV RX3 110 RX3 yX3_mergedRow wsX3_mergedRow) := goodIn_app (goodIn_of _ (by decide +kernel)) ggX3_fills_X3_mergedRow
theorem dX3_fills_0 : decode cX3_fills 0 = .ok (.aload_n 0, 1) := by decide +kernel
theorem dX3_fills_1 : decode cX3_fills 1 = .ok (.getfield 7, 3) := by decide +kernel
theorem dX3_fills_4 : decode cX3_fills 4 = .ok (.iconst 3, 1) := by decide +kernel
theorem dX3_fills_5 : decode cX3_fills 5 = .ok (.iconst 0, 1) := by decide +kernel
theorem dX3_fills_6 : decode cX3_fills 6 = .ok (.iastore, 1) := by decide +kernel
theorem dX3_fills_7 : decode cX3_fills 7 = .ok (.aload_n 0, 1) := by decide +kernel
theorem dX3_fills_8 : decode cX3_fills 8 = .ok (.getfield 13, 3) := by decide +kernel
theorem dX3_fills_11 : decode cX3_fills 11 = .ok (.iconst 3, 1) := by decide +kernel
theorem dX3_fills_12 : decode cX3_fills 12 = .ok (.iconst 0, 1) := by decide +kernel
theorem dX3_fills_13 : decode cX3_fills 13 = .ok (.iastore, 1) := by decide +kernel
theorem dX3_fills_14 : decode cX3_fills 14 = .ok (.iconst 0, 1) := by decide +kernel
theorem dX3_fills_15 : decode cX3_fills 15 = .ok (.istore_n 1, 1) := by decide +kernel
theorem dX3_fills_16 : decode cX3_fills 16 = .ok (.iload_n 1, 1) := by decide +kernel
theorem dX3_fills_17 : decode cX3_fills 17 = .ok (.bipush 8, 2) := by decide +kernel
theorem dX3_fills_19 : decode cX3_fills 19 = .ok (.if_icmp .ge 96, 3) := by decide +kernel
theorem dX3_fills_22 : decode cX3_fills 22 = .ok (.aload_n 0, 1) := by decide +kernel
theorem dX3_fills_23 : decode cX3_fills 23 = .ok (.iload_n 1, 1) := by decide +kernel
theorem dX3_fills_24 : decode cX3_fills 24 = .ok (.invokevirtual 100, 3) := by decide +kernel
theorem dX3_fills_27 : decode cX3_fills 27 = .ok (.istore_n 2, 1) := by decide +kernel
theorem dX3_fills_28 : decode cX3_fills 28 = .ok (.iload_n 2, 1) := by decide +kernel
theorem dX3_fills_29 : decode cX3_fills 29 = .ok (.ifCond .le 49, 3) := by decide +kernel
theorem dX3_fills_32 : decode cX3_fills 32 = .ok (.aload_n 0, 1) := by decide +kernel
theorem dX3_fills_33 : decode cX3_fills 33 = .ok (.getfield 7, 3) := by decide +kernel
theorem dX3_fills_36 : decode cX3_fills 36 = .ok (.iconst 3, 1) := by decide +kernel
theorem dX3_fills_37 : decode cX3_fills 37 = .ok (.dup2, 1) := by decide +kernel
theorem dX3_fills_38 : decode cX3_fills 38 = .ok (.iaload, 1) := by decide +kernel
theorem dX3_fills_39 : decode cX3_fills 39 = .ok (.iconst 1, 1) := by decide +kernel
theorem dX3_fills_40 : decode cX3_fills 40 = .ok (.iload_n 1, 1) := by decide +kernel
theorem dX3_fills_41 : decode cX3_fills 41 = .ok (.ishl, 1) := by decide +kernel
theorem dX3_fills_42 : decode cX3_fills 42 = .ok (.ior, 1) := by decide +kernel
theorem dX3_fills_43 : decode cX3_fills 43 = .ok (.iastore, 1) := by decide +kernel
theorem dX3_fills_44 : decode cX3_fills 44 = .ok (.aload_n 0, 1) := by decide +kernel
theorem dX3_fills_45 : decode cX3_fills 45 = .ok (.getfield 16, 3) := by decide +kernel
theorem dX3_fills_48 : decode cX3_fills 48 = .ok (.bipush 24, 2) := by decide +kernel
theorem dX3_fills_50 : decode cX3_fills 50 = .ok (.iload_n 1, 1) := by decide +kernel
theorem dX3_fills_51 : decode cX3_fills 51 = .ok (.iadd, 1) := by decide +kernel
theorem dX3_fills_52 : decode cX3_fills 52 = .ok (.aload_n 0, 1) := by decide +kernel
theorem dX3_fills_53 : decode cX3_fills 53 = .ok (.getfield 16, 3) := by decide +kernel
theorem dX3_fills_56 : decode cX3_fills 56 = .ok (.aload_n 0, 1) := by decide +kernel
theorem dX3_fills_57 : decode cX3_fills 57 = .ok (.iload_n 1, 1) := by decide +kernel
theorem dX3_fills_58 : decode cX3_fills 58 = .ok (.invokevirtual 103, 3) := by decide +kernel
theorem dX3_fills_61 : decode cX3_fills 61 = .ok (.iconst 2, 1) := by decide +kernel
theorem dX3_fills_62 : decode cX3_fills 62 = .ok (.if_icmp .ne 10, 3) := by decide +kernel
theorem dX3_fills_65 : decode cX3_fills 65 = .ok (.bipush 16, 2) := by decide +kernel
theorem dX3_fills_67 : decode cX3_fills 67 = .ok (.iload_n 1, 1) := by decide +kernel
theorem dX3_fills_68 : decode cX3_fills 68 = .ok (.iadd, 1) := by decide +kernel
theorem dX3_fills_69 : decode cX3_fills 69 = .ok (.goto 7, 3) := by decide +kernel
theorem dX3_fills_72 : decode cX3_fills 72 = .ok (.bipush 8, 2) := by decide +kernel
theorem dX3_fills_74 : decode cX3_fills 74 = .ok (.iload_n 1, 1) := by decide +kernel
theorem dX3_fills_75 : decode cX3_fills 75 = .ok (.iadd, 1) := by decide +kernel
theorem dX3_fills_76 : decode cX3_fills 76 = .ok (.iaload, 1) := by decide +kernel
theorem dX3_fills_77 : decode cX3_fills 77 = .ok (.iastore, 1) := by decide +kernel
theorem dX3_fills_78 : decode cX3_fills 78 = .ok (.iload_n 2, 1) := by decide +kernel
theorem dX3_fills_79 : decode cX3_fills 79 = .ok (.iconst 2, 1) := by decide +kernel
theorem dX3_fills_80 : decode cX3_fills 80 = .ok (.if_icmp .ne 10, 3) := by decide +kernel
theorem dX3_fills_83 : decode cX3_fills 83 = .ok (.aload_n 0, 1) := by decide +kernel
theorem dX3_fills_84 : decode cX3_fills 84 = .ok (.iconst 3, 1) := by decide +kernel
theorem dX3_fills_85 : decode cX3_fills 85 = .ok (.iconst (-1), 1) := by decide +kernel
theorem dX3_fills_86 : decode cX3_fills 86 = .ok (.iload_n 1, 1) := by decide +kernel
theorem dX3_fills_87 : decode cX3_fills 87 = .ok (.invokevirtual 106, 3) := by decide +kernel
theorem dX3_fills_90 : decode cX3_fills 90 = .ok (.iload_n 2, 1) := by decide +kernel
theorem dX3_fills_91 : decode cX3_fills 91 = .ok (.ifCond .le 18, 3) := by decide +kernel
theorem dX3_fills_94 : decode cX3_fills 94 = .ok (.aload_n 0, 1) := by decide +kernel
theorem dX3_fills_95 : decode cX3_fills 95 = .ok (.iload_n 1, 1) := by decide +kernel
theorem dX3_fills_96 : decode cX3_fills 96 = .ok (.invokevirtual 103, 3) := by decide +kernel
theorem dX3_fills_99 : decode cX3_fills 99 = .ok (.ifCond .ne 10, 3) := by decide +kernel
theorem dX3_fills_102 : decode cX3_fills 102 = .ok (.aload_n 0, 1) := by decide +kernel
theorem dX3_fills_103 : decode cX3_fills 103 = .ok (.iconst 4, 1) := by decide +kernel
theorem dX3_fills_104 : decode cX3_fills 104 = .ok (.iconst (-1), 1) := by decide +kernel
theorem dX3_fills_105 : decode cX3_fills 105 = .ok (.iload_n 1, 1) := by decide +kernel
theorem dX3_fills_106 : decode cX3_fills 106 = .ok (.invokevirtual 106, 3) := by decide +kernel
theorem dX3_fills_109 : decode cX3_fills 109 = .ok (.iinc 1 1, 3) := by decide +kernel
theorem dX3_fills_112 : decode cX3_fills 112 = .ok (.goto (-96), 3) := by decide +kernel
theorem dX3_fills_115 : decode cX3_fills 115 = .ok (.iconst 0, 1) := by decide +kernel
theorem dX3_fills_116 : decode cX3_fills 116 = .ok (.istore_n 1, 1) := by decide +kernel
theorem dX3_fills_117 : decode cX3_fills 117 = .ok (.iload_n 1, 1) := by decide +kernel
theorem dX3_fills_118 : decode cX3_fills 118 = .ok (.bipush 24, 2) := by decide +kernel
theorem dX3_fills_120 : decode cX3_fills 120 = .ok (.if_icmp .ge 47, 3) := by decide +kernel
theorem dX3_fills_123 : decode cX3_fills 123 = .ok (.aload_n 0, 1) := by decide +kernel
theorem dX3_fills_124 : decode cX3_fills 124 = .ok (.iload_n 1, 1) := by decide +kernel
theorem dX3_fills_125 : decode cX3_fills 125 = .ok (.invokevirtual 110, 3) := by decide +kernel
theorem dX3_fills_128 : decode cX3_fills 128 = .ok (.istore_n 2, 1) := by decide +kernel
theorem dX3_fills_129 : decode cX3_fills 129 = .ok (.aload_n 0, 1) := by decide +kernel
theorem dX3_fills_130 : decode cX3_fills 130 = .ok (.getfield 13, 3) := by decide +kernel
theorem dX3_fills_133 : decode cX3_fills 133 = .ok (.iconst 3, 1) := by decide +kernel
theorem dX3_fills_134 : decode cX3_fills 134 = .ok (.dup2, 1) := by decide +kernel
theorem dX3_fills_135 : decode cX3_fills 135 = .ok (.iaload, 1) := by decide +kernel
theorem dX3_fills_136 : decode cX3_fills 136 = .ok (.iload_n 2, 1) := by decide +kernel
theorem dX3_fills_137 : decode cX3_fills 137 = .ok (.ifCond .le 9, 3) := by decide +kernel
theorem dX3_fills_140 : decode cX3_fills 140 = .ok (.iconst 1, 1) := by decide +kernel
theorem dX3_fills_141 : decode cX3_fills 141 = .ok (.iload_n 1, 1) := by decide +kernel
theorem dX3_fills_142 : decode cX3_fills 142 = .ok (.ishl, 1) := by decide +kernel
theorem dX3_fills_143 : decode cX3_fills 143 = .ok (.goto 4, 3) := by decide +kernel
theorem dX3_fills_146 : decode cX3_fills 146 = .ok (.iconst 0, 1) := by decide +kernel
theorem dX3_fills_147 : decode cX3_fills 147 = .ok (.ior, 1) := by decide +kernel
theorem dX3_fills_148 : decode cX3_fills 148 = .ok (.iastore, 1) := by decide +kernel
theorem dX3_fills_149 : decode cX3_fills 149 = .ok (.iload_n 2, 1) := by decide +kernel
theorem dX3_fills_150 : decode cX3_fills 150 = .ok (.iconst 2, 1) := by decide +kernel
theorem dX3_fills_151 : decode cX3_fills 151 = .ok (.if_icmp .ne 10, 3) := by decide +kernel
theorem dX3_fills_154 : decode cX3_fills 154 = .ok (.aload_n 0, 1) := by decide +kernel
theorem dX3_fills_155 : decode cX3_fills 155 = .ok (.iconst 2, 1) := by decide +kernel
theorem dX3_fills_156 : decode cX3_fills 156 = .ok (.iload_n 1, 1) := by decide +kernel
theorem dX3_fills_157 : decode cX3_fills 157 = .ok (.iconst (-1), 1) := by decide +kernel
theorem dX3_fills_158 : decode cX3_fills 158 = .ok (.invokevirtual 106, 3) := by decide +kernel
theorem dX3_fills_161 : decode cX3_fills 161 = .ok (.iinc 1 1, 3) := by decide +kernel
theorem dX3_fills_164 : decode cX3_fills 164 = .ok (.goto (-47), 3) := by decide +kernel
theorem dX3_fills_167 : decode cX3_fills 167 = .ok (.return_, 1) := by decide +kernel
set_option maxRecDepth 20000 in
theorem ggX3_isDouble_X3_hasColumn : GoodIn wsX3_isDouble wsX3_hasColumn := goodIn_r _ [6, 7, 8, 9, 10, 11, 12, 13, 14, 15, 16, 17, 18, 19, 20] (by decide +kernel) (by decide +kernel)
set_option maxRecDepth 20000 in
theorem gX3_isDouble_X3_hasColumn : GoodIn wsX3_isDouble (wsV RX3 49 RX3 yX3_hasColumn wsX3_hasColumn) := goodIn_app (goodIn_of _ (by decide +kernel)) ggX3_isDouble_X3_hasColumn
theorem dX3_isDouble_0 : decode cX3_isDouble 0 = .ok (.iconst 0, 1) := by decide +kernel
theorem dX3_isDouble_1 : decode cX3_isDouble 1 = .ok (.istore_n 2, 1) := by decide +kernel
theorem dX3_isDouble_2 : decode cX3_isDouble 2 = .ok (.iconst 0, 1) := by decide +kernel
theorem dX3_isDouble_3 : decode cX3_isDouble 3 = .ok (.istore_n 3, 1) := by decide +kernel
theorem dX3_isDouble_4 : decode cX3_isDouble 4 = .ok (.iload_n 3, 1) := by decide +kernel
theorem dX3_isDouble_5 : decode cX3_isDouble 5 = .ok (.iload_n 1, 1) := by decide +kernel
theorem dX3_isDouble_6 : decode cX3_isDouble 6 = .ok (.if_icmp .ge 47, 3) := by decide +kernel
theorem dX3_isDouble_9 : decode cX3_isDouble 9 = .ok (.iload_n 2, 1) := by decide +kernel
theorem dX3_isDouble_10 : decode cX3_isDouble 10 = .ok (.aload_n 0, 1) := by decide +kernel
theorem dX3_isDouble_11 : decode cX3_isDouble 11 = .ok (.iconst 3, 1) := by decide +kernel
theorem dX3_isDouble_12 : decode cX3_isDouble 12 = .ok (.iload_n 3, 1) := by decide +kernel
theorem dX3_isDouble_13 : decode cX3_isDouble 13 = .ok (.invokevirtual 49, 3) := by decide +kernel
theorem dX3_isDouble_16 : decode cX3_isDouble 16 = .ok (.ifCond .eq 28, 3) := by decide +kernel
theorem dX3_isDouble_19 : decode cX3_isDouble 19 = .ok (.aload_n 0, 1) := by decide +kernel
theorem dX3_isDouble_20 : decode cX3_isDouble 20 = .ok (.getfield 16, 3) := by decide +kernel
theorem dX3_isDouble_23 : decode cX3_isDouble 23 = .ok (.bipush 24, 2) := by decide +kernel
theorem dX3_isDouble_25 : decode cX3_isDouble 25 = .ok (.iload_n 3, 1) := by decide +kernel
theorem dX3_isDouble_26 : decode cX3_isDouble 26 = .ok (.iadd, 1) := by decide +kernel
theorem dX3_isDouble_27 : decode cX3_isDouble 27 = .ok (.iaload, 1) := by decide +kernel
theorem dX3_isDouble_28 : decode cX3_isDouble 28 = .ok (.aload_n 0, 1) := by decide +kernel
theorem dX3_isDouble_29 : decode cX3_isDouble 29 = .ok (.getfield 16, 3) := by decide +kernel
theorem dX3_isDouble_32 : decode cX3_isDouble 32 = .ok (.bipush 24, 2) := by decide +kernel
theorem dX3_isDouble_34 : decode cX3_isDouble 34 = .ok (.iload_n 1, 1) := by decide +kernel
theorem dX3_isDouble_35 : decode cX3_isDouble 35 = .ok (.iadd, 1) := by decide +kernel
theorem dX3_isDouble_36 : decode cX3_isDouble 36 = .ok (.iaload, 1) := by decide +kernel
theorem dX3_isDouble_37 : decode cX3_isDouble 37 = .ok (.if_icmp .ne 7, 3) := by decide +kernel
theorem dX3_isDouble_40 : decode cX3_isDouble 40 = .ok (.iconst 1, 1) := by decide +kernel
theorem dX3_isDouble_41 : decode cX3_isDouble 41 = .ok (.goto 4, 3) := by decide +kernel
theorem dX3_isDouble_44 : decode cX3_isDouble 44 = .ok (.iconst 0, 1) := by decide +kernel
theorem dX3_isDouble_45 : decode cX3_isDouble 45 = .ok (.ior, 1) := by decide +kernel
theorem dX3_isDouble_46 : decode cX3_isDouble 46 = .ok (.istore_n 2, 1) := by decide +kernel
theorem dX3_isDouble_47 : decode cX3_isDouble 47 = .ok (.iinc 3 1, 3) := by decide +kernel
theorem dX3_isDouble_50 : decode cX3_isDouble 50 = .ok (.goto (-46), 3) := by decide +kernel
theorem dX3_isDouble_53 : decode cX3_isDouble 53 = .ok (.iload_n 2, 1) := by decide +kernel
theorem dX3_isDouble_54 : decode cX3_isDouble 54 = .ok (.ireturn, 1) := by decide +kernel
set_option maxRecDepth 20000 in
theorem ggX3_isLost_X3_at : GoodIn wsX3_isLost wsX3_at := goodIn_r _ [6, 7, 16, 17, 18, 19, 20, 21, 22, 23, 24, 25, 26, 27, 28] (by decide +kernel) (by decide +kernel)
set_option maxRecDepth 20000 in
theorem gX3_isLost_X3_at : GoodIn wsX3_isLost (wsV RX3 74 RX3 yX3_at wsX3_at) := goodIn_app (goodIn_of _ (by decide +kernel)) ggX3_isLost_X3_at
set_option maxRecDepth 20000 in
theorem ggX3_isLost_X3_isIn : GoodIn wsX3_isLost wsX3_isIn := goodIn_r _ [10] (by decide +kernel) (by decide +kernel)
set_option maxRecDepth 20000 in
theorem gX3_isLost_X3_isIn : GoodIn wsX3_isLost (va_wsS RX3 52 yX3_isIn wsX3_isIn) := goodIn_app (goodIn_of _ (by decide +kernel)) ggX3_isLost_X3_isIn
set_option maxRecDepth 20000 in
theorem ggX3_isLost_X3_hasRow : GoodIn wsX3_isLost wsX3_hasRow := goodIn_r _ [14, 15, 16, 17, 18, 19, 20, 21, 22, 23, 24, 25, 26, 27, 28] (by decide +kernel) (by decide +kernel)
set_option maxRecDepth 20000 in
theorem gX3_isLost_X3_hasRow : GoodIn wsX3_isLost (wsV RX3 45 RX3 yX3_hasRow wsX3_hasRow) := goodIn_app (goodIn_of _ (by decide +kernel)) ggX3_isLost_X3_hasRow
theorem dX3_isLost_0 : decode cX3_isLost 0 = .ok (.aload_n 0, 1) := by decide +kernel
theorem dX3_isLost_1 : decode cX3_isLost 1 = .ok (.iconst 3, 1) := by decide +kernel
theorem dX3_isLost_2 : decode cX3_isLost 2 = .ok (.iload_n 1, 1) := by decide +kernel
theorem dX3_isLost_3 : decode cX3_isLost 3 = .ok (.iload_n 2, 1) := by decide +kernel
theorem dX3_isLost_4 : decode cX3_isLost 4 = .ok (.invokevirtual 74, 3) := by decide +kernel
theorem dX3_isLost_7 : decode cX3_isLost 7 = .ok (.istore_n 3, 1) := by decide +kernel
theorem dX3_isLost_8 : decode cX3_isLost 8 = .ok (.aload_n 0, 1) := by decide +kernel
theorem dX3_isLost_9 : decode cX3_isLost 9 = .ok (.getfield 25, 3) := by decide +kernel
theorem dX3_isLost_12 : decode cX3_isLost 12 = .ok (.iload_n 2, 1) := by decide +kernel
theorem dX3_isLost_13 : decode cX3_isLost 13 = .ok (.baload, 1) := by decide +kernel
theorem dX3_isLost_14 : decode cX3_isLost 14 = .ok (.ifCond .eq 31, 3) := by decide +kernel
theorem dX3_isLost_17 : decode cX3_isLost 17 = .ok (.iload_n 3, 1) := by decide +kernel
theorem dX3_isLost_18 : decode cX3_isLost 18 = .ok (.iconst (-1), 1) := by decide +kernel
theorem dX3_isLost_19 : decode cX3_isLost 19 = .ok (.if_icmp .eq 26, 3) := by decide +kernel
theorem dX3_isLost_22 : decode cX3_isLost 22 = .ok (.iload_n 3, 1) := by decide +kernel
theorem dX3_isLost_23 : decode cX3_isLost 23 = .ok (.iconst 0, 1) := by decide +kernel
theorem dX3_isLost_24 : decode cX3_isLost 24 = .ok (.bipush 23, 2) := by decide +kernel
theorem dX3_isLost_26 : decode cX3_isLost 26 = .ok (.invokestatic 52, 3) := by decide +kernel
theorem dX3_isLost_29 : decode cX3_isLost 29 = .ok (.ifCond .eq 12, 3) := by decide +kernel
theorem dX3_isLost_32 : decode cX3_isLost 32 = .ok (.aload_n 0, 1) := by decide +kernel
theorem dX3_isLost_33 : decode cX3_isLost 33 = .ok (.iconst 3, 1) := by decide +kernel
theorem dX3_isLost_34 : decode cX3_isLost 34 = .ok (.iload_n 3, 1) := by decide +kernel
theorem dX3_isLost_35 : decode cX3_isLost 35 = .ok (.invokevirtual 45, 3) := by decide +kernel
theorem dX3_isLost_38 : decode cX3_isLost 38 = .ok (.ifCond .ne 7, 3) := by decide +kernel
theorem dX3_isLost_41 : decode cX3_isLost 41 = .ok (.iconst 1, 1) := by decide +kernel
theorem dX3_isLost_42 : decode cX3_isLost 42 = .ok (.goto 4, 3) := by decide +kernel
theorem dX3_isLost_45 : decode cX3_isLost 45 = .ok (.iconst 0, 1) := by decide +kernel
theorem dX3_isLost_46 : decode cX3_isLost 46 = .ok (.ireturn, 1) := by decide +kernel
set_option maxRecDepth 20000 in
theorem ggX3_merge_X3_fills : GoodIn wsX3_merge wsX3_fills := goodIn_r _ [10, 11, 12, 13, 14, 15, 16, 9, 17, 18, 19, 20, 21, 22, 23, 24, 25, 26, 27, 28, 29, 30, 31, 32, 33, 34, 35, 36, 37, 38, 39, 40, 41, 42, 43, 44, 45, 3, 46, 47, 48, 49, 50, 51, 52, 53, 54, 55, 56, 57, 2, 58, 59, 60, 61, 62, 63, 64, 65, 66, 67, 68, 89, 90, 91, 92, 93, 94, 95, 96, 97, 98, 99, 100, 101] (by decide +kernel) (by decide +kernel)
set_option maxRecDepth 20000 in
theorem gX3_merge_X3_fills : GoodIn wsX3_merge (wsV RX3 113 RX3 yX3_fills wsX3_fills) := goodIn_app (goodIn_of _ (by decide +kernel)) ggX3_merge_X3_fills
set_option maxRecDepth 20000 in
theorem ggX3_merge_X3_hasCell : GoodIn wsX3_merge wsX3_hasCell := goodIn_r _ [37, 38, 39, 40, 9, 41, 12, 18, 19, 20, 21, 11, 89, 90, 91, 92, 93, 94, 95, 96, 97, 98, 99, 100, 101] (by decide +kernel) (by decide +kernel)
set_option maxRecDepth 20000 in
theorem gX3_merge_X3_hasCell : GoodIn wsX3_merge (wsV RX3 67 RX3 yX3_hasCell wsX3_hasCell) := goodIn_app (goodIn_of _ (by decide +kernel)) ggX3_merge_X3_hasCell
set_option maxRecDepth 20000 in
theorem ggX3_merge_X3_mergedCell : GoodIn wsX3_merge wsX3_mergedCell := goodIn_r _ [72, 4, 34, 35, 36, 9, 37, 38, 39, 40, 41, 12, 18, 19, 20, 21, 11, 42, 43, 44, 45, 3, 73, 74, 75, 76, 89, 90, 91, 92, 93, 94, 95, 96, 97, 98, 99, 100, 101] (by decide +kernel) (by decide +kernel)
set_option maxRecDepth 20000 in
theorem gX3_merge_X3_mergedCell : GoodIn wsX3_merge (wsV RX3 116 RX3 yX3_mergedCell wsX3_mergedCell) := goodIn_app (goodIn_of _ (by decide +kernel)) ggX3_merge_X3_mergedCell
set_option maxRecDepth 20000 in
theorem ggX3_merge_X3_atOdds : GoodIn wsX3_merge wsX3_atOdds := goodIn_r _ [76, 4, 34, 35, 36, 9, 37, 38, 39, 40, 41, 12, 18, 19, 20, 21, 11, 42, 43, 44, 45, 3, 89, 90, 91, 92, 93, 94, 95, 96, 97, 98, 99, 100, 101] (by decide +kernel) (by decide +kernel)
set_option maxRecDepth 20000 in
theorem gX3_merge_X3_atOdds : GoodIn wsX3_merge (wsV RX3 94 RX3 yX3_atOdds wsX3_atOdds) := goodIn_app (goodIn_of _ (by decide +kernel)) ggX3_merge_X3_atOdds
set_option maxRecDepth 20000 in
theorem ggX3_merge_X3_lists : GoodIn wsX3_merge wsX3_lists := goodIn_r _ [56, 57, 2, 58, 59, 60, 89, 90, 91, 92, 93, 94, 95, 96, 97, 98, 99, 100, 101] (by decide +kernel) (by decide +kernel)
set_option maxRecDepth 20000 in
theorem gX3_merge_X3_lists : GoodIn wsX3_merge (wsV RX3 106 RX3 yX3_lists wsX3_lists) := goodIn_app (goodIn_of _ (by decide +kernel)) ggX3_merge_X3_lists
set_option maxRecDepth 20000 in
theorem ggX3_merge_X3_hasColumn : GoodIn wsX3_merge wsX3_hasColumn := goodIn_r _ [21, 11, 89, 90, 91, 92, 93, 94, 95, 96, 97, 98, 99, 100, 101] (by decide +kernel) (by decide +kernel)
set_option maxRecDepth 20000 in
theorem gX3_merge_X3_hasColumn : GoodIn wsX3_merge (wsV RX3 49 RX3 yX3_hasColumn wsX3_hasColumn) := goodIn_app (goodIn_of _ (by decide +kernel)) ggX3_merge_X3_hasColumn
set_option maxRecDepth 20000 in
theorem ggX3_merge_X3_isDouble : GoodIn wsX3_merge wsX3_isDouble := goodIn_r _ [80, 13, 18, 19, 20, 9, 21, 11, 89, 90, 91, 92, 93, 94, 95, 96, 97, 98, 99, 100, 101] (by decide +kernel) (by decide +kernel)
set_option maxRecDepth 20000 in
theorem gX3_merge_X3_isDouble : GoodIn wsX3_merge (wsV RX3 120 RX3 yX3_isDouble wsX3_isDouble) := goodIn_app (goodIn_of _ (by decide +kernel)) ggX3_merge_X3_isDouble
set_option maxRecDepth 20000 in
theorem ggX3_merge_X3_isLost : GoodIn wsX3_merge wsX3_isLost := goodIn_r _ [84, 85, 42, 43, 44, 9, 45, 3, 86, 87, 88, 38, 39, 40, 41, 12, 89, 90, 91, 92, 93, 94, 95, 96, 97, 98, 99, 100, 101] (by decide +kernel) (by decide +kernel)
set_option maxRecDepth 20000 in
theorem gX3_merge_X3_isLost : GoodIn wsX3_merge (wsV RX3 124 RX3 yX3_isLost wsX3_isLost) := goodIn_app (goodIn_of _ (by decide +kernel)) ggX3_merge_X3_isLost
theorem dX3_merge_0 : decode cX3_merge 0 = .ok (.aload_n 0, 1) := by decide +kernel
theorem dX3_merge_1 : decode cX3_merge 1 = .ok (.iconst 0, 1) := by decide +kernel
theorem dX3_merge_2 : decode cX3_merge 2 = .ok (.putfield 41, 3) := by decide +kernel
theorem dX3_merge_5 : decode cX3_merge 5 = .ok (.aload_n 0, 1) := by decide +kernel
theorem dX3_merge_6 : decode cX3_merge 6 = .ok (.iconst 0, 1) := by decide +kernel
theorem dX3_merge_7 : decode cX3_merge 7 = .ok (.putfield 97, 3) := by decide +kernel
theorem dX3_merge_10 : decode cX3_merge 10 = .ok (.aload_n 0, 1) := by decide +kernel
theorem dX3_merge_11 : decode cX3_merge 11 = .ok (.invokevirtual 113, 3) := by decide +kernel
theorem dX3_merge_14 : decode cX3_merge 14 = .ok (.iconst 0, 1) := by decide +kernel
theorem dX3_merge_15 : decode cX3_merge 15 = .ok (.istore_n 1, 1) := by decide +kernel
theorem dX3_merge_16 : decode cX3_merge 16 = .ok (.iload_n 1, 1) := by decide +kernel
theorem dX3_merge_17 : decode cX3_merge 17 = .ok (.sipush 192, 3) := by decide +kernel
theorem dX3_merge_20 : decode cX3_merge 20 = .ok (.if_icmp .ge 87, 3) := by decide +kernel
theorem dX3_merge_23 : decode cX3_merge 23 = .ok (.aload_n 0, 1) := by decide +kernel
theorem dX3_merge_24 : decode cX3_merge 24 = .ok (.iconst 3, 1) := by decide +kernel
theorem dX3_merge_25 : decode cX3_merge 25 = .ok (.iload_n 1, 1) := by decide +kernel
theorem dX3_merge_26 : decode cX3_merge 26 = .ok (.bipush 8, 2) := by decide +kernel
theorem dX3_merge_28 : decode cX3_merge 28 = .ok (.idiv, 1) := by decide +kernel
theorem dX3_merge_29 : decode cX3_merge 29 = .ok (.iload_n 1, 1) := by decide +kernel
theorem dX3_merge_30 : decode cX3_merge 30 = .ok (.bipush 8, 2) := by decide +kernel
theorem dX3_merge_32 : decode cX3_merge 32 = .ok (.irem, 1) := by decide +kernel
theorem dX3_merge_33 : decode cX3_merge 33 = .ok (.invokevirtual 67, 3) := by decide +kernel
theorem dX3_merge_36 : decode cX3_merge 36 = .ok (.ifCond .eq 65, 3) := by decide +kernel
theorem dX3_merge_39 : decode cX3_merge 39 = .ok (.aload_n 0, 1) := by decide +kernel
theorem dX3_merge_40 : decode cX3_merge 40 = .ok (.getfield 19, 3) := by decide +kernel
theorem dX3_merge_43 : decode cX3_merge 43 = .ok (.sipush 576, 3) := by decide +kernel
theorem dX3_merge_46 : decode cX3_merge 46 = .ok (.iload_n 1, 1) := by decide +kernel
theorem dX3_merge_47 : decode cX3_merge 47 = .ok (.iadd, 1) := by decide +kernel
theorem dX3_merge_48 : decode cX3_merge 48 = .ok (.aload_n 0, 1) := by decide +kernel
theorem dX3_merge_49 : decode cX3_merge 49 = .ok (.iload_n 1, 1) := by decide +kernel
theorem dX3_merge_50 : decode cX3_merge 50 = .ok (.bipush 8, 2) := by decide +kernel
theorem dX3_merge_52 : decode cX3_merge 52 = .ok (.idiv, 1) := by decide +kernel
theorem dX3_merge_53 : decode cX3_merge 53 = .ok (.iload_n 1, 1) := by decide +kernel
theorem dX3_merge_54 : decode cX3_merge 54 = .ok (.bipush 8, 2) := by decide +kernel
theorem dX3_merge_56 : decode cX3_merge 56 = .ok (.irem, 1) := by decide +kernel
theorem dX3_merge_57 : decode cX3_merge 57 = .ok (.invokevirtual 116, 3) := by decide +kernel
theorem dX3_merge_60 : decode cX3_merge 60 = .ok (.iastore, 1) := by decide +kernel
theorem dX3_merge_61 : decode cX3_merge 61 = .ok (.aload_n 0, 1) := by decide +kernel
theorem dX3_merge_62 : decode cX3_merge 62 = .ok (.getfield 22, 3) := by decide +kernel
theorem dX3_merge_65 : decode cX3_merge 65 = .ok (.iload_n 1, 1) := by decide +kernel
theorem dX3_merge_66 : decode cX3_merge 66 = .ok (.bipush 8, 2) := by decide +kernel
theorem dX3_merge_68 : decode cX3_merge 68 = .ok (.irem, 1) := by decide +kernel
theorem dX3_merge_69 : decode cX3_merge 69 = .ok (.iaload, 1) := by decide +kernel
theorem dX3_merge_70 : decode cX3_merge 70 = .ok (.ifCond .ne 31, 3) := by decide +kernel
theorem dX3_merge_73 : decode cX3_merge 73 = .ok (.aload_n 0, 1) := by decide +kernel
theorem dX3_merge_74 : decode cX3_merge 74 = .ok (.iload_n 1, 1) := by decide +kernel
theorem dX3_merge_75 : decode cX3_merge 75 = .ok (.bipush 8, 2) := by decide +kernel
theorem dX3_merge_77 : decode cX3_merge 77 = .ok (.idiv, 1) := by decide +kernel
theorem dX3_merge_78 : decode cX3_merge 78 = .ok (.iload_n 1, 1) := by decide +kernel
theorem dX3_merge_79 : decode cX3_merge 79 = .ok (.bipush 8, 2) := by decide +kernel
theorem dX3_merge_81 : decode cX3_merge 81 = .ok (.irem, 1) := by decide +kernel
theorem dX3_merge_82 : decode cX3_merge 82 = .ok (.invokevirtual 94, 3) := by decide +kernel
theorem dX3_merge_85 : decode cX3_merge 85 = .ok (.ifCond .eq 16, 3) := by decide +kernel
theorem dX3_merge_88 : decode cX3_merge 88 = .ok (.aload_n 0, 1) := by decide +kernel
theorem dX3_merge_89 : decode cX3_merge 89 = .ok (.iconst 1, 1) := by decide +kernel
theorem dX3_merge_90 : decode cX3_merge 90 = .ok (.iload_n 1, 1) := by decide +kernel
theorem dX3_merge_91 : decode cX3_merge 91 = .ok (.bipush 8, 2) := by decide +kernel
theorem dX3_merge_93 : decode cX3_merge 93 = .ok (.idiv, 1) := by decide +kernel
theorem dX3_merge_94 : decode cX3_merge 94 = .ok (.iload_n 1, 1) := by decide +kernel
theorem dX3_merge_95 : decode cX3_merge 95 = .ok (.bipush 8, 2) := by decide +kernel
theorem dX3_merge_97 : decode cX3_merge 97 = .ok (.irem, 1) := by decide +kernel
theorem dX3_merge_98 : decode cX3_merge 98 = .ok (.invokevirtual 106, 3) := by decide +kernel
theorem dX3_merge_101 : decode cX3_merge 101 = .ok (.iinc 1 1, 3) := by decide +kernel
theorem dX3_merge_104 : decode cX3_merge 104 = .ok (.goto (-88), 3) := by decide +kernel
theorem dX3_merge_107 : decode cX3_merge 107 = .ok (.iconst 0, 1) := by decide +kernel
theorem dX3_merge_108 : decode cX3_merge 108 = .ok (.istore_n 1, 1) := by decide +kernel
theorem dX3_merge_109 : decode cX3_merge 109 = .ok (.iload_n 1, 1) := by decide +kernel
theorem dX3_merge_110 : decode cX3_merge 110 = .ok (.bipush 8, 2) := by decide +kernel
theorem dX3_merge_112 : decode cX3_merge 112 = .ok (.if_icmp .ge 33, 3) := by decide +kernel
theorem dX3_merge_115 : decode cX3_merge 115 = .ok (.aload_n 0, 1) := by decide +kernel
theorem dX3_merge_116 : decode cX3_merge 116 = .ok (.iconst 3, 1) := by decide +kernel
theorem dX3_merge_117 : decode cX3_merge 117 = .ok (.iload_n 1, 1) := by decide +kernel
theorem dX3_merge_118 : decode cX3_merge 118 = .ok (.invokevirtual 49, 3) := by decide +kernel
theorem dX3_merge_121 : decode cX3_merge 121 = .ok (.ifCond .eq 18, 3) := by decide +kernel
theorem dX3_merge_124 : decode cX3_merge 124 = .ok (.aload_n 0, 1) := by decide +kernel
theorem dX3_merge_125 : decode cX3_merge 125 = .ok (.iload_n 1, 1) := by decide +kernel
theorem dX3_merge_126 : decode cX3_merge 126 = .ok (.invokevirtual 120, 3) := by decide +kernel
theorem dX3_merge_129 : decode cX3_merge 129 = .ok (.ifCond .eq 10, 3) := by decide +kernel
theorem dX3_merge_132 : decode cX3_merge 132 = .ok (.aload_n 0, 1) := by decide +kernel
theorem dX3_merge_133 : decode cX3_merge 133 = .ok (.iconst 5, 1) := by decide +kernel
theorem dX3_merge_134 : decode cX3_merge 134 = .ok (.iconst (-1), 1) := by decide +kernel
theorem dX3_merge_135 : decode cX3_merge 135 = .ok (.iload_n 1, 1) := by decide +kernel
theorem dX3_merge_136 : decode cX3_merge 136 = .ok (.invokevirtual 106, 3) := by decide +kernel
theorem dX3_merge_139 : decode cX3_merge 139 = .ok (.iinc 1 1, 3) := by decide +kernel
theorem dX3_merge_142 : decode cX3_merge 142 = .ok (.goto (-33), 3) := by decide +kernel
theorem dX3_merge_145 : decode cX3_merge 145 = .ok (.iconst 0, 1) := by decide +kernel
theorem dX3_merge_146 : decode cX3_merge 146 = .ok (.istore_n 1, 1) := by decide +kernel
theorem dX3_merge_147 : decode cX3_merge 147 = .ok (.iload_n 1, 1) := by decide +kernel
theorem dX3_merge_148 : decode cX3_merge 148 = .ok (.sipush 192, 3) := by decide +kernel
theorem dX3_merge_151 : decode cX3_merge 151 = .ok (.if_icmp .ge 54, 3) := by decide +kernel
theorem dX3_merge_154 : decode cX3_merge 154 = .ok (.aload_n 0, 1) := by decide +kernel
theorem dX3_merge_155 : decode cX3_merge 155 = .ok (.iconst 3, 1) := by decide +kernel
theorem dX3_merge_156 : decode cX3_merge 156 = .ok (.iload_n 1, 1) := by decide +kernel
theorem dX3_merge_157 : decode cX3_merge 157 = .ok (.bipush 8, 2) := by decide +kernel
theorem dX3_merge_159 : decode cX3_merge 159 = .ok (.idiv, 1) := by decide +kernel
theorem dX3_merge_160 : decode cX3_merge 160 = .ok (.iload_n 1, 1) := by decide +kernel
theorem dX3_merge_161 : decode cX3_merge 161 = .ok (.bipush 8, 2) := by decide +kernel
theorem dX3_merge_163 : decode cX3_merge 163 = .ok (.irem, 1) := by decide +kernel
theorem dX3_merge_164 : decode cX3_merge 164 = .ok (.invokevirtual 67, 3) := by decide +kernel
theorem dX3_merge_167 : decode cX3_merge 167 = .ok (.ifCond .eq 32, 3) := by decide +kernel
theorem dX3_merge_170 : decode cX3_merge 170 = .ok (.aload_n 0, 1) := by decide +kernel
theorem dX3_merge_171 : decode cX3_merge 171 = .ok (.iload_n 1, 1) := by decide +kernel
theorem dX3_merge_172 : decode cX3_merge 172 = .ok (.bipush 8, 2) := by decide +kernel
theorem dX3_merge_174 : decode cX3_merge 174 = .ok (.idiv, 1) := by decide +kernel
theorem dX3_merge_175 : decode cX3_merge 175 = .ok (.iload_n 1, 1) := by decide +kernel
theorem dX3_merge_176 : decode cX3_merge 176 = .ok (.bipush 8, 2) := by decide +kernel
theorem dX3_merge_178 : decode cX3_merge 178 = .ok (.irem, 1) := by decide +kernel
theorem dX3_merge_179 : decode cX3_merge 179 = .ok (.invokevirtual 124, 3) := by decide +kernel
theorem dX3_merge_182 : decode cX3_merge 182 = .ok (.ifCond .eq 17, 3) := by decide +kernel
theorem dX3_merge_185 : decode cX3_merge 185 = .ok (.aload_n 0, 1) := by decide +kernel
theorem dX3_merge_186 : decode cX3_merge 186 = .ok (.bipush 6, 2) := by decide +kernel
theorem dX3_merge_188 : decode cX3_merge 188 = .ok (.iload_n 1, 1) := by decide +kernel
theorem dX3_merge_189 : decode cX3_merge 189 = .ok (.bipush 8, 2) := by decide +kernel
theorem dX3_merge_191 : decode cX3_merge 191 = .ok (.idiv, 1) := by decide +kernel
theorem dX3_merge_192 : decode cX3_merge 192 = .ok (.iload_n 1, 1) := by decide +kernel
theorem dX3_merge_193 : decode cX3_merge 193 = .ok (.bipush 8, 2) := by decide +kernel
theorem dX3_merge_195 : decode cX3_merge 195 = .ok (.irem, 1) := by decide +kernel
theorem dX3_merge_196 : decode cX3_merge 196 = .ok (.invokevirtual 106, 3) := by decide +kernel
theorem dX3_merge_199 : decode cX3_merge 199 = .ok (.iinc 1 1, 3) := by decide +kernel
theorem dX3_merge_202 : decode cX3_merge 202 = .ok (.goto (-55), 3) := by decide +kernel
theorem dX3_merge_205 : decode cX3_merge 205 = .ok (.aload_n 0, 1) := by decide +kernel
theorem dX3_merge_206 : decode cX3_merge 206 = .ok (.iconst 1, 1) := by decide +kernel
theorem dX3_merge_207 : decode cX3_merge 207 = .ok (.putfield 56, 3) := by decide +kernel
theorem dX3_merge_210 : decode cX3_merge 210 = .ok (.aload_n 0, 1) := by decide +kernel
theorem dX3_merge_211 : decode cX3_merge 211 = .ok (.getfield 97, 3) := by decide +kernel
theorem dX3_merge_214 : decode cX3_merge 214 = .ok (.ireturn, 1) := by decide +kernel
theorem dX3_copies_0 : decode cX3_copies 0 = .ok (.aload_n 0, 1) := by decide +kernel
theorem dX3_copies_1 : decode cX3_copies 1 = .ok (.getfield 7, 3) := by decide +kernel
theorem dX3_copies_4 : decode cX3_copies 4 = .ok (.iload_n 2, 1) := by decide +kernel
theorem dX3_copies_5 : decode cX3_copies 5 = .ok (.aload_n 0, 1) := by decide +kernel
theorem dX3_copies_6 : decode cX3_copies 6 = .ok (.getfield 7, 3) := by decide +kernel
theorem dX3_copies_9 : decode cX3_copies 9 = .ok (.iload_n 1, 1) := by decide +kernel
theorem dX3_copies_10 : decode cX3_copies 10 = .ok (.iaload, 1) := by decide +kernel
theorem dX3_copies_11 : decode cX3_copies 11 = .ok (.iastore, 1) := by decide +kernel
theorem dX3_copies_12 : decode cX3_copies 12 = .ok (.aload_n 0, 1) := by decide +kernel
theorem dX3_copies_13 : decode cX3_copies 13 = .ok (.getfield 13, 3) := by decide +kernel
theorem dX3_copies_16 : decode cX3_copies 16 = .ok (.iload_n 2, 1) := by decide +kernel
theorem dX3_copies_17 : decode cX3_copies 17 = .ok (.aload_n 0, 1) := by decide +kernel
theorem dX3_copies_18 : decode cX3_copies 18 = .ok (.getfield 13, 3) := by decide +kernel
theorem dX3_copies_21 : decode cX3_copies 21 = .ok (.iload_n 1, 1) := by decide +kernel
theorem dX3_copies_22 : decode cX3_copies 22 = .ok (.iaload, 1) := by decide +kernel
theorem dX3_copies_23 : decode cX3_copies 23 = .ok (.iastore, 1) := by decide +kernel
theorem dX3_copies_24 : decode cX3_copies 24 = .ok (.iconst 0, 1) := by decide +kernel
theorem dX3_copies_25 : decode cX3_copies 25 = .ok (.istore_n 3, 1) := by decide +kernel
theorem dX3_copies_26 : decode cX3_copies 26 = .ok (.iload_n 3, 1) := by decide +kernel
theorem dX3_copies_27 : decode cX3_copies 27 = .ok (.bipush 8, 2) := by decide +kernel
theorem dX3_copies_29 : decode cX3_copies 29 = .ok (.if_icmp .ge 31, 3) := by decide +kernel
theorem dX3_copies_32 : decode cX3_copies 32 = .ok (.aload_n 0, 1) := by decide +kernel
theorem dX3_copies_33 : decode cX3_copies 33 = .ok (.getfield 16, 3) := by decide +kernel
theorem dX3_copies_36 : decode cX3_copies 36 = .ok (.bipush 8, 2) := by decide +kernel
theorem dX3_copies_38 : decode cX3_copies 38 = .ok (.iload_n 2, 1) := by decide +kernel
theorem dX3_copies_39 : decode cX3_copies 39 = .ok (.imul, 1) := by decide +kernel
theorem dX3_copies_40 : decode cX3_copies 40 = .ok (.iload_n 3, 1) := by decide +kernel
theorem dX3_copies_41 : decode cX3_copies 41 = .ok (.iadd, 1) := by decide +kernel
theorem dX3_copies_42 : decode cX3_copies 42 = .ok (.aload_n 0, 1) := by decide +kernel
theorem dX3_copies_43 : decode cX3_copies 43 = .ok (.getfield 16, 3) := by decide +kernel
theorem dX3_copies_46 : decode cX3_copies 46 = .ok (.bipush 8, 2) := by decide +kernel
theorem dX3_copies_48 : decode cX3_copies 48 = .ok (.iload_n 1, 1) := by decide +kernel
theorem dX3_copies_49 : decode cX3_copies 49 = .ok (.imul, 1) := by decide +kernel
theorem dX3_copies_50 : decode cX3_copies 50 = .ok (.iload_n 3, 1) := by decide +kernel
theorem dX3_copies_51 : decode cX3_copies 51 = .ok (.iadd, 1) := by decide +kernel
theorem dX3_copies_52 : decode cX3_copies 52 = .ok (.iaload, 1) := by decide +kernel
theorem dX3_copies_53 : decode cX3_copies 53 = .ok (.iastore, 1) := by decide +kernel
theorem dX3_copies_54 : decode cX3_copies 54 = .ok (.iinc 3 1, 3) := by decide +kernel
theorem dX3_copies_57 : decode cX3_copies 57 = .ok (.goto (-31), 3) := by decide +kernel
theorem dX3_copies_60 : decode cX3_copies 60 = .ok (.iconst 0, 1) := by decide +kernel
theorem dX3_copies_61 : decode cX3_copies 61 = .ok (.istore_n 3, 1) := by decide +kernel
theorem dX3_copies_62 : decode cX3_copies 62 = .ok (.iload_n 3, 1) := by decide +kernel
theorem dX3_copies_63 : decode cX3_copies 63 = .ok (.sipush 192, 3) := by decide +kernel
theorem dX3_copies_66 : decode cX3_copies 66 = .ok (.if_icmp .ge 33, 3) := by decide +kernel
theorem dX3_copies_69 : decode cX3_copies 69 = .ok (.aload_n 0, 1) := by decide +kernel
theorem dX3_copies_70 : decode cX3_copies 70 = .ok (.getfield 19, 3) := by decide +kernel
theorem dX3_copies_73 : decode cX3_copies 73 = .ok (.sipush 192, 3) := by decide +kernel
theorem dX3_copies_76 : decode cX3_copies 76 = .ok (.iload_n 2, 1) := by decide +kernel
theorem dX3_copies_77 : decode cX3_copies 77 = .ok (.imul, 1) := by decide +kernel
theorem dX3_copies_78 : decode cX3_copies 78 = .ok (.iload_n 3, 1) := by decide +kernel
theorem dX3_copies_79 : decode cX3_copies 79 = .ok (.iadd, 1) := by decide +kernel
theorem dX3_copies_80 : decode cX3_copies 80 = .ok (.aload_n 0, 1) := by decide +kernel
theorem dX3_copies_81 : decode cX3_copies 81 = .ok (.getfield 19, 3) := by decide +kernel
theorem dX3_copies_84 : decode cX3_copies 84 = .ok (.sipush 192, 3) := by decide +kernel
theorem dX3_copies_87 : decode cX3_copies 87 = .ok (.iload_n 1, 1) := by decide +kernel
theorem dX3_copies_88 : decode cX3_copies 88 = .ok (.imul, 1) := by decide +kernel
theorem dX3_copies_89 : decode cX3_copies 89 = .ok (.iload_n 3, 1) := by decide +kernel
theorem dX3_copies_90 : decode cX3_copies 90 = .ok (.iadd, 1) := by decide +kernel
theorem dX3_copies_91 : decode cX3_copies 91 = .ok (.iaload, 1) := by decide +kernel
theorem dX3_copies_92 : decode cX3_copies 92 = .ok (.iastore, 1) := by decide +kernel
theorem dX3_copies_93 : decode cX3_copies 93 = .ok (.iinc 3 1, 3) := by decide +kernel
theorem dX3_copies_96 : decode cX3_copies 96 = .ok (.goto (-34), 3) := by decide +kernel
theorem dX3_copies_99 : decode cX3_copies 99 = .ok (.return_, 1) := by decide +kernel
set_option maxRecDepth 20000 in
theorem ggX3_forks_X3_copies : GoodIn wsX3_forks wsX3_copies := goodIn_r _ [9, 1, 2, 10, 11, 15, 16, 17, 18, 19, 20, 21, 22, 23, 24, 25, 26, 27] (by decide +kernel) (by decide +kernel)
set_option maxRecDepth 20000 in
theorem gX3_forks_X3_copies : GoodIn wsX3_forks (wsV RX3 127 RX3 yX3_copies wsX3_copies) := goodIn_app (goodIn_of _ (by decide +kernel)) ggX3_forks_X3_copies
set_option maxRecDepth 20000 in
theorem ggX3_forks_X3_count : GoodIn wsX3_forks wsX3_count := goodIn_r _ [14] (by decide +kernel) (by decide +kernel)
set_option maxRecDepth 20000 in
theorem gX3_forks_X3_count : GoodIn wsX3_forks (va_wsS RX3 60 yX3_count wsX3_count) := goodIn_app (goodIn_of _ (by decide +kernel)) ggX3_forks_X3_count
theorem dX3_forks_0 : decode cX3_forks 0 = .ok (.aload_n 0, 1) := by decide +kernel
theorem dX3_forks_1 : decode cX3_forks 1 = .ok (.iconst 0, 1) := by decide +kernel
theorem dX3_forks_2 : decode cX3_forks 2 = .ok (.iconst 1, 1) := by decide +kernel
theorem dX3_forks_3 : decode cX3_forks 3 = .ok (.invokevirtual 127, 3) := by decide +kernel
theorem dX3_forks_6 : decode cX3_forks 6 = .ok (.aload_n 0, 1) := by decide +kernel
theorem dX3_forks_7 : decode cX3_forks 7 = .ok (.iconst 0, 1) := by decide +kernel
theorem dX3_forks_8 : decode cX3_forks 8 = .ok (.iconst 2, 1) := by decide +kernel
theorem dX3_forks_9 : decode cX3_forks 9 = .ok (.invokevirtual 127, 3) := by decide +kernel
theorem dX3_forks_12 : decode cX3_forks 12 = .ok (.aload_n 0, 1) := by decide +kernel
theorem dX3_forks_13 : decode cX3_forks 13 = .ok (.getfield 7, 3) := by decide +kernel
theorem dX3_forks_16 : decode cX3_forks 16 = .ok (.iconst 3, 1) := by decide +kernel
theorem dX3_forks_17 : decode cX3_forks 17 = .ok (.iconst 0, 1) := by decide +kernel
theorem dX3_forks_18 : decode cX3_forks 18 = .ok (.iastore, 1) := by decide +kernel
theorem dX3_forks_19 : decode cX3_forks 19 = .ok (.aload_n 0, 1) := by decide +kernel
theorem dX3_forks_20 : decode cX3_forks 20 = .ok (.getfield 13, 3) := by decide +kernel
theorem dX3_forks_23 : decode cX3_forks 23 = .ok (.iconst 3, 1) := by decide +kernel
theorem dX3_forks_24 : decode cX3_forks 24 = .ok (.iconst 0, 1) := by decide +kernel
theorem dX3_forks_25 : decode cX3_forks 25 = .ok (.iastore, 1) := by decide +kernel
theorem dX3_forks_26 : decode cX3_forks 26 = .ok (.aload_n 0, 1) := by decide +kernel
theorem dX3_forks_27 : decode cX3_forks 27 = .ok (.iconst 0, 1) := by decide +kernel
theorem dX3_forks_28 : decode cX3_forks 28 = .ok (.putfield 97, 3) := by decide +kernel
theorem dX3_forks_31 : decode cX3_forks 31 = .ok (.aload_n 0, 1) := by decide +kernel
theorem dX3_forks_32 : decode cX3_forks 32 = .ok (.iconst 0, 1) := by decide +kernel
theorem dX3_forks_33 : decode cX3_forks 33 = .ok (.putfield 56, 3) := by decide +kernel
theorem dX3_forks_36 : decode cX3_forks 36 = .ok (.aload_n 0, 1) := by decide +kernel
theorem dX3_forks_37 : decode cX3_forks 37 = .ok (.getfield 7, 3) := by decide +kernel
theorem dX3_forks_40 : decode cX3_forks 40 = .ok (.iconst 0, 1) := by decide +kernel
theorem dX3_forks_41 : decode cX3_forks 41 = .ok (.iaload, 1) := by decide +kernel
theorem dX3_forks_42 : decode cX3_forks 42 = .ok (.invokestatic 60, 3) := by decide +kernel
theorem dX3_forks_45 : decode cX3_forks 45 = .ok (.aload_n 0, 1) := by decide +kernel
theorem dX3_forks_46 : decode cX3_forks 46 = .ok (.getfield 13, 3) := by decide +kernel
theorem dX3_forks_49 : decode cX3_forks 49 = .ok (.iconst 0, 1) := by decide +kernel
theorem dX3_forks_50 : decode cX3_forks 50 = .ok (.iaload, 1) := by decide +kernel
theorem dX3_forks_51 : decode cX3_forks 51 = .ok (.invokestatic 60, 3) := by decide +kernel
theorem dX3_forks_54 : decode cX3_forks 54 = .ok (.imul, 1) := by decide +kernel
theorem dX3_forks_55 : decode cX3_forks 55 = .ok (.ireturn, 1) := by decide +kernel
set_option maxRecDepth 20000 in
theorem ggX3_fork_X3_forks : GoodIn wsX3_fork wsX3_forks := goodIn_r _ [6, 7, 8, 9, 10, 11, 12, 13, 5, 14, 15, 16, 17, 18, 19, 20, 21, 22, 23, 24, 25, 26, 27, 28, 29, 30, 31, 32] (by decide +kernel) (by decide +kernel)
set_option maxRecDepth 20000 in
theorem gX3_fork_X3_forks : GoodIn wsX3_fork (wsV RX3 131 RX3 yX3_forks wsX3_forks) := goodIn_app (goodIn_of _ (by decide +kernel)) ggX3_fork_X3_forks
theorem dX3_fork_0 : decode cX3_fork 0 = .ok (.aload_n 0, 1) := by decide +kernel
theorem dX3_fork_1 : decode cX3_fork 1 = .ok (.iconst 0, 1) := by decide +kernel
theorem dX3_fork_2 : decode cX3_fork 2 = .ok (.putfield 41, 3) := by decide +kernel
theorem dX3_fork_5 : decode cX3_fork 5 = .ok (.aload_n 0, 1) := by decide +kernel
theorem dX3_fork_6 : decode cX3_fork 6 = .ok (.invokevirtual 131, 3) := by decide +kernel
theorem dX3_fork_9 : decode cX3_fork 9 = .ok (.ireturn, 1) := by decide +kernel
set_option maxRecDepth 20000 in
theorem ggX3_accept_X3_left : GoodIn wsX3_accept wsX3_left := goodIn_r _ [7, 8, 9, 25, 26, 27, 28, 29, 30, 31, 32, 33, 34, 35, 36, 37] (by decide +kernel) (by decide +kernel)
set_option maxRecDepth 20000 in
theorem gX3_accept_X3_left : GoodIn wsX3_accept (wsV RX3 135 RX3 yX3_left wsX3_left) := goodIn_app (goodIn_of _ (by decide +kernel)) ggX3_accept_X3_left
set_option maxRecDepth 20000 in
theorem ggX3_accept_X3_copies : GoodIn wsX3_accept wsX3_copies := goodIn_r _ [13, 14, 15, 16, 17, 25, 26, 27, 28, 29, 30, 31, 32, 33, 34, 35, 36, 37] (by decide +kernel) (by decide +kernel)
set_option maxRecDepth 20000 in
theorem gX3_accept_X3_copies : GoodIn wsX3_accept (wsV RX3 127 RX3 yX3_copies wsX3_copies) := goodIn_app (goodIn_of _ (by decide +kernel)) ggX3_accept_X3_copies
set_option maxRecDepth 20000 in
theorem ggX3_accept_X3_forks : GoodIn wsX3_accept wsX3_forks := goodIn_r _ [21, 14, 15, 8, 1, 10, 11, 12, 6, 13, 16, 17, 22, 23, 24, 25, 26, 27, 28, 29, 30, 31, 32, 33, 34, 35, 36, 37] (by decide +kernel) (by decide +kernel)
set_option maxRecDepth 20000 in
theorem gX3_accept_X3_forks : GoodIn wsX3_accept (wsV RX3 131 RX3 yX3_forks wsX3_forks) := goodIn_app (goodIn_of _ (by decide +kernel)) ggX3_accept_X3_forks
theorem dX3_accept_0 : decode cX3_accept 0 = .ok (.aload_n 0, 1) := by decide +kernel
theorem dX3_accept_1 : decode cX3_accept 1 = .ok (.aload_n 0, 1) := by decide +kernel
theorem dX3_accept_2 : decode cX3_accept 2 = .ok (.getfield 56, 3) := by decide +kernel
theorem dX3_accept_5 : decode cX3_accept 5 = .ok (.ifCond .eq 14, 3) := by decide +kernel
theorem dX3_accept_8 : decode cX3_accept 8 = .ok (.aload_n 0, 1) := by decide +kernel
theorem dX3_accept_9 : decode cX3_accept 9 = .ok (.invokevirtual 135, 3) := by decide +kernel
theorem dX3_accept_12 : decode cX3_accept 12 = .ok (.ifCond .ne 7, 3) := by decide +kernel
theorem dX3_accept_15 : decode cX3_accept 15 = .ok (.iconst 0, 1) := by decide +kernel
theorem dX3_accept_16 : decode cX3_accept 16 = .ok (.goto 4, 3) := by decide +kernel
theorem dX3_accept_19 : decode cX3_accept 19 = .ok (.iconst 1, 1) := by decide +kernel
theorem dX3_accept_20 : decode cX3_accept 20 = .ok (.putfield 41, 3) := by decide +kernel
theorem dX3_accept_23 : decode cX3_accept 23 = .ok (.aload_n 0, 1) := by decide +kernel
theorem dX3_accept_24 : decode cX3_accept 24 = .ok (.getfield 41, 3) := by decide +kernel
theorem dX3_accept_27 : decode cX3_accept 27 = .ok (.ifCond .le 5, 3) := by decide +kernel
theorem dX3_accept_30 : decode cX3_accept 30 = .ok (.iconst 0, 1) := by decide +kernel
theorem dX3_accept_31 : decode cX3_accept 31 = .ok (.ireturn, 1) := by decide +kernel
theorem dX3_accept_32 : decode cX3_accept 32 = .ok (.aload_n 0, 1) := by decide +kernel
theorem dX3_accept_33 : decode cX3_accept 33 = .ok (.iconst 3, 1) := by decide +kernel
theorem dX3_accept_34 : decode cX3_accept 34 = .ok (.iconst 0, 1) := by decide +kernel
theorem dX3_accept_35 : decode cX3_accept 35 = .ok (.invokevirtual 127, 3) := by decide +kernel
theorem dX3_accept_38 : decode cX3_accept 38 = .ok (.aload_n 0, 1) := by decide +kernel
theorem dX3_accept_39 : decode cX3_accept 39 = .ok (.invokevirtual 131, 3) := by decide +kernel
theorem dX3_accept_42 : decode cX3_accept 42 = .ok (.ireturn, 1) := by decide +kernel
set_option maxRecDepth 20000 in
theorem ggX3_cellByChanges_X3_isIn : GoodIn wsX3_cellByChanges wsX3_isIn := goodIn_r _ [5] (by decide +kernel) (by decide +kernel)
set_option maxRecDepth 20000 in
theorem gX3_cellByChanges_X3_isIn : GoodIn wsX3_cellByChanges (va_wsS RX3 52 yX3_isIn wsX3_isIn) := goodIn_app (goodIn_of _ (by decide +kernel)) ggX3_cellByChanges_X3_isIn
set_option maxRecDepth 20000 in
theorem ggX3_cellByChanges_X3_mergedRow : GoodIn wsX3_cellByChanges wsX3_mergedRow := goodIn_r _ [9, 10, 11, 12, 4, 13, 14, 15, 16, 17, 18, 19, 20, 21, 22, 23, 24, 25, 26, 27, 28, 29, 30, 31, 32, 33, 34, 35, 36, 37, 38, 39, 62, 63, 64, 65, 66, 67, 68, 69, 70, 71, 72, 73, 74] (by decide +kernel) (by decide +kernel)
set_option maxRecDepth 20000 in
theorem gX3_cellByChanges_X3_mergedRow : GoodIn wsX3_cellByChanges (wsV RX3 110 RX3 yX3_mergedRow wsX3_mergedRow) := goodIn_app (goodIn_of _ (by decide +kernel)) ggX3_cellByChanges_X3_mergedRow
set_option maxRecDepth 20000 in
theorem ggX3_cellByChanges_X3_mergedColumn : GoodIn wsX3_cellByChanges wsX3_mergedColumn := goodIn_r _ [43, 27, 28, 29, 4, 30, 31, 44, 45, 46, 47, 48, 49, 50, 51, 52, 19, 20, 21, 22, 23, 24, 25, 26, 10, 11, 12, 13, 14, 32, 33, 34, 35, 36, 37, 38, 39, 62, 63, 64, 65, 66, 67, 68, 69, 70, 71, 72, 73, 74] (by decide +kernel) (by decide +kernel)
set_option maxRecDepth 20000 in
theorem gX3_cellByChanges_X3_mergedColumn : GoodIn wsX3_cellByChanges (wsV RX3 100 RX3 yX3_mergedColumn wsX3_mergedColumn) := goodIn_app (goodIn_of _ (by decide +kernel)) ggX3_cellByChanges_X3_mergedColumn
set_option maxRecDepth 20000 in
theorem ggX3_cellByChanges_X3_mergedCell : GoodIn wsX3_cellByChanges wsX3_mergedCell := goodIn_r _ [56, 57, 23, 24, 25, 4, 26, 10, 11, 12, 13, 14, 27, 28, 29, 30, 31, 32, 33, 34, 35, 36, 58, 59, 60, 61, 62, 63, 64, 65, 66, 67, 68, 69, 70, 71, 72, 73, 74] (by decide +kernel) (by decide +kernel)
set_option maxRecDepth 20000 in
theorem gX3_cellByChanges_X3_mergedCell : GoodIn wsX3_cellByChanges (wsV RX3 116 RX3 yX3_mergedCell wsX3_mergedCell) := goodIn_app (goodIn_of _ (by decide +kernel)) ggX3_cellByChanges_X3_mergedCell
theorem dX3_cellByChanges_0 : decode cX3_cellByChanges 0 = .ok (.aload_n 0, 1) := by decide +kernel
theorem dX3_cellByChanges_1 : decode cX3_cellByChanges 1 = .ok (.iload_n 1, 1) := by decide +kernel
theorem dX3_cellByChanges_2 : decode cX3_cellByChanges 2 = .ok (.iconst 0, 1) := by decide +kernel
theorem dX3_cellByChanges_3 : decode cX3_cellByChanges 3 = .ok (.bipush 23, 2) := by decide +kernel
theorem dX3_cellByChanges_5 : decode cX3_cellByChanges 5 = .ok (.invokestatic 52, 3) := by decide +kernel
theorem dX3_cellByChanges_8 : decode cX3_cellByChanges 8 = .ok (.ifCond .eq 17, 3) := by decide +kernel
theorem dX3_cellByChanges_11 : decode cX3_cellByChanges 11 = .ok (.iload_n 2, 1) := by decide +kernel
theorem dX3_cellByChanges_12 : decode cX3_cellByChanges 12 = .ok (.iconst 0, 1) := by decide +kernel
theorem dX3_cellByChanges_13 : decode cX3_cellByChanges 13 = .ok (.bipush 7, 2) := by decide +kernel
theorem dX3_cellByChanges_15 : decode cX3_cellByChanges 15 = .ok (.invokestatic 52, 3) := by decide +kernel
theorem dX3_cellByChanges_18 : decode cX3_cellByChanges 18 = .ok (.ifCond .eq 7, 3) := by decide +kernel
theorem dX3_cellByChanges_21 : decode cX3_cellByChanges 21 = .ok (.iconst 0, 1) := by decide +kernel
theorem dX3_cellByChanges_22 : decode cX3_cellByChanges 22 = .ok (.goto 4, 3) := by decide +kernel
theorem dX3_cellByChanges_25 : decode cX3_cellByChanges 25 = .ok (.iconst 1, 1) := by decide +kernel
theorem dX3_cellByChanges_26 : decode cX3_cellByChanges 26 = .ok (.putfield 41, 3) := by decide +kernel
theorem dX3_cellByChanges_29 : decode cX3_cellByChanges 29 = .ok (.aload_n 0, 1) := by decide +kernel
theorem dX3_cellByChanges_30 : decode cX3_cellByChanges 30 = .ok (.getfield 41, 3) := by decide +kernel
theorem dX3_cellByChanges_33 : decode cX3_cellByChanges 33 = .ok (.ifCond .ne 28, 3) := by decide +kernel
theorem dX3_cellByChanges_36 : decode cX3_cellByChanges 36 = .ok (.aload_n 0, 1) := by decide +kernel
theorem dX3_cellByChanges_37 : decode cX3_cellByChanges 37 = .ok (.iload_n 1, 1) := by decide +kernel
theorem dX3_cellByChanges_38 : decode cX3_cellByChanges 38 = .ok (.invokevirtual 110, 3) := by decide +kernel
theorem dX3_cellByChanges_41 : decode cX3_cellByChanges 41 = .ok (.ifCond .le 20, 3) := by decide +kernel
theorem dX3_cellByChanges_44 : decode cX3_cellByChanges 44 = .ok (.aload_n 0, 1) := by decide +kernel
theorem dX3_cellByChanges_45 : decode cX3_cellByChanges 45 = .ok (.iload_n 2, 1) := by decide +kernel
theorem dX3_cellByChanges_46 : decode cX3_cellByChanges 46 = .ok (.invokevirtual 100, 3) := by decide +kernel
theorem dX3_cellByChanges_49 : decode cX3_cellByChanges 49 = .ok (.ifCond .le 12, 3) := by decide +kernel
theorem dX3_cellByChanges_52 : decode cX3_cellByChanges 52 = .ok (.aload_n 0, 1) := by decide +kernel
theorem dX3_cellByChanges_53 : decode cX3_cellByChanges 53 = .ok (.iload_n 1, 1) := by decide +kernel
theorem dX3_cellByChanges_54 : decode cX3_cellByChanges 54 = .ok (.iload_n 2, 1) := by decide +kernel
theorem dX3_cellByChanges_55 : decode cX3_cellByChanges 55 = .ok (.invokevirtual 116, 3) := by decide +kernel
theorem dX3_cellByChanges_58 : decode cX3_cellByChanges 58 = .ok (.goto 4, 3) := by decide +kernel
theorem dX3_cellByChanges_61 : decode cX3_cellByChanges 61 = .ok (.iconst 0, 1) := by decide +kernel
theorem dX3_cellByChanges_62 : decode cX3_cellByChanges 62 = .ok (.ireturn, 1) := by decide +kernel
theorem dX3_conflicts_0 : decode cX3_conflicts 0 = .ok (.aload_n 0, 1) := by decide +kernel
theorem dX3_conflicts_1 : decode cX3_conflicts 1 = .ok (.iconst 0, 1) := by decide +kernel
theorem dX3_conflicts_2 : decode cX3_conflicts 2 = .ok (.putfield 41, 3) := by decide +kernel
theorem dX3_conflicts_5 : decode cX3_conflicts 5 = .ok (.aload_n 0, 1) := by decide +kernel
theorem dX3_conflicts_6 : decode cX3_conflicts 6 = .ok (.getfield 97, 3) := by decide +kernel
theorem dX3_conflicts_9 : decode cX3_conflicts 9 = .ok (.ireturn, 1) := by decide +kernel
theorem dX3_left_0 : decode cX3_left 0 = .ok (.iconst 0, 1) := by decide +kernel
theorem dX3_left_1 : decode cX3_left 1 = .ok (.istore_n 1, 1) := by decide +kernel
theorem dX3_left_2 : decode cX3_left 2 = .ok (.iconst 0, 1) := by decide +kernel
theorem dX3_left_3 : decode cX3_left 3 = .ok (.istore_n 2, 1) := by decide +kernel
theorem dX3_left_4 : decode cX3_left 4 = .ok (.iload_n 2, 1) := by decide +kernel
theorem dX3_left_5 : decode cX3_left 5 = .ok (.aload_n 0, 1) := by decide +kernel
theorem dX3_left_6 : decode cX3_left 6 = .ok (.getfield 97, 3) := by decide +kernel
theorem dX3_left_9 : decode cX3_left 9 = .ok (.if_icmp .ge 26, 3) := by decide +kernel
theorem dX3_left_12 : decode cX3_left 12 = .ok (.iload_n 1, 1) := by decide +kernel
theorem dX3_left_13 : decode cX3_left 13 = .ok (.aload_n 0, 1) := by decide +kernel
theorem dX3_left_14 : decode cX3_left 14 = .ok (.getfield 38, 3) := by decide +kernel
theorem dX3_left_17 : decode cX3_left 17 = .ok (.iload_n 2, 1) := by decide +kernel
theorem dX3_left_18 : decode cX3_left 18 = .ok (.baload, 1) := by decide +kernel
theorem dX3_left_19 : decode cX3_left 19 = .ok (.ifCond .eq 7, 3) := by decide +kernel
theorem dX3_left_22 : decode cX3_left 22 = .ok (.iconst 0, 1) := by decide +kernel
theorem dX3_left_23 : decode cX3_left 23 = .ok (.goto 4, 3) := by decide +kernel
theorem dX3_left_26 : decode cX3_left 26 = .ok (.iconst 1, 1) := by decide +kernel
theorem dX3_left_27 : decode cX3_left 27 = .ok (.iadd, 1) := by decide +kernel
theorem dX3_left_28 : decode cX3_left 28 = .ok (.istore_n 1, 1) := by decide +kernel
theorem dX3_left_29 : decode cX3_left 29 = .ok (.iinc 2 1, 3) := by decide +kernel
theorem dX3_left_32 : decode cX3_left 32 = .ok (.goto (-28), 3) := by decide +kernel
theorem dX3_left_35 : decode cX3_left 35 = .ok (.iload_n 1, 1) := by decide +kernel
theorem dX3_left_36 : decode cX3_left 36 = .ok (.ireturn, 1) := by decide +kernel
set_option maxRecDepth 20000 in
theorem ggX3_open_X3_left : GoodIn wsX3_open wsX3_left := goodIn_r _ [6, 7, 8, 9, 10, 11, 12, 13, 14, 15, 16, 17, 18, 19, 20, 21] (by decide +kernel) (by decide +kernel)
set_option maxRecDepth 20000 in
theorem gX3_open_X3_left : GoodIn wsX3_open (wsV RX3 135 RX3 yX3_left wsX3_left) := goodIn_app (goodIn_of _ (by decide +kernel)) ggX3_open_X3_left
theorem dX3_open_0 : decode cX3_open 0 = .ok (.aload_n 0, 1) := by decide +kernel
theorem dX3_open_1 : decode cX3_open 1 = .ok (.iconst 0, 1) := by decide +kernel
theorem dX3_open_2 : decode cX3_open 2 = .ok (.putfield 41, 3) := by decide +kernel
theorem dX3_open_5 : decode cX3_open 5 = .ok (.aload_n 0, 1) := by decide +kernel
theorem dX3_open_6 : decode cX3_open 6 = .ok (.invokevirtual 135, 3) := by decide +kernel
theorem dX3_open_9 : decode cX3_open 9 = .ok (.ireturn, 1) := by decide +kernel
set_option maxRecDepth 20000 in
theorem ggX3_isListed_X3_isIn : GoodIn wsX3_isListed wsX3_isIn := goodIn_r _ [6] (by decide +kernel) (by decide +kernel)
set_option maxRecDepth 20000 in
theorem gX3_isListed_X3_isIn : GoodIn wsX3_isListed (va_wsS RX3 52 yX3_isIn wsX3_isIn) := goodIn_app (goodIn_of _ (by decide +kernel)) ggX3_isListed_X3_isIn
theorem dX3_isListed_0 : decode cX3_isListed 0 = .ok (.aload_n 0, 1) := by decide +kernel
theorem dX3_isListed_1 : decode cX3_isListed 1 = .ok (.iload_n 1, 1) := by decide +kernel
theorem dX3_isListed_2 : decode cX3_isListed 2 = .ok (.iconst 0, 1) := by decide +kernel
theorem dX3_isListed_3 : decode cX3_isListed 3 = .ok (.aload_n 0, 1) := by decide +kernel
theorem dX3_isListed_4 : decode cX3_isListed 4 = .ok (.getfield 97, 3) := by decide +kernel
theorem dX3_isListed_7 : decode cX3_isListed 7 = .ok (.iconst 1, 1) := by decide +kernel
theorem dX3_isListed_8 : decode cX3_isListed 8 = .ok (.isub, 1) := by decide +kernel
theorem dX3_isListed_9 : decode cX3_isListed 9 = .ok (.invokestatic 52, 3) := by decide +kernel
theorem dX3_isListed_12 : decode cX3_isListed 12 = .ok (.ifCond .eq 7, 3) := by decide +kernel
theorem dX3_isListed_15 : decode cX3_isListed 15 = .ok (.iconst 0, 1) := by decide +kernel
theorem dX3_isListed_16 : decode cX3_isListed 16 = .ok (.goto 4, 3) := by decide +kernel
theorem dX3_isListed_19 : decode cX3_isListed 19 = .ok (.iconst 1, 1) := by decide +kernel
theorem dX3_isListed_20 : decode cX3_isListed 20 = .ok (.putfield 41, 3) := by decide +kernel
theorem dX3_isListed_23 : decode cX3_isListed 23 = .ok (.aload_n 0, 1) := by decide +kernel
theorem dX3_isListed_24 : decode cX3_isListed 24 = .ok (.getfield 41, 3) := by decide +kernel
theorem dX3_isListed_27 : decode cX3_isListed 27 = .ok (.ifCond .ne 7, 3) := by decide +kernel
theorem dX3_isListed_30 : decode cX3_isListed 30 = .ok (.iconst 1, 1) := by decide +kernel
theorem dX3_isListed_31 : decode cX3_isListed 31 = .ok (.goto 4, 3) := by decide +kernel
theorem dX3_isListed_34 : decode cX3_isListed 34 = .ok (.iconst 0, 1) := by decide +kernel
theorem dX3_isListed_35 : decode cX3_isListed 35 = .ok (.ireturn, 1) := by decide +kernel
set_option maxRecDepth 20000 in
theorem ggX3_kindOf_X3_isListed : GoodIn wsX3_kindOf wsX3_isListed := goodIn_r _ [6, 7, 8, 9, 10, 5, 11, 12, 13, 14, 15, 16, 17, 18, 19, 20, 21, 22, 23, 24] (by decide +kernel) (by decide +kernel)
set_option maxRecDepth 20000 in
theorem gX3_kindOf_X3_isListed : GoodIn wsX3_kindOf (wsV RX3 138 RX3 yX3_isListed wsX3_isListed) := goodIn_app (goodIn_of _ (by decide +kernel)) ggX3_kindOf_X3_isListed
theorem dX3_kindOf_0 : decode cX3_kindOf 0 = .ok (.aload_n 0, 1) := by decide +kernel
theorem dX3_kindOf_1 : decode cX3_kindOf 1 = .ok (.iload_n 1, 1) := by decide +kernel
theorem dX3_kindOf_2 : decode cX3_kindOf 2 = .ok (.invokevirtual 138, 3) := by decide +kernel
theorem dX3_kindOf_5 : decode cX3_kindOf 5 = .ok (.ifCond .eq 12, 3) := by decide +kernel
theorem dX3_kindOf_8 : decode cX3_kindOf 8 = .ok (.aload_n 0, 1) := by decide +kernel
theorem dX3_kindOf_9 : decode cX3_kindOf 9 = .ok (.getfield 29, 3) := by decide +kernel
theorem dX3_kindOf_12 : decode cX3_kindOf 12 = .ok (.iload_n 1, 1) := by decide +kernel
theorem dX3_kindOf_13 : decode cX3_kindOf 13 = .ok (.iaload, 1) := by decide +kernel
theorem dX3_kindOf_14 : decode cX3_kindOf 14 = .ok (.goto 4, 3) := by decide +kernel
theorem dX3_kindOf_17 : decode cX3_kindOf 17 = .ok (.iconst 0, 1) := by decide +kernel
theorem dX3_kindOf_18 : decode cX3_kindOf 18 = .ok (.ireturn, 1) := by decide +kernel
set_option maxRecDepth 20000 in
theorem ggX3_keyOf_X3_isListed : GoodIn wsX3_keyOf wsX3_isListed := goodIn_r _ [6, 7, 8, 9, 10, 5, 11, 12, 13, 14, 15, 16, 17, 18, 19, 20, 21, 22, 23, 24] (by decide +kernel) (by decide +kernel)
set_option maxRecDepth 20000 in
theorem gX3_keyOf_X3_isListed : GoodIn wsX3_keyOf (wsV RX3 138 RX3 yX3_isListed wsX3_isListed) := goodIn_app (goodIn_of _ (by decide +kernel)) ggX3_keyOf_X3_isListed
theorem dX3_keyOf_0 : decode cX3_keyOf 0 = .ok (.aload_n 0, 1) := by decide +kernel
theorem dX3_keyOf_1 : decode cX3_keyOf 1 = .ok (.iload_n 1, 1) := by decide +kernel
theorem dX3_keyOf_2 : decode cX3_keyOf 2 = .ok (.invokevirtual 138, 3) := by decide +kernel
theorem dX3_keyOf_5 : decode cX3_keyOf 5 = .ok (.ifCond .eq 12, 3) := by decide +kernel
theorem dX3_keyOf_8 : decode cX3_keyOf 8 = .ok (.aload_n 0, 1) := by decide +kernel
theorem dX3_keyOf_9 : decode cX3_keyOf 9 = .ok (.getfield 32, 3) := by decide +kernel
theorem dX3_keyOf_12 : decode cX3_keyOf 12 = .ok (.iload_n 1, 1) := by decide +kernel
theorem dX3_keyOf_13 : decode cX3_keyOf 13 = .ok (.iaload, 1) := by decide +kernel
theorem dX3_keyOf_14 : decode cX3_keyOf 14 = .ok (.goto 4, 3) := by decide +kernel
theorem dX3_keyOf_17 : decode cX3_keyOf 17 = .ok (.iconst 0, 1) := by decide +kernel
theorem dX3_keyOf_18 : decode cX3_keyOf 18 = .ok (.ireturn, 1) := by decide +kernel
set_option maxRecDepth 20000 in
theorem ggX3_columnOf_X3_isListed : GoodIn wsX3_columnOf wsX3_isListed := goodIn_r _ [6, 7, 8, 9, 10, 5, 11, 12, 13, 14, 15, 16, 17, 18, 19, 20, 21, 22, 23, 24] (by decide +kernel) (by decide +kernel)
set_option maxRecDepth 20000 in
theorem gX3_columnOf_X3_isListed : GoodIn wsX3_columnOf (wsV RX3 138 RX3 yX3_isListed wsX3_isListed) := goodIn_app (goodIn_of _ (by decide +kernel)) ggX3_columnOf_X3_isListed
theorem dX3_columnOf_0 : decode cX3_columnOf 0 = .ok (.aload_n 0, 1) := by decide +kernel
theorem dX3_columnOf_1 : decode cX3_columnOf 1 = .ok (.iload_n 1, 1) := by decide +kernel
theorem dX3_columnOf_2 : decode cX3_columnOf 2 = .ok (.invokevirtual 138, 3) := by decide +kernel
theorem dX3_columnOf_5 : decode cX3_columnOf 5 = .ok (.ifCond .eq 12, 3) := by decide +kernel
theorem dX3_columnOf_8 : decode cX3_columnOf 8 = .ok (.aload_n 0, 1) := by decide +kernel
theorem dX3_columnOf_9 : decode cX3_columnOf 9 = .ok (.getfield 35, 3) := by decide +kernel
theorem dX3_columnOf_12 : decode cX3_columnOf 12 = .ok (.iload_n 1, 1) := by decide +kernel
theorem dX3_columnOf_13 : decode cX3_columnOf 13 = .ok (.iaload, 1) := by decide +kernel
theorem dX3_columnOf_14 : decode cX3_columnOf 14 = .ok (.goto 4, 3) := by decide +kernel
theorem dX3_columnOf_17 : decode cX3_columnOf 17 = .ok (.iconst 0, 1) := by decide +kernel
theorem dX3_columnOf_18 : decode cX3_columnOf 18 = .ok (.ireturn, 1) := by decide +kernel
set_option maxRecDepth 20000 in
theorem ggX3_settle_X3_isIn : GoodIn wsX3_settle wsX3_isIn := goodIn_r _ [15] (by decide +kernel) (by decide +kernel)
set_option maxRecDepth 20000 in
theorem gX3_settle_X3_isIn : GoodIn wsX3_settle (va_wsS RX3 52 yX3_isIn wsX3_isIn) := goodIn_app (goodIn_of _ (by decide +kernel)) ggX3_settle_X3_isIn
set_option maxRecDepth 20000 in
theorem ggX3_settle_X3_at : GoodIn wsX3_settle wsX3_at := goodIn_r _ [19, 8, 32, 33, 34, 35, 36, 37, 38, 39, 40, 41, 42, 43, 44] (by decide +kernel) (by decide +kernel)
set_option maxRecDepth 20000 in
theorem gX3_settle_X3_at : GoodIn wsX3_settle (wsV RX3 74 RX3 yX3_at wsX3_at) := goodIn_app (goodIn_of _ (by decide +kernel)) ggX3_settle_X3_at
set_option maxRecDepth 20000 in
theorem ggX3_settle_X3_hasRow : GoodIn wsX3_settle wsX3_hasRow := goodIn_r _ [23, 9, 32, 33, 34, 35, 36, 37, 38, 39, 40, 41, 42, 43, 44] (by decide +kernel) (by decide +kernel)
set_option maxRecDepth 20000 in
theorem gX3_settle_X3_hasRow : GoodIn wsX3_settle (wsV RX3 45 RX3 yX3_hasRow wsX3_hasRow) := goodIn_app (goodIn_of _ (by decide +kernel)) ggX3_settle_X3_hasRow
set_option maxRecDepth 20000 in
theorem ggX3_settle_X3_hasColumn : GoodIn wsX3_settle wsX3_hasColumn := goodIn_r _ [27, 10, 32, 33, 34, 35, 36, 37, 38, 39, 40, 41, 42, 43, 44] (by decide +kernel) (by decide +kernel)
set_option maxRecDepth 20000 in
theorem gX3_settle_X3_hasColumn : GoodIn wsX3_settle (wsV RX3 49 RX3 yX3_hasColumn wsX3_hasColumn) := goodIn_app (goodIn_of _ (by decide +kernel)) ggX3_settle_X3_hasColumn
set_option maxRecDepth 20000 in
theorem ggX3_settle_X3_left : GoodIn wsX3_settle wsX3_left := goodIn_r _ [31, 1, 3, 32, 33, 34, 35, 36, 37, 38, 39, 40, 41, 42, 43, 44] (by decide +kernel) (by decide +kernel)
set_option maxRecDepth 20000 in
theorem gX3_settle_X3_left : GoodIn wsX3_settle (wsV RX3 135 RX3 yX3_left wsX3_left) := goodIn_app (goodIn_of _ (by decide +kernel)) ggX3_settle_X3_left
theorem dX3_settle_0 : decode cX3_settle 0 = .ok (.aload_n 0, 1) := by decide +kernel
theorem dX3_settle_1 : decode cX3_settle 1 = .ok (.iload_n 1, 1) := by decide +kernel
theorem dX3_settle_2 : decode cX3_settle 2 = .ok (.iconst 0, 1) := by decide +kernel
theorem dX3_settle_3 : decode cX3_settle 3 = .ok (.aload_n 0, 1) := by decide +kernel
theorem dX3_settle_4 : decode cX3_settle 4 = .ok (.getfield 97, 3) := by decide +kernel
theorem dX3_settle_7 : decode cX3_settle 7 = .ok (.iconst 1, 1) := by decide +kernel
theorem dX3_settle_8 : decode cX3_settle 8 = .ok (.isub, 1) := by decide +kernel
theorem dX3_settle_9 : decode cX3_settle 9 = .ok (.invokestatic 52, 3) := by decide +kernel
theorem dX3_settle_12 : decode cX3_settle 12 = .ok (.ifCond .eq 12, 3) := by decide +kernel
theorem dX3_settle_15 : decode cX3_settle 15 = .ok (.iload_n 2, 1) := by decide +kernel
theorem dX3_settle_16 : decode cX3_settle 16 = .ok (.iconst 1, 1) := by decide +kernel
theorem dX3_settle_17 : decode cX3_settle 17 = .ok (.iconst 2, 1) := by decide +kernel
theorem dX3_settle_18 : decode cX3_settle 18 = .ok (.invokestatic 52, 3) := by decide +kernel
theorem dX3_settle_21 : decode cX3_settle 21 = .ok (.ifCond .ne 7, 3) := by decide +kernel
theorem dX3_settle_24 : decode cX3_settle 24 = .ok (.iconst 1, 1) := by decide +kernel
theorem dX3_settle_25 : decode cX3_settle 25 = .ok (.goto 4, 3) := by decide +kernel
theorem dX3_settle_28 : decode cX3_settle 28 = .ok (.iconst 0, 1) := by decide +kernel
theorem dX3_settle_29 : decode cX3_settle 29 = .ok (.putfield 41, 3) := by decide +kernel
theorem dX3_settle_32 : decode cX3_settle 32 = .ok (.aload_n 0, 1) := by decide +kernel
theorem dX3_settle_33 : decode cX3_settle 33 = .ok (.getfield 41, 3) := by decide +kernel
theorem dX3_settle_36 : decode cX3_settle 36 = .ok (.ifCond .le 5, 3) := by decide +kernel
theorem dX3_settle_39 : decode cX3_settle 39 = .ok (.iconst 0, 1) := by decide +kernel
theorem dX3_settle_40 : decode cX3_settle 40 = .ok (.ireturn, 1) := by decide +kernel
theorem dX3_settle_41 : decode cX3_settle 41 = .ok (.aload_n 0, 1) := by decide +kernel
theorem dX3_settle_42 : decode cX3_settle 42 = .ok (.aload_n 0, 1) := by decide +kernel
theorem dX3_settle_43 : decode cX3_settle 43 = .ok (.getfield 38, 3) := by decide +kernel
theorem dX3_settle_46 : decode cX3_settle 46 = .ok (.iload_n 1, 1) := by decide +kernel
theorem dX3_settle_47 : decode cX3_settle 47 = .ok (.baload, 1) := by decide +kernel
theorem dX3_settle_48 : decode cX3_settle 48 = .ok (.ifCond .ne 10, 3) := by decide +kernel
theorem dX3_settle_51 : decode cX3_settle 51 = .ok (.aload_n 0, 1) := by decide +kernel
theorem dX3_settle_52 : decode cX3_settle 52 = .ok (.getfield 56, 3) := by decide +kernel
theorem dX3_settle_55 : decode cX3_settle 55 = .ok (.ifCond .ne 7, 3) := by decide +kernel
theorem dX3_settle_58 : decode cX3_settle 58 = .ok (.iconst 2, 1) := by decide +kernel
theorem dX3_settle_59 : decode cX3_settle 59 = .ok (.goto 4, 3) := by decide +kernel
theorem dX3_settle_62 : decode cX3_settle 62 = .ok (.iconst 0, 1) := by decide +kernel
theorem dX3_settle_63 : decode cX3_settle 63 = .ok (.putfield 41, 3) := by decide +kernel
theorem dX3_settle_66 : decode cX3_settle 66 = .ok (.aload_n 0, 1) := by decide +kernel
theorem dX3_settle_67 : decode cX3_settle 67 = .ok (.getfield 41, 3) := by decide +kernel
theorem dX3_settle_70 : decode cX3_settle 70 = .ok (.ifCond .le 5, 3) := by decide +kernel
theorem dX3_settle_73 : decode cX3_settle 73 = .ok (.iconst 0, 1) := by decide +kernel
theorem dX3_settle_74 : decode cX3_settle 74 = .ok (.ireturn, 1) := by decide +kernel
theorem dX3_settle_75 : decode cX3_settle 75 = .ok (.aload_n 0, 1) := by decide +kernel
theorem dX3_settle_76 : decode cX3_settle 76 = .ok (.getfield 32, 3) := by decide +kernel
theorem dX3_settle_79 : decode cX3_settle 79 = .ok (.iload_n 1, 1) := by decide +kernel
theorem dX3_settle_80 : decode cX3_settle 80 = .ok (.iaload, 1) := by decide +kernel
theorem dX3_settle_81 : decode cX3_settle 81 = .ok (.istore_n 3, 1) := by decide +kernel
theorem dX3_settle_82 : decode cX3_settle 82 = .ok (.aload_n 0, 1) := by decide +kernel
theorem dX3_settle_83 : decode cX3_settle 83 = .ok (.getfield 35, 3) := by decide +kernel
theorem dX3_settle_86 : decode cX3_settle 86 = .ok (.iload_n 1, 1) := by decide +kernel
theorem dX3_settle_87 : decode cX3_settle 87 = .ok (.iaload, 1) := by decide +kernel
theorem dX3_settle_88 : decode cX3_settle 88 = .ok (.istore 4, 2) := by decide +kernel
theorem dX3_settle_90 : decode cX3_settle 90 = .ok (.aload_n 0, 1) := by decide +kernel
theorem dX3_settle_91 : decode cX3_settle 91 = .ok (.getfield 29, 3) := by decide +kernel
theorem dX3_settle_94 : decode cX3_settle 94 = .ok (.iload_n 1, 1) := by decide +kernel
theorem dX3_settle_95 : decode cX3_settle 95 = .ok (.iaload, 1) := by decide +kernel
theorem dX3_settle_96 : decode cX3_settle 96 = .ok (.iconst 1, 1) := by decide +kernel
theorem dX3_settle_97 : decode cX3_settle 97 = .ok (.if_icmp .ne 30, 3) := by decide +kernel
theorem dX3_settle_100 : decode cX3_settle 100 = .ok (.aload_n 0, 1) := by decide +kernel
theorem dX3_settle_101 : decode cX3_settle 101 = .ok (.getfield 19, 3) := by decide +kernel
theorem dX3_settle_104 : decode cX3_settle 104 = .ok (.sipush 576, 3) := by decide +kernel
theorem dX3_settle_107 : decode cX3_settle 107 = .ok (.bipush 8, 2) := by decide +kernel
theorem dX3_settle_109 : decode cX3_settle 109 = .ok (.iload_n 3, 1) := by decide +kernel
theorem dX3_settle_110 : decode cX3_settle 110 = .ok (.imul, 1) := by decide +kernel
theorem dX3_settle_111 : decode cX3_settle 111 = .ok (.iadd, 1) := by decide +kernel
theorem dX3_settle_112 : decode cX3_settle 112 = .ok (.iload 4, 2) := by decide +kernel
theorem dX3_settle_114 : decode cX3_settle 114 = .ok (.iadd, 1) := by decide +kernel
theorem dX3_settle_115 : decode cX3_settle 115 = .ok (.aload_n 0, 1) := by decide +kernel
theorem dX3_settle_116 : decode cX3_settle 116 = .ok (.iload_n 2, 1) := by decide +kernel
theorem dX3_settle_117 : decode cX3_settle 117 = .ok (.iload_n 3, 1) := by decide +kernel
theorem dX3_settle_118 : decode cX3_settle 118 = .ok (.iload 4, 2) := by decide +kernel
theorem dX3_settle_120 : decode cX3_settle 120 = .ok (.invokevirtual 74, 3) := by decide +kernel
theorem dX3_settle_123 : decode cX3_settle 123 = .ok (.iastore, 1) := by decide +kernel
theorem dX3_settle_124 : decode cX3_settle 124 = .ok (.goto 117, 3) := by decide +kernel
theorem dX3_settle_127 : decode cX3_settle 127 = .ok (.aload_n 0, 1) := by decide +kernel
theorem dX3_settle_128 : decode cX3_settle 128 = .ok (.getfield 29, 3) := by decide +kernel
theorem dX3_settle_131 : decode cX3_settle 131 = .ok (.iload_n 1, 1) := by decide +kernel
theorem dX3_settle_132 : decode cX3_settle 132 = .ok (.iaload, 1) := by decide +kernel
theorem dX3_settle_133 : decode cX3_settle 133 = .ok (.iconst 2, 1) := by decide +kernel
theorem dX3_settle_134 : decode cX3_settle 134 = .ok (.if_icmp .ne 33, 3) := by decide +kernel
theorem dX3_settle_137 : decode cX3_settle 137 = .ok (.aload_n 0, 1) := by decide +kernel
theorem dX3_settle_138 : decode cX3_settle 138 = .ok (.getfield 13, 3) := by decide +kernel
theorem dX3_settle_141 : decode cX3_settle 141 = .ok (.iconst 3, 1) := by decide +kernel
theorem dX3_settle_142 : decode cX3_settle 142 = .ok (.dup2, 1) := by decide +kernel
theorem dX3_settle_143 : decode cX3_settle 143 = .ok (.iaload, 1) := by decide +kernel
theorem dX3_settle_144 : decode cX3_settle 144 = .ok (.aload_n 0, 1) := by decide +kernel
theorem dX3_settle_145 : decode cX3_settle 145 = .ok (.iload_n 2, 1) := by decide +kernel
theorem dX3_settle_146 : decode cX3_settle 146 = .ok (.iload_n 3, 1) := by decide +kernel
theorem dX3_settle_147 : decode cX3_settle 147 = .ok (.invokevirtual 45, 3) := by decide +kernel
theorem dX3_settle_150 : decode cX3_settle 150 = .ok (.ifCond .eq 7, 3) := by decide +kernel
theorem dX3_settle_153 : decode cX3_settle 153 = .ok (.iconst (-1), 1) := by decide +kernel
theorem dX3_settle_154 : decode cX3_settle 154 = .ok (.goto 8, 3) := by decide +kernel
theorem dX3_settle_157 : decode cX3_settle 157 = .ok (.iconst 1, 1) := by decide +kernel
theorem dX3_settle_158 : decode cX3_settle 158 = .ok (.iload_n 3, 1) := by decide +kernel
theorem dX3_settle_159 : decode cX3_settle 159 = .ok (.ishl, 1) := by decide +kernel
theorem dX3_settle_160 : decode cX3_settle 160 = .ok (.iconst (-1), 1) := by decide +kernel
theorem dX3_settle_161 : decode cX3_settle 161 = .ok (.ixor, 1) := by decide +kernel
theorem dX3_settle_162 : decode cX3_settle 162 = .ok (.iand, 1) := by decide +kernel
theorem dX3_settle_163 : decode cX3_settle 163 = .ok (.iastore, 1) := by decide +kernel
theorem dX3_settle_164 : decode cX3_settle 164 = .ok (.goto 77, 3) := by decide +kernel
theorem dX3_settle_167 : decode cX3_settle 167 = .ok (.aload_n 0, 1) := by decide +kernel
theorem dX3_settle_168 : decode cX3_settle 168 = .ok (.getfield 29, 3) := by decide +kernel
theorem dX3_settle_171 : decode cX3_settle 171 = .ok (.iload_n 1, 1) := by decide +kernel
theorem dX3_settle_172 : decode cX3_settle 172 = .ok (.iaload, 1) := by decide +kernel
theorem dX3_settle_173 : decode cX3_settle 173 = .ok (.iconst 3, 1) := by decide +kernel
theorem dX3_settle_174 : decode cX3_settle 174 = .ok (.if_icmp .ne 35, 3) := by decide +kernel
theorem dX3_settle_177 : decode cX3_settle 177 = .ok (.aload_n 0, 1) := by decide +kernel
theorem dX3_settle_178 : decode cX3_settle 178 = .ok (.getfield 7, 3) := by decide +kernel
theorem dX3_settle_181 : decode cX3_settle 181 = .ok (.iconst 3, 1) := by decide +kernel
theorem dX3_settle_182 : decode cX3_settle 182 = .ok (.dup2, 1) := by decide +kernel
theorem dX3_settle_183 : decode cX3_settle 183 = .ok (.iaload, 1) := by decide +kernel
theorem dX3_settle_184 : decode cX3_settle 184 = .ok (.aload_n 0, 1) := by decide +kernel
theorem dX3_settle_185 : decode cX3_settle 185 = .ok (.iload_n 2, 1) := by decide +kernel
theorem dX3_settle_186 : decode cX3_settle 186 = .ok (.iload 4, 2) := by decide +kernel
theorem dX3_settle_188 : decode cX3_settle 188 = .ok (.invokevirtual 49, 3) := by decide +kernel
theorem dX3_settle_191 : decode cX3_settle 191 = .ok (.ifCond .eq 7, 3) := by decide +kernel
theorem dX3_settle_194 : decode cX3_settle 194 = .ok (.iconst (-1), 1) := by decide +kernel
theorem dX3_settle_195 : decode cX3_settle 195 = .ok (.goto 9, 3) := by decide +kernel
theorem dX3_settle_198 : decode cX3_settle 198 = .ok (.iconst 1, 1) := by decide +kernel
theorem dX3_settle_199 : decode cX3_settle 199 = .ok (.iload 4, 2) := by decide +kernel
theorem dX3_settle_201 : decode cX3_settle 201 = .ok (.ishl, 1) := by decide +kernel
theorem dX3_settle_202 : decode cX3_settle 202 = .ok (.iconst (-1), 1) := by decide +kernel
theorem dX3_settle_203 : decode cX3_settle 203 = .ok (.ixor, 1) := by decide +kernel
theorem dX3_settle_204 : decode cX3_settle 204 = .ok (.iand, 1) := by decide +kernel
theorem dX3_settle_205 : decode cX3_settle 205 = .ok (.iastore, 1) := by decide +kernel
theorem dX3_settle_206 : decode cX3_settle 206 = .ok (.goto 35, 3) := by decide +kernel
theorem dX3_settle_209 : decode cX3_settle 209 = .ok (.aload_n 0, 1) := by decide +kernel
theorem dX3_settle_210 : decode cX3_settle 210 = .ok (.getfield 29, 3) := by decide +kernel
theorem dX3_settle_213 : decode cX3_settle 213 = .ok (.iload_n 1, 1) := by decide +kernel
theorem dX3_settle_214 : decode cX3_settle 214 = .ok (.iaload, 1) := by decide +kernel
theorem dX3_settle_215 : decode cX3_settle 215 = .ok (.iconst 4, 1) := by decide +kernel
theorem dX3_settle_216 : decode cX3_settle 216 = .ok (.if_icmp .ne 25, 3) := by decide +kernel
theorem dX3_settle_219 : decode cX3_settle 219 = .ok (.aload_n 0, 1) := by decide +kernel
theorem dX3_settle_220 : decode cX3_settle 220 = .ok (.getfield 16, 3) := by decide +kernel
theorem dX3_settle_223 : decode cX3_settle 223 = .ok (.bipush 24, 2) := by decide +kernel
theorem dX3_settle_225 : decode cX3_settle 225 = .ok (.iload 4, 2) := by decide +kernel
theorem dX3_settle_227 : decode cX3_settle 227 = .ok (.iadd, 1) := by decide +kernel
theorem dX3_settle_228 : decode cX3_settle 228 = .ok (.aload_n 0, 1) := by decide +kernel
theorem dX3_settle_229 : decode cX3_settle 229 = .ok (.getfield 16, 3) := by decide +kernel
theorem dX3_settle_232 : decode cX3_settle 232 = .ok (.bipush 8, 2) := by decide +kernel
theorem dX3_settle_234 : decode cX3_settle 234 = .ok (.iload_n 2, 1) := by decide +kernel
theorem dX3_settle_235 : decode cX3_settle 235 = .ok (.imul, 1) := by decide +kernel
theorem dX3_settle_236 : decode cX3_settle 236 = .ok (.iload 4, 2) := by decide +kernel
theorem dX3_settle_238 : decode cX3_settle 238 = .ok (.iadd, 1) := by decide +kernel
theorem dX3_settle_239 : decode cX3_settle 239 = .ok (.iaload, 1) := by decide +kernel
theorem dX3_settle_240 : decode cX3_settle 240 = .ok (.iastore, 1) := by decide +kernel
theorem dX3_settle_241 : decode cX3_settle 241 = .ok (.aload_n 0, 1) := by decide +kernel
theorem dX3_settle_242 : decode cX3_settle 242 = .ok (.getfield 38, 3) := by decide +kernel
theorem dX3_settle_245 : decode cX3_settle 245 = .ok (.iload_n 1, 1) := by decide +kernel
theorem dX3_settle_246 : decode cX3_settle 246 = .ok (.iconst 1, 1) := by decide +kernel
theorem dX3_settle_247 : decode cX3_settle 247 = .ok (.bastore, 1) := by decide +kernel
theorem dX3_settle_248 : decode cX3_settle 248 = .ok (.aload_n 0, 1) := by decide +kernel
theorem dX3_settle_249 : decode cX3_settle 249 = .ok (.invokevirtual 135, 3) := by decide +kernel
theorem dX3_settle_252 : decode cX3_settle 252 = .ok (.ireturn, 1) := by decide +kernel
theorem dJ6_bitCount_0f7a4_0 : decode cJ6_bitCount_0f7a4 0 = .ok (.iload_n 0, 1) := by decide +kernel
theorem dJ6_bitCount_0f7a4_1 : decode cJ6_bitCount_0f7a4 1 = .ok (.iload_n 0, 1) := by decide +kernel
theorem dJ6_bitCount_0f7a4_2 : decode cJ6_bitCount_0f7a4 2 = .ok (.iconst 1, 1) := by decide +kernel
theorem dJ6_bitCount_0f7a4_3 : decode cJ6_bitCount_0f7a4 3 = .ok (.iushr, 1) := by decide +kernel
theorem dJ6_bitCount_0f7a4_4 : decode cJ6_bitCount_0f7a4 4 = .ok (.ldc_w 265, 3) := by decide +kernel
theorem dJ6_bitCount_0f7a4_7 : decode cJ6_bitCount_0f7a4 7 = .ok (.iand, 1) := by decide +kernel
theorem dJ6_bitCount_0f7a4_8 : decode cJ6_bitCount_0f7a4 8 = .ok (.isub, 1) := by decide +kernel
theorem dJ6_bitCount_0f7a4_9 : decode cJ6_bitCount_0f7a4 9 = .ok (.istore_n 0, 1) := by decide +kernel
theorem dJ6_bitCount_0f7a4_10 : decode cJ6_bitCount_0f7a4 10 = .ok (.iload_n 0, 1) := by decide +kernel
theorem dJ6_bitCount_0f7a4_11 : decode cJ6_bitCount_0f7a4 11 = .ok (.ldc_w 266, 3) := by decide +kernel
theorem dJ6_bitCount_0f7a4_14 : decode cJ6_bitCount_0f7a4 14 = .ok (.iand, 1) := by decide +kernel
theorem dJ6_bitCount_0f7a4_15 : decode cJ6_bitCount_0f7a4 15 = .ok (.iload_n 0, 1) := by decide +kernel
theorem dJ6_bitCount_0f7a4_16 : decode cJ6_bitCount_0f7a4 16 = .ok (.iconst 2, 1) := by decide +kernel
theorem dJ6_bitCount_0f7a4_17 : decode cJ6_bitCount_0f7a4 17 = .ok (.iushr, 1) := by decide +kernel
theorem dJ6_bitCount_0f7a4_18 : decode cJ6_bitCount_0f7a4 18 = .ok (.ldc_w 266, 3) := by decide +kernel
theorem dJ6_bitCount_0f7a4_21 : decode cJ6_bitCount_0f7a4 21 = .ok (.iand, 1) := by decide +kernel
theorem dJ6_bitCount_0f7a4_22 : decode cJ6_bitCount_0f7a4 22 = .ok (.iadd, 1) := by decide +kernel
theorem dJ6_bitCount_0f7a4_23 : decode cJ6_bitCount_0f7a4 23 = .ok (.istore_n 0, 1) := by decide +kernel
theorem dJ6_bitCount_0f7a4_24 : decode cJ6_bitCount_0f7a4 24 = .ok (.iload_n 0, 1) := by decide +kernel
theorem dJ6_bitCount_0f7a4_25 : decode cJ6_bitCount_0f7a4 25 = .ok (.iload_n 0, 1) := by decide +kernel
theorem dJ6_bitCount_0f7a4_26 : decode cJ6_bitCount_0f7a4 26 = .ok (.iconst 4, 1) := by decide +kernel
theorem dJ6_bitCount_0f7a4_27 : decode cJ6_bitCount_0f7a4 27 = .ok (.iushr, 1) := by decide +kernel
theorem dJ6_bitCount_0f7a4_28 : decode cJ6_bitCount_0f7a4 28 = .ok (.iadd, 1) := by decide +kernel
theorem dJ6_bitCount_0f7a4_29 : decode cJ6_bitCount_0f7a4 29 = .ok (.ldc_w 267, 3) := by decide +kernel
theorem dJ6_bitCount_0f7a4_32 : decode cJ6_bitCount_0f7a4 32 = .ok (.iand, 1) := by decide +kernel
theorem dJ6_bitCount_0f7a4_33 : decode cJ6_bitCount_0f7a4 33 = .ok (.istore_n 0, 1) := by decide +kernel
theorem dJ6_bitCount_0f7a4_34 : decode cJ6_bitCount_0f7a4 34 = .ok (.iload_n 0, 1) := by decide +kernel
theorem dJ6_bitCount_0f7a4_35 : decode cJ6_bitCount_0f7a4 35 = .ok (.iload_n 0, 1) := by decide +kernel
theorem dJ6_bitCount_0f7a4_36 : decode cJ6_bitCount_0f7a4 36 = .ok (.bipush 8, 2) := by decide +kernel
theorem dJ6_bitCount_0f7a4_38 : decode cJ6_bitCount_0f7a4 38 = .ok (.iushr, 1) := by decide +kernel
theorem dJ6_bitCount_0f7a4_39 : decode cJ6_bitCount_0f7a4 39 = .ok (.iadd, 1) := by decide +kernel
theorem dJ6_bitCount_0f7a4_40 : decode cJ6_bitCount_0f7a4 40 = .ok (.istore_n 0, 1) := by decide +kernel
theorem dJ6_bitCount_0f7a4_41 : decode cJ6_bitCount_0f7a4 41 = .ok (.iload_n 0, 1) := by decide +kernel
theorem dJ6_bitCount_0f7a4_42 : decode cJ6_bitCount_0f7a4 42 = .ok (.iload_n 0, 1) := by decide +kernel
theorem dJ6_bitCount_0f7a4_43 : decode cJ6_bitCount_0f7a4 43 = .ok (.bipush 16, 2) := by decide +kernel
theorem dJ6_bitCount_0f7a4_45 : decode cJ6_bitCount_0f7a4 45 = .ok (.iushr, 1) := by decide +kernel
theorem dJ6_bitCount_0f7a4_46 : decode cJ6_bitCount_0f7a4 46 = .ok (.iadd, 1) := by decide +kernel
theorem dJ6_bitCount_0f7a4_47 : decode cJ6_bitCount_0f7a4 47 = .ok (.istore_n 0, 1) := by decide +kernel
theorem dJ6_bitCount_0f7a4_48 : decode cJ6_bitCount_0f7a4 48 = .ok (.iload_n 0, 1) := by decide +kernel
theorem dJ6_bitCount_0f7a4_49 : decode cJ6_bitCount_0f7a4 49 = .ok (.bipush 63, 2) := by decide +kernel
theorem dJ6_bitCount_0f7a4_51 : decode cJ6_bitCount_0f7a4 51 = .ok (.iand, 1) := by decide +kernel
theorem dJ6_bitCount_0f7a4_52 : decode cJ6_bitCount_0f7a4 52 = .ok (.ireturn, 1) := by decide +kernel
theorem dJ9_max_7cf53_0 : decode cJ9_max_7cf53 0 = .ok (.iload_n 0, 1) := by decide +kernel
theorem dJ9_max_7cf53_1 : decode cJ9_max_7cf53 1 = .ok (.iload_n 1, 1) := by decide +kernel
theorem dJ9_max_7cf53_2 : decode cJ9_max_7cf53 2 = .ok (.if_icmp .lt 7, 3) := by decide +kernel
theorem dJ9_max_7cf53_5 : decode cJ9_max_7cf53 5 = .ok (.iload_n 0, 1) := by decide +kernel
theorem dJ9_max_7cf53_6 : decode cJ9_max_7cf53 6 = .ok (.goto 4, 3) := by decide +kernel
theorem dJ9_max_7cf53_9 : decode cJ9_max_7cf53 9 = .ok (.iload_n 1, 1) := by decide +kernel
theorem dJ9_max_7cf53_10 : decode cJ9_max_7cf53 10 = .ok (.ireturn, 1) := by decide +kernel
theorem dJ7_fill_53178_0 : decode cJ7_fill_53178 0 = .ok (.iconst 0, 1) := by decide +kernel
theorem dJ7_fill_53178_1 : decode cJ7_fill_53178 1 = .ok (.istore_n 2, 1) := by decide +kernel
theorem dJ7_fill_53178_2 : decode cJ7_fill_53178 2 = .ok (.aload_n 0, 1) := by decide +kernel
theorem dJ7_fill_53178_3 : decode cJ7_fill_53178 3 = .ok (.arraylength, 1) := by decide +kernel
theorem dJ7_fill_53178_4 : decode cJ7_fill_53178 4 = .ok (.istore_n 3, 1) := by decide +kernel
theorem dJ7_fill_53178_5 : decode cJ7_fill_53178 5 = .ok (.iload_n 2, 1) := by decide +kernel
theorem dJ7_fill_53178_6 : decode cJ7_fill_53178 6 = .ok (.iload_n 3, 1) := by decide +kernel
theorem dJ7_fill_53178_7 : decode cJ7_fill_53178 7 = .ok (.if_icmp .ge 13, 3) := by decide +kernel
theorem dJ7_fill_53178_10 : decode cJ7_fill_53178 10 = .ok (.aload_n 0, 1) := by decide +kernel
theorem dJ7_fill_53178_11 : decode cJ7_fill_53178 11 = .ok (.iload_n 2, 1) := by decide +kernel
theorem dJ7_fill_53178_12 : decode cJ7_fill_53178 12 = .ok (.iload_n 1, 1) := by decide +kernel
theorem dJ7_fill_53178_13 : decode cJ7_fill_53178 13 = .ok (.iastore, 1) := by decide +kernel
theorem dJ7_fill_53178_14 : decode cJ7_fill_53178 14 = .ok (.iinc 2 1, 3) := by decide +kernel
theorem dJ7_fill_53178_17 : decode cJ7_fill_53178 17 = .ok (.goto (-12), 3) := by decide +kernel
theorem dJ7_fill_53178_20 : decode cJ7_fill_53178 20 = .ok (.return_, 1) := by decide +kernel
set_option maxRecDepth 20000 in
theorem ggL_addColumn_X2_addColumn : GoodIn wsL_addColumn wsX2_addColumn := goodIn_ca (goodIn_ca (goodIn_ca (goodIn_r _ [8, 9, 10, 11, 12, 13, 14, 7, 15, 16, 17, 18, 19, 20, 21, 22, 23, 24, 25, 26, 27, 28, 29, 30, 31, 32, 33, 34, 35, 36, 37, 38, 39, 40, 41, 42, 43, 44, 45, 46, 47, 48, 49, 50, 51, 52, 53, 54, 55, 56, 57, 58, 59, 60, 61, 62, 63, 64, 65, 66, 67] (by decide +kernel) (by decide +kernel)) (goodIn_sub (fun _ h => List.mem_cons_of_mem _ (List.mem_append_left _ (List.mem_append_left _ (List.mem_append_right _ h)))) (by decide +kernel))) (goodIn_sub (fun _ h => List.mem_cons_of_mem _ (List.mem_append_left _ (List.mem_append_right _ h))) (by decide +kernel))) (goodIn_sub (fun _ h => List.mem_cons_of_mem _ (List.mem_append_right _ h)) (by decide +kernel))
set_option maxRecDepth 20000 in
theorem gL_addColumn_X2_addColumn : GoodIn wsL_addColumn (wsV RL 7 RX2 yX2_addColumn wsX2_addColumn) := goodIn_app (goodIn_of _ (by decide +kernel)) ggL_addColumn_X2_addColumn
