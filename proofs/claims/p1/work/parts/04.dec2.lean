theorem dX5_renumber_40 : decode cX5_renumber 40 = .ok (.iload_n 2, 1) := by decide +kernel
theorem dX5_renumber_41 : decode cX5_renumber 41 = .ok (.aload_n 0, 1) := by decide +kernel
theorem dX5_renumber_42 : decode cX5_renumber 42 = .ok (.getfield 22, 3) := by decide +kernel
theorem dX5_renumber_45 : decode cX5_renumber 45 = .ok (.iload_n 1, 1) := by decide +kernel
theorem dX5_renumber_46 : decode cX5_renumber 46 = .ok (.iaload, 1) := by decide +kernel
theorem dX5_renumber_47 : decode cX5_renumber 47 = .ok (.iload_n 3, 1) := by decide +kernel
theorem dX5_renumber_48 : decode cX5_renumber 48 = .ok (.if_icmp .lt 15, 3) := by decide +kernel
theorem dX5_renumber_51 : decode cX5_renumber 51 = .ok (.aload_n 0, 1) := by decide +kernel
theorem dX5_renumber_52 : decode cX5_renumber 52 = .ok (.getfield 22, 3) := by decide +kernel
theorem dX5_renumber_55 : decode cX5_renumber 55 = .ok (.iload_n 1, 1) := by decide +kernel
theorem dX5_renumber_56 : decode cX5_renumber 56 = .ok (.iaload, 1) := by decide +kernel
theorem dX5_renumber_57 : decode cX5_renumber 57 = .ok (.iload 4, 2) := by decide +kernel
theorem dX5_renumber_59 : decode cX5_renumber 59 = .ok (.iadd, 1) := by decide +kernel
theorem dX5_renumber_60 : decode cX5_renumber 60 = .ok (.goto 9, 3) := by decide +kernel
theorem dX5_renumber_63 : decode cX5_renumber 63 = .ok (.aload_n 0, 1) := by decide +kernel
theorem dX5_renumber_64 : decode cX5_renumber 64 = .ok (.getfield 22, 3) := by decide +kernel
theorem dX5_renumber_67 : decode cX5_renumber 67 = .ok (.iload_n 1, 1) := by decide +kernel
theorem dX5_renumber_68 : decode cX5_renumber 68 = .ok (.iaload, 1) := by decide +kernel
theorem dX5_renumber_69 : decode cX5_renumber 69 = .ok (.iastore, 1) := by decide +kernel
theorem dX5_renumber_70 : decode cX5_renumber 70 = .ok (.aload_n 0, 1) := by decide +kernel
theorem dX5_renumber_71 : decode cX5_renumber 71 = .ok (.getfield 25, 3) := by decide +kernel
theorem dX5_renumber_74 : decode cX5_renumber 74 = .ok (.iload_n 2, 1) := by decide +kernel
theorem dX5_renumber_75 : decode cX5_renumber 75 = .ok (.aload_n 0, 1) := by decide +kernel
theorem dX5_renumber_76 : decode cX5_renumber 76 = .ok (.getfield 25, 3) := by decide +kernel
theorem dX5_renumber_79 : decode cX5_renumber 79 = .ok (.iload_n 1, 1) := by decide +kernel
theorem dX5_renumber_80 : decode cX5_renumber 80 = .ok (.iaload, 1) := by decide +kernel
theorem dX5_renumber_81 : decode cX5_renumber 81 = .ok (.iastore, 1) := by decide +kernel
theorem dX5_renumber_82 : decode cX5_renumber 82 = .ok (.return_, 1) := by decide +kernel
set_option maxRecDepth 20000 in
theorem ggX5_graft_X5_holds : GoodIn wsX5_graft wsX5_holds := goodIn_r _ [10, 11, 28, 29, 30, 31, 32, 33, 34] (by decide +kernel) (by decide +kernel)
set_option maxRecDepth 20000 in
theorem gX5_graft_X5_holds : GoodIn wsX5_graft (wsV RX5 52 RX5 yX5_holds wsX5_holds) := goodIn_app (goodIn_of _ (by decide +kernel)) ggX5_graft_X5_holds
set_option maxRecDepth 20000 in
theorem ggX5_graft_X5_widthOf : GoodIn wsX5_graft wsX5_widthOf := goodIn_r _ [15, 11, 1, 28, 29, 30, 31, 32, 33, 34] (by decide +kernel) (by decide +kernel)
set_option maxRecDepth 20000 in
theorem gX5_graft_X5_widthOf : GoodIn wsX5_graft (wsV RX5 41 RX5 yX5_widthOf wsX5_widthOf) := goodIn_app (goodIn_of _ (by decide +kernel)) ggX5_graft_X5_widthOf
set_option maxRecDepth 20000 in
theorem ggX5_graft_X5_openGap : GoodIn wsX5_graft wsX5_openGap := goodIn_r _ [19, 11, 20, 21, 22, 9, 23, 2, 3, 4, 1, 5, 28, 29, 30, 31, 32, 33, 34] (by decide +kernel) (by decide +kernel)
set_option maxRecDepth 20000 in
theorem gX5_graft_X5_openGap : GoodIn wsX5_graft (wsV RX5 56 RX5 yX5_openGap wsX5_openGap) := goodIn_app (goodIn_of _ (by decide +kernel)) ggX5_graft_X5_openGap
set_option maxRecDepth 20000 in
theorem ggX5_graft_X5_setNode : GoodIn wsX5_graft wsX5_setNode := goodIn_r _ [27, 2, 3, 4, 1, 5, 28, 29, 30, 31, 32, 33, 34] (by decide +kernel) (by decide +kernel)
set_option maxRecDepth 20000 in
theorem gX5_graft_X5_setNode : GoodIn wsX5_graft (wsV RX5 60 RX5 yX5_setNode wsX5_setNode) := goodIn_app (goodIn_of _ (by decide +kernel)) ggX5_graft_X5_setNode
theorem dX5_graft_0 : decode cX5_graft 0 = .ok (.aload_n 1, 1) := by decide +kernel
theorem dX5_graft_1 : decode cX5_graft 1 = .ok (.iload_n 2, 1) := by decide +kernel
theorem dX5_graft_2 : decode cX5_graft 2 = .ok (.invokevirtual 52, 3) := by decide +kernel
theorem dX5_graft_5 : decode cX5_graft 5 = .ok (.ifCond .ne 5, 3) := by decide +kernel
theorem dX5_graft_8 : decode cX5_graft 8 = .ok (.iconst 0, 1) := by decide +kernel
theorem dX5_graft_9 : decode cX5_graft 9 = .ok (.ireturn, 1) := by decide +kernel
theorem dX5_graft_10 : decode cX5_graft 10 = .ok (.aload_n 1, 1) := by decide +kernel
theorem dX5_graft_11 : decode cX5_graft 11 = .ok (.iload_n 2, 1) := by decide +kernel
theorem dX5_graft_12 : decode cX5_graft 12 = .ok (.invokevirtual 41, 3) := by decide +kernel
theorem dX5_graft_15 : decode cX5_graft 15 = .ok (.istore 6, 2) := by decide +kernel
theorem dX5_graft_17 : decode cX5_graft 17 = .ok (.aload_n 0, 1) := by decide +kernel
theorem dX5_graft_18 : decode cX5_graft 18 = .ok (.iload 4, 2) := by decide +kernel
theorem dX5_graft_20 : decode cX5_graft 20 = .ok (.iload 6, 2) := by decide +kernel
theorem dX5_graft_22 : decode cX5_graft 22 = .ok (.invokevirtual 56, 3) := by decide +kernel
theorem dX5_graft_25 : decode cX5_graft 25 = .ok (.ifCond .ne 5, 3) := by decide +kernel
theorem dX5_graft_28 : decode cX5_graft 28 = .ok (.iconst 0, 1) := by decide +kernel
theorem dX5_graft_29 : decode cX5_graft 29 = .ok (.ireturn, 1) := by decide +kernel
theorem dX5_graft_30 : decode cX5_graft 30 = .ok (.iconst 0, 1) := by decide +kernel
theorem dX5_graft_31 : decode cX5_graft 31 = .ok (.istore 7, 2) := by decide +kernel
theorem dX5_graft_33 : decode cX5_graft 33 = .ok (.iload 7, 2) := by decide +kernel
theorem dX5_graft_35 : decode cX5_graft 35 = .ok (.iload 6, 2) := by decide +kernel
theorem dX5_graft_37 : decode cX5_graft 37 = .ok (.if_icmp .ge 70, 3) := by decide +kernel
theorem dX5_graft_40 : decode cX5_graft 40 = .ok (.iload_n 2, 1) := by decide +kernel
theorem dX5_graft_41 : decode cX5_graft 41 = .ok (.iload 7, 2) := by decide +kernel
theorem dX5_graft_43 : decode cX5_graft 43 = .ok (.iadd, 1) := by decide +kernel
theorem dX5_graft_44 : decode cX5_graft 44 = .ok (.istore 8, 2) := by decide +kernel
theorem dX5_graft_46 : decode cX5_graft 46 = .ok (.iload 7, 2) := by decide +kernel
theorem dX5_graft_48 : decode cX5_graft 48 = .ok (.ifCond .ne 7, 3) := by decide +kernel
theorem dX5_graft_51 : decode cX5_graft 51 = .ok (.iload_n 3, 1) := by decide +kernel
theorem dX5_graft_52 : decode cX5_graft 52 = .ok (.goto 15, 3) := by decide +kernel
theorem dX5_graft_55 : decode cX5_graft 55 = .ok (.aload_n 1, 1) := by decide +kernel
theorem dX5_graft_56 : decode cX5_graft 56 = .ok (.getfield 22, 3) := by decide +kernel
theorem dX5_graft_59 : decode cX5_graft 59 = .ok (.iload 8, 2) := by decide +kernel
theorem dX5_graft_61 : decode cX5_graft 61 = .ok (.iaload, 1) := by decide +kernel
theorem dX5_graft_62 : decode cX5_graft 62 = .ok (.iload_n 2, 1) := by decide +kernel
theorem dX5_graft_63 : decode cX5_graft 63 = .ok (.isub, 1) := by decide +kernel
theorem dX5_graft_64 : decode cX5_graft 64 = .ok (.iload 4, 2) := by decide +kernel
theorem dX5_graft_66 : decode cX5_graft 66 = .ok (.iadd, 1) := by decide +kernel
theorem dX5_graft_67 : decode cX5_graft 67 = .ok (.istore 9, 2) := by decide +kernel
theorem dX5_graft_69 : decode cX5_graft 69 = .ok (.aload_n 0, 1) := by decide +kernel
theorem dX5_graft_70 : decode cX5_graft 70 = .ok (.iload 4, 2) := by decide +kernel
theorem dX5_graft_72 : decode cX5_graft 72 = .ok (.iload 7, 2) := by decide +kernel
theorem dX5_graft_74 : decode cX5_graft 74 = .ok (.iadd, 1) := by decide +kernel
theorem dX5_graft_75 : decode cX5_graft 75 = .ok (.aload_n 1, 1) := by decide +kernel
theorem dX5_graft_76 : decode cX5_graft 76 = .ok (.getfield 9, 3) := by decide +kernel
theorem dX5_graft_79 : decode cX5_graft 79 = .ok (.iload 8, 2) := by decide +kernel
theorem dX5_graft_81 : decode cX5_graft 81 = .ok (.caload, 1) := by decide +kernel
theorem dX5_graft_82 : decode cX5_graft 82 = .ok (.aload_n 1, 1) := by decide +kernel
theorem dX5_graft_83 : decode cX5_graft 83 = .ok (.getfield 15, 3) := by decide +kernel
theorem dX5_graft_86 : decode cX5_graft 86 = .ok (.iload 8, 2) := by decide +kernel
theorem dX5_graft_88 : decode cX5_graft 88 = .ok (.iaload, 1) := by decide +kernel
theorem dX5_graft_89 : decode cX5_graft 89 = .ok (.aload_n 1, 1) := by decide +kernel
theorem dX5_graft_90 : decode cX5_graft 90 = .ok (.getfield 19, 3) := by decide +kernel
theorem dX5_graft_93 : decode cX5_graft 93 = .ok (.iload 8, 2) := by decide +kernel
theorem dX5_graft_95 : decode cX5_graft 95 = .ok (.iaload, 1) := by decide +kernel
theorem dX5_graft_96 : decode cX5_graft 96 = .ok (.iload 9, 2) := by decide +kernel
theorem dX5_graft_98 : decode cX5_graft 98 = .ok (.invokevirtual 60, 3) := by decide +kernel
theorem dX5_graft_101 : decode cX5_graft 101 = .ok (.iinc 7 1, 3) := by decide +kernel
theorem dX5_graft_104 : decode cX5_graft 104 = .ok (.goto (-71), 3) := by decide +kernel
theorem dX5_graft_107 : decode cX5_graft 107 = .ok (.aload_n 0, 1) := by decide +kernel
theorem dX5_graft_108 : decode cX5_graft 108 = .ok (.getfield 25, 3) := by decide +kernel
theorem dX5_graft_111 : decode cX5_graft 111 = .ok (.iload 4, 2) := by decide +kernel
theorem dX5_graft_113 : decode cX5_graft 113 = .ok (.iload 5, 2) := by decide +kernel
theorem dX5_graft_115 : decode cX5_graft 115 = .ok (.iastore, 1) := by decide +kernel
theorem dX5_graft_116 : decode cX5_graft 116 = .ok (.iconst 1, 1) := by decide +kernel
theorem dX5_graft_117 : decode cX5_graft 117 = .ok (.ireturn, 1) := by decide +kernel
theorem dX5_markByNumber_0 : decode cX5_markByNumber 0 = .ok (.iconst 0, 1) := by decide +kernel
theorem dX5_markByNumber_1 : decode cX5_markByNumber 1 = .ok (.istore_n 1, 1) := by decide +kernel
theorem dX5_markByNumber_2 : decode cX5_markByNumber 2 = .ok (.iload_n 1, 1) := by decide +kernel
theorem dX5_markByNumber_3 : decode cX5_markByNumber 3 = .ok (.aload_n 0, 1) := by decide +kernel
theorem dX5_markByNumber_4 : decode cX5_markByNumber 4 = .ok (.getfield 31, 3) := by decide +kernel
theorem dX5_markByNumber_7 : decode cX5_markByNumber 7 = .ok (.if_icmp .ge 16, 3) := by decide +kernel
theorem dX5_markByNumber_10 : decode cX5_markByNumber 10 = .ok (.aload_n 0, 1) := by decide +kernel
theorem dX5_markByNumber_11 : decode cX5_markByNumber 11 = .ok (.getfield 25, 3) := by decide +kernel
theorem dX5_markByNumber_14 : decode cX5_markByNumber 14 = .ok (.iload_n 1, 1) := by decide +kernel
theorem dX5_markByNumber_15 : decode cX5_markByNumber 15 = .ok (.iload_n 1, 1) := by decide +kernel
theorem dX5_markByNumber_16 : decode cX5_markByNumber 16 = .ok (.iastore, 1) := by decide +kernel
theorem dX5_markByNumber_17 : decode cX5_markByNumber 17 = .ok (.iinc 1 1, 3) := by decide +kernel
theorem dX5_markByNumber_20 : decode cX5_markByNumber 20 = .ok (.goto (-18), 3) := by decide +kernel
theorem dX5_markByNumber_23 : decode cX5_markByNumber 23 = .ok (.return_, 1) := by decide +kernel
theorem dX5_findMark_0 : decode cX5_findMark 0 = .ok (.iload_n 1, 1) := by decide +kernel
theorem dX5_findMark_1 : decode cX5_findMark 1 = .ok (.iconst (-1), 1) := by decide +kernel
theorem dX5_findMark_2 : decode cX5_findMark 2 = .ok (.if_icmp .ne 5, 3) := by decide +kernel
theorem dX5_findMark_5 : decode cX5_findMark 5 = .ok (.iconst (-1), 1) := by decide +kernel
theorem dX5_findMark_6 : decode cX5_findMark 6 = .ok (.ireturn, 1) := by decide +kernel
theorem dX5_findMark_7 : decode cX5_findMark 7 = .ok (.iconst 0, 1) := by decide +kernel
theorem dX5_findMark_8 : decode cX5_findMark 8 = .ok (.istore_n 2, 1) := by decide +kernel
theorem dX5_findMark_9 : decode cX5_findMark 9 = .ok (.iload_n 2, 1) := by decide +kernel
theorem dX5_findMark_10 : decode cX5_findMark 10 = .ok (.aload_n 0, 1) := by decide +kernel
theorem dX5_findMark_11 : decode cX5_findMark 11 = .ok (.getfield 31, 3) := by decide +kernel
theorem dX5_findMark_14 : decode cX5_findMark 14 = .ok (.if_icmp .ge 21, 3) := by decide +kernel
theorem dX5_findMark_17 : decode cX5_findMark 17 = .ok (.aload_n 0, 1) := by decide +kernel
theorem dX5_findMark_18 : decode cX5_findMark 18 = .ok (.getfield 25, 3) := by decide +kernel
theorem dX5_findMark_21 : decode cX5_findMark 21 = .ok (.iload_n 2, 1) := by decide +kernel
theorem dX5_findMark_22 : decode cX5_findMark 22 = .ok (.iaload, 1) := by decide +kernel
theorem dX5_findMark_23 : decode cX5_findMark 23 = .ok (.iload_n 1, 1) := by decide +kernel
theorem dX5_findMark_24 : decode cX5_findMark 24 = .ok (.if_icmp .ne 5, 3) := by decide +kernel
theorem dX5_findMark_27 : decode cX5_findMark 27 = .ok (.iload_n 2, 1) := by decide +kernel
theorem dX5_findMark_28 : decode cX5_findMark 28 = .ok (.ireturn, 1) := by decide +kernel
theorem dX5_findMark_29 : decode cX5_findMark 29 = .ok (.iinc 2 1, 3) := by decide +kernel
theorem dX5_findMark_32 : decode cX5_findMark 32 = .ok (.goto (-23), 3) := by decide +kernel
theorem dX5_findMark_35 : decode cX5_findMark 35 = .ok (.iconst (-1), 1) := by decide +kernel
theorem dX5_findMark_36 : decode cX5_findMark 36 = .ok (.ireturn, 1) := by decide +kernel
set_option maxRecDepth 20000 in
theorem ggX5_equalsAt_X5_hasShapeAt : GoodIn wsX5_equalsAt wsX5_hasShapeAt := goodIn_r _ [8, 9, 10, 11, 12, 7, 13, 14, 15, 16, 17, 18, 19, 20, 21] (by decide +kernel) (by decide +kernel)
set_option maxRecDepth 20000 in
theorem gX5_equalsAt_X5_hasShapeAt : GoodIn wsX5_equalsAt (wsV RX5 64 RX5 yX5_hasShapeAt wsX5_hasShapeAt) := goodIn_app (goodIn_of _ (by decide +kernel)) ggX5_equalsAt_X5_hasShapeAt
set_option maxRecDepth 20000 in
theorem ggX5_equalsAt_X5_widthOf : GoodIn wsX5_equalsAt wsX5_widthOf := goodIn_r _ [13, 14, 9, 15, 16, 17, 18, 19, 20, 21] (by decide +kernel) (by decide +kernel)
set_option maxRecDepth 20000 in
theorem gX5_equalsAt_X5_widthOf : GoodIn wsX5_equalsAt (wsV RX5 41 RX5 yX5_widthOf wsX5_widthOf) := goodIn_app (goodIn_of _ (by decide +kernel)) ggX5_equalsAt_X5_widthOf
theorem dX5_equalsAt_0 : decode cX5_equalsAt 0 = .ok (.aload_n 0, 1) := by decide +kernel
theorem dX5_equalsAt_1 : decode cX5_equalsAt 1 = .ok (.iload_n 1, 1) := by decide +kernel
theorem dX5_equalsAt_2 : decode cX5_equalsAt 2 = .ok (.aload_n 2, 1) := by decide +kernel
theorem dX5_equalsAt_3 : decode cX5_equalsAt 3 = .ok (.iload_n 3, 1) := by decide +kernel
theorem dX5_equalsAt_4 : decode cX5_equalsAt 4 = .ok (.invokevirtual 64, 3) := by decide +kernel
theorem dX5_equalsAt_7 : decode cX5_equalsAt 7 = .ok (.ifCond .ne 5, 3) := by decide +kernel
theorem dX5_equalsAt_10 : decode cX5_equalsAt 10 = .ok (.iconst 0, 1) := by decide +kernel
theorem dX5_equalsAt_11 : decode cX5_equalsAt 11 = .ok (.ireturn, 1) := by decide +kernel
theorem dX5_equalsAt_12 : decode cX5_equalsAt 12 = .ok (.aload_n 0, 1) := by decide +kernel
theorem dX5_equalsAt_13 : decode cX5_equalsAt 13 = .ok (.iload_n 1, 1) := by decide +kernel
theorem dX5_equalsAt_14 : decode cX5_equalsAt 14 = .ok (.invokevirtual 41, 3) := by decide +kernel
theorem dX5_equalsAt_17 : decode cX5_equalsAt 17 = .ok (.istore 4, 2) := by decide +kernel
theorem dX5_equalsAt_19 : decode cX5_equalsAt 19 = .ok (.iconst 0, 1) := by decide +kernel
theorem dX5_equalsAt_20 : decode cX5_equalsAt 20 = .ok (.istore 5, 2) := by decide +kernel
theorem dX5_equalsAt_22 : decode cX5_equalsAt 22 = .ok (.iload 5, 2) := by decide +kernel
theorem dX5_equalsAt_24 : decode cX5_equalsAt 24 = .ok (.iload 4, 2) := by decide +kernel
theorem dX5_equalsAt_26 : decode cX5_equalsAt 26 = .ok (.if_icmp .ge 74, 3) := by decide +kernel
theorem dX5_equalsAt_29 : decode cX5_equalsAt 29 = .ok (.iload_n 1, 1) := by decide +kernel
theorem dX5_equalsAt_30 : decode cX5_equalsAt 30 = .ok (.iload 5, 2) := by decide +kernel
theorem dX5_equalsAt_32 : decode cX5_equalsAt 32 = .ok (.iadd, 1) := by decide +kernel
theorem dX5_equalsAt_33 : decode cX5_equalsAt 33 = .ok (.istore 6, 2) := by decide +kernel
theorem dX5_equalsAt_35 : decode cX5_equalsAt 35 = .ok (.iload_n 3, 1) := by decide +kernel
theorem dX5_equalsAt_36 : decode cX5_equalsAt 36 = .ok (.iload 5, 2) := by decide +kernel
theorem dX5_equalsAt_38 : decode cX5_equalsAt 38 = .ok (.iadd, 1) := by decide +kernel
theorem dX5_equalsAt_39 : decode cX5_equalsAt 39 = .ok (.istore 7, 2) := by decide +kernel
theorem dX5_equalsAt_41 : decode cX5_equalsAt 41 = .ok (.aload_n 0, 1) := by decide +kernel
theorem dX5_equalsAt_42 : decode cX5_equalsAt 42 = .ok (.getfield 9, 3) := by decide +kernel
theorem dX5_equalsAt_45 : decode cX5_equalsAt 45 = .ok (.iload 6, 2) := by decide +kernel
theorem dX5_equalsAt_47 : decode cX5_equalsAt 47 = .ok (.caload, 1) := by decide +kernel
theorem dX5_equalsAt_48 : decode cX5_equalsAt 48 = .ok (.aload_n 2, 1) := by decide +kernel
theorem dX5_equalsAt_49 : decode cX5_equalsAt 49 = .ok (.getfield 9, 3) := by decide +kernel
theorem dX5_equalsAt_52 : decode cX5_equalsAt 52 = .ok (.iload 7, 2) := by decide +kernel
theorem dX5_equalsAt_54 : decode cX5_equalsAt 54 = .ok (.caload, 1) := by decide +kernel
theorem dX5_equalsAt_55 : decode cX5_equalsAt 55 = .ok (.if_icmp .ne 37, 3) := by decide +kernel
theorem dX5_equalsAt_58 : decode cX5_equalsAt 58 = .ok (.aload_n 0, 1) := by decide +kernel
theorem dX5_equalsAt_59 : decode cX5_equalsAt 59 = .ok (.getfield 15, 3) := by decide +kernel
theorem dX5_equalsAt_62 : decode cX5_equalsAt 62 = .ok (.iload 6, 2) := by decide +kernel
theorem dX5_equalsAt_64 : decode cX5_equalsAt 64 = .ok (.iaload, 1) := by decide +kernel
theorem dX5_equalsAt_65 : decode cX5_equalsAt 65 = .ok (.aload_n 2, 1) := by decide +kernel
theorem dX5_equalsAt_66 : decode cX5_equalsAt 66 = .ok (.getfield 15, 3) := by decide +kernel
theorem dX5_equalsAt_69 : decode cX5_equalsAt 69 = .ok (.iload 7, 2) := by decide +kernel
theorem dX5_equalsAt_71 : decode cX5_equalsAt 71 = .ok (.iaload, 1) := by decide +kernel
theorem dX5_equalsAt_72 : decode cX5_equalsAt 72 = .ok (.if_icmp .ne 20, 3) := by decide +kernel
theorem dX5_equalsAt_75 : decode cX5_equalsAt 75 = .ok (.aload_n 0, 1) := by decide +kernel
theorem dX5_equalsAt_76 : decode cX5_equalsAt 76 = .ok (.getfield 19, 3) := by decide +kernel
theorem dX5_equalsAt_79 : decode cX5_equalsAt 79 = .ok (.iload 6, 2) := by decide +kernel
theorem dX5_equalsAt_81 : decode cX5_equalsAt 81 = .ok (.iaload, 1) := by decide +kernel
theorem dX5_equalsAt_82 : decode cX5_equalsAt 82 = .ok (.aload_n 2, 1) := by decide +kernel
theorem dX5_equalsAt_83 : decode cX5_equalsAt 83 = .ok (.getfield 19, 3) := by decide +kernel
theorem dX5_equalsAt_86 : decode cX5_equalsAt 86 = .ok (.iload 7, 2) := by decide +kernel
theorem dX5_equalsAt_88 : decode cX5_equalsAt 88 = .ok (.iaload, 1) := by decide +kernel
theorem dX5_equalsAt_89 : decode cX5_equalsAt 89 = .ok (.if_icmp .eq 5, 3) := by decide +kernel
theorem dX5_equalsAt_92 : decode cX5_equalsAt 92 = .ok (.iconst 0, 1) := by decide +kernel
theorem dX5_equalsAt_93 : decode cX5_equalsAt 93 = .ok (.ireturn, 1) := by decide +kernel
theorem dX5_equalsAt_94 : decode cX5_equalsAt 94 = .ok (.iinc 5 1, 3) := by decide +kernel
theorem dX5_equalsAt_97 : decode cX5_equalsAt 97 = .ok (.goto (-75), 3) := by decide +kernel
theorem dX5_equalsAt_100 : decode cX5_equalsAt 100 = .ok (.iconst 1, 1) := by decide +kernel
theorem dX5_equalsAt_101 : decode cX5_equalsAt 101 = .ok (.ireturn, 1) := by decide +kernel
set_option maxRecDepth 20000 in
theorem ggX5_hasShapeAt_X5_widthOf : GoodIn wsX5_hasShapeAt wsX5_widthOf := goodIn_r _ [6, 7, 1, 8, 9, 10, 11, 12, 13, 14] (by decide +kernel) (by decide +kernel)
set_option maxRecDepth 20000 in
theorem gX5_hasShapeAt_X5_widthOf : GoodIn wsX5_hasShapeAt (wsV RX5 41 RX5 yX5_widthOf wsX5_widthOf) := goodIn_app (goodIn_of _ (by decide +kernel)) ggX5_hasShapeAt_X5_widthOf
theorem dX5_hasShapeAt_0 : decode cX5_hasShapeAt 0 = .ok (.aload_n 0, 1) := by decide +kernel
theorem dX5_hasShapeAt_1 : decode cX5_hasShapeAt 1 = .ok (.iload_n 1, 1) := by decide +kernel
theorem dX5_hasShapeAt_2 : decode cX5_hasShapeAt 2 = .ok (.invokevirtual 41, 3) := by decide +kernel
theorem dX5_hasShapeAt_5 : decode cX5_hasShapeAt 5 = .ok (.istore 4, 2) := by decide +kernel
theorem dX5_hasShapeAt_7 : decode cX5_hasShapeAt 7 = .ok (.iload 4, 2) := by decide +kernel
theorem dX5_hasShapeAt_9 : decode cX5_hasShapeAt 9 = .ok (.aload_n 2, 1) := by decide +kernel
theorem dX5_hasShapeAt_10 : decode cX5_hasShapeAt 10 = .ok (.iload_n 3, 1) := by decide +kernel
theorem dX5_hasShapeAt_11 : decode cX5_hasShapeAt 11 = .ok (.invokevirtual 41, 3) := by decide +kernel
theorem dX5_hasShapeAt_14 : decode cX5_hasShapeAt 14 = .ok (.if_icmp .eq 5, 3) := by decide +kernel
theorem dX5_hasShapeAt_17 : decode cX5_hasShapeAt 17 = .ok (.iconst 0, 1) := by decide +kernel
theorem dX5_hasShapeAt_18 : decode cX5_hasShapeAt 18 = .ok (.ireturn, 1) := by decide +kernel
theorem dX5_hasShapeAt_19 : decode cX5_hasShapeAt 19 = .ok (.iconst 1, 1) := by decide +kernel
theorem dX5_hasShapeAt_20 : decode cX5_hasShapeAt 20 = .ok (.istore 5, 2) := by decide +kernel
theorem dX5_hasShapeAt_22 : decode cX5_hasShapeAt 22 = .ok (.iload 5, 2) := by decide +kernel
theorem dX5_hasShapeAt_24 : decode cX5_hasShapeAt 24 = .ok (.iload 4, 2) := by decide +kernel
theorem dX5_hasShapeAt_26 : decode cX5_hasShapeAt 26 = .ok (.if_icmp .ge 36, 3) := by decide +kernel
theorem dX5_hasShapeAt_29 : decode cX5_hasShapeAt 29 = .ok (.aload_n 0, 1) := by decide +kernel
theorem dX5_hasShapeAt_30 : decode cX5_hasShapeAt 30 = .ok (.getfield 22, 3) := by decide +kernel
theorem dX5_hasShapeAt_33 : decode cX5_hasShapeAt 33 = .ok (.iload_n 1, 1) := by decide +kernel
theorem dX5_hasShapeAt_34 : decode cX5_hasShapeAt 34 = .ok (.iload 5, 2) := by decide +kernel
theorem dX5_hasShapeAt_36 : decode cX5_hasShapeAt 36 = .ok (.iadd, 1) := by decide +kernel
theorem dX5_hasShapeAt_37 : decode cX5_hasShapeAt 37 = .ok (.iaload, 1) := by decide +kernel
theorem dX5_hasShapeAt_38 : decode cX5_hasShapeAt 38 = .ok (.iload_n 1, 1) := by decide +kernel
theorem dX5_hasShapeAt_39 : decode cX5_hasShapeAt 39 = .ok (.isub, 1) := by decide +kernel
theorem dX5_hasShapeAt_40 : decode cX5_hasShapeAt 40 = .ok (.aload_n 2, 1) := by decide +kernel
theorem dX5_hasShapeAt_41 : decode cX5_hasShapeAt 41 = .ok (.getfield 22, 3) := by decide +kernel
theorem dX5_hasShapeAt_44 : decode cX5_hasShapeAt 44 = .ok (.iload_n 3, 1) := by decide +kernel
theorem dX5_hasShapeAt_45 : decode cX5_hasShapeAt 45 = .ok (.iload 5, 2) := by decide +kernel
theorem dX5_hasShapeAt_47 : decode cX5_hasShapeAt 47 = .ok (.iadd, 1) := by decide +kernel
theorem dX5_hasShapeAt_48 : decode cX5_hasShapeAt 48 = .ok (.iaload, 1) := by decide +kernel
theorem dX5_hasShapeAt_49 : decode cX5_hasShapeAt 49 = .ok (.iload_n 3, 1) := by decide +kernel
theorem dX5_hasShapeAt_50 : decode cX5_hasShapeAt 50 = .ok (.isub, 1) := by decide +kernel
theorem dX5_hasShapeAt_51 : decode cX5_hasShapeAt 51 = .ok (.if_icmp .eq 5, 3) := by decide +kernel
theorem dX5_hasShapeAt_54 : decode cX5_hasShapeAt 54 = .ok (.iconst 0, 1) := by decide +kernel
theorem dX5_hasShapeAt_55 : decode cX5_hasShapeAt 55 = .ok (.ireturn, 1) := by decide +kernel
theorem dX5_hasShapeAt_56 : decode cX5_hasShapeAt 56 = .ok (.iinc 5 1, 3) := by decide +kernel
theorem dX5_hasShapeAt_59 : decode cX5_hasShapeAt 59 = .ok (.goto (-37), 3) := by decide +kernel
theorem dX5_hasShapeAt_62 : decode cX5_hasShapeAt 62 = .ok (.iconst 1, 1) := by decide +kernel
theorem dX5_hasShapeAt_63 : decode cX5_hasShapeAt 63 = .ok (.ireturn, 1) := by decide +kernel
set_option maxRecDepth 20000 in
theorem ggX5_hashOf_X5_endOf : GoodIn wsX5_hashOf wsX5_endOf := goodIn_r _ [10, 11, 12, 13, 9, 14, 15, 4, 20, 21, 22, 23, 24, 25, 26] (by decide +kernel) (by decide +kernel)
set_option maxRecDepth 20000 in
theorem gX5_hashOf_X5_endOf : GoodIn wsX5_hashOf (wsV RX5 45 RX5 yX5_endOf wsX5_endOf) := goodIn_app (goodIn_of _ (by decide +kernel)) ggX5_hashOf_X5_endOf
set_option maxRecDepth 20000 in
theorem ggX5_hashOf_X5_countChildren : GoodIn wsX5_hashOf wsX5_countChildren := goodIn_r _ [19, 15, 4, 20, 21, 22, 23, 24, 25, 26] (by decide +kernel) (by decide +kernel)
set_option maxRecDepth 20000 in
theorem gX5_hashOf_X5_countChildren : GoodIn wsX5_hashOf (wsV RX5 68 RX5 yX5_countChildren wsX5_countChildren) := goodIn_app (goodIn_of _ (by decide +kernel)) ggX5_hashOf_X5_countChildren
theorem dX5_hashOf_0 : decode cX5_hashOf 0 = .ok (.aload_n 0, 1) := by decide +kernel
theorem dX5_hashOf_1 : decode cX5_hashOf 1 = .ok (.iload_n 1, 1) := by decide +kernel
theorem dX5_hashOf_2 : decode cX5_hashOf 2 = .ok (.invokevirtual 45, 3) := by decide +kernel
theorem dX5_hashOf_5 : decode cX5_hashOf 5 = .ok (.istore_n 2, 1) := by decide +kernel
theorem dX5_hashOf_6 : decode cX5_hashOf 6 = .ok (.iload_n 2, 1) := by decide +kernel
theorem dX5_hashOf_7 : decode cX5_hashOf 7 = .ok (.iconst 1, 1) := by decide +kernel
theorem dX5_hashOf_8 : decode cX5_hashOf 8 = .ok (.isub, 1) := by decide +kernel
theorem dX5_hashOf_9 : decode cX5_hashOf 9 = .ok (.istore_n 3, 1) := by decide +kernel
theorem dX5_hashOf_10 : decode cX5_hashOf 10 = .ok (.iload_n 3, 1) := by decide +kernel
theorem dX5_hashOf_11 : decode cX5_hashOf 11 = .ok (.iload_n 1, 1) := by decide +kernel
theorem dX5_hashOf_12 : decode cX5_hashOf 12 = .ok (.if_icmp .lt 97, 3) := by decide +kernel
theorem dX5_hashOf_15 : decode cX5_hashOf 15 = .ok (.aload_n 0, 1) := by decide +kernel
theorem dX5_hashOf_16 : decode cX5_hashOf 16 = .ok (.getfield 9, 3) := by decide +kernel
theorem dX5_hashOf_19 : decode cX5_hashOf 19 = .ok (.iload_n 3, 1) := by decide +kernel
theorem dX5_hashOf_20 : decode cX5_hashOf 20 = .ok (.caload, 1) := by decide +kernel
theorem dX5_hashOf_21 : decode cX5_hashOf 21 = .ok (.bipush 31, 2) := by decide +kernel
theorem dX5_hashOf_23 : decode cX5_hashOf 23 = .ok (.imul, 1) := by decide +kernel
theorem dX5_hashOf_24 : decode cX5_hashOf 24 = .ok (.aload_n 0, 1) := by decide +kernel
theorem dX5_hashOf_25 : decode cX5_hashOf 25 = .ok (.getfield 15, 3) := by decide +kernel
theorem dX5_hashOf_28 : decode cX5_hashOf 28 = .ok (.iload_n 3, 1) := by decide +kernel
theorem dX5_hashOf_29 : decode cX5_hashOf 29 = .ok (.iaload, 1) := by decide +kernel
theorem dX5_hashOf_30 : decode cX5_hashOf 30 = .ok (.iadd, 1) := by decide +kernel
theorem dX5_hashOf_31 : decode cX5_hashOf 31 = .ok (.bipush 31, 2) := by decide +kernel
theorem dX5_hashOf_33 : decode cX5_hashOf 33 = .ok (.imul, 1) := by decide +kernel
theorem dX5_hashOf_34 : decode cX5_hashOf 34 = .ok (.aload_n 0, 1) := by decide +kernel
theorem dX5_hashOf_35 : decode cX5_hashOf 35 = .ok (.getfield 19, 3) := by decide +kernel
theorem dX5_hashOf_38 : decode cX5_hashOf 38 = .ok (.iload_n 3, 1) := by decide +kernel
theorem dX5_hashOf_39 : decode cX5_hashOf 39 = .ok (.iaload, 1) := by decide +kernel
theorem dX5_hashOf_40 : decode cX5_hashOf 40 = .ok (.iadd, 1) := by decide +kernel
theorem dX5_hashOf_41 : decode cX5_hashOf 41 = .ok (.istore 4, 2) := by decide +kernel
theorem dX5_hashOf_43 : decode cX5_hashOf 43 = .ok (.iload_n 3, 1) := by decide +kernel
theorem dX5_hashOf_44 : decode cX5_hashOf 44 = .ok (.iconst 1, 1) := by decide +kernel
theorem dX5_hashOf_45 : decode cX5_hashOf 45 = .ok (.iadd, 1) := by decide +kernel
theorem dX5_hashOf_46 : decode cX5_hashOf 46 = .ok (.istore 5, 2) := by decide +kernel
theorem dX5_hashOf_48 : decode cX5_hashOf 48 = .ok (.iload 5, 2) := by decide +kernel
theorem dX5_hashOf_50 : decode cX5_hashOf 50 = .ok (.iload_n 2, 1) := by decide +kernel
theorem dX5_hashOf_51 : decode cX5_hashOf 51 = .ok (.if_icmp .ge 35, 3) := by decide +kernel
theorem dX5_hashOf_54 : decode cX5_hashOf 54 = .ok (.aload_n 0, 1) := by decide +kernel
theorem dX5_hashOf_55 : decode cX5_hashOf 55 = .ok (.getfield 22, 3) := by decide +kernel
theorem dX5_hashOf_58 : decode cX5_hashOf 58 = .ok (.iload 5, 2) := by decide +kernel
theorem dX5_hashOf_60 : decode cX5_hashOf 60 = .ok (.iaload, 1) := by decide +kernel
theorem dX5_hashOf_61 : decode cX5_hashOf 61 = .ok (.iload_n 3, 1) := by decide +kernel
theorem dX5_hashOf_62 : decode cX5_hashOf 62 = .ok (.if_icmp .ne 18, 3) := by decide +kernel
theorem dX5_hashOf_65 : decode cX5_hashOf 65 = .ok (.iload 4, 2) := by decide +kernel
theorem dX5_hashOf_67 : decode cX5_hashOf 67 = .ok (.bipush 31, 2) := by decide +kernel
theorem dX5_hashOf_69 : decode cX5_hashOf 69 = .ok (.imul, 1) := by decide +kernel
theorem dX5_hashOf_70 : decode cX5_hashOf 70 = .ok (.aload_n 0, 1) := by decide +kernel
theorem dX5_hashOf_71 : decode cX5_hashOf 71 = .ok (.getfield 28, 3) := by decide +kernel
theorem dX5_hashOf_74 : decode cX5_hashOf 74 = .ok (.iload 5, 2) := by decide +kernel
theorem dX5_hashOf_76 : decode cX5_hashOf 76 = .ok (.iaload, 1) := by decide +kernel
theorem dX5_hashOf_77 : decode cX5_hashOf 77 = .ok (.iadd, 1) := by decide +kernel
theorem dX5_hashOf_78 : decode cX5_hashOf 78 = .ok (.istore 4, 2) := by decide +kernel
theorem dX5_hashOf_80 : decode cX5_hashOf 80 = .ok (.iinc 5 1, 3) := by decide +kernel
theorem dX5_hashOf_83 : decode cX5_hashOf 83 = .ok (.goto (-35), 3) := by decide +kernel
theorem dX5_hashOf_86 : decode cX5_hashOf 86 = .ok (.aload_n 0, 1) := by decide +kernel
theorem dX5_hashOf_87 : decode cX5_hashOf 87 = .ok (.getfield 28, 3) := by decide +kernel
theorem dX5_hashOf_90 : decode cX5_hashOf 90 = .ok (.iload_n 3, 1) := by decide +kernel
theorem dX5_hashOf_91 : decode cX5_hashOf 91 = .ok (.iload 4, 2) := by decide +kernel
theorem dX5_hashOf_93 : decode cX5_hashOf 93 = .ok (.bipush 31, 2) := by decide +kernel
theorem dX5_hashOf_95 : decode cX5_hashOf 95 = .ok (.imul, 1) := by decide +kernel
theorem dX5_hashOf_96 : decode cX5_hashOf 96 = .ok (.aload_n 0, 1) := by decide +kernel
theorem dX5_hashOf_97 : decode cX5_hashOf 97 = .ok (.iload_n 3, 1) := by decide +kernel
theorem dX5_hashOf_98 : decode cX5_hashOf 98 = .ok (.invokevirtual 68, 3) := by decide +kernel
theorem dX5_hashOf_101 : decode cX5_hashOf 101 = .ok (.iadd, 1) := by decide +kernel
theorem dX5_hashOf_102 : decode cX5_hashOf 102 = .ok (.iastore, 1) := by decide +kernel
theorem dX5_hashOf_103 : decode cX5_hashOf 103 = .ok (.iinc 3 (-1), 3) := by decide +kernel
theorem dX5_hashOf_106 : decode cX5_hashOf 106 = .ok (.goto (-96), 3) := by decide +kernel
theorem dX5_hashOf_109 : decode cX5_hashOf 109 = .ok (.aload_n 0, 1) := by decide +kernel
theorem dX5_hashOf_110 : decode cX5_hashOf 110 = .ok (.getfield 28, 3) := by decide +kernel
theorem dX5_hashOf_113 : decode cX5_hashOf 113 = .ok (.iload_n 1, 1) := by decide +kernel
theorem dX5_hashOf_114 : decode cX5_hashOf 114 = .ok (.iaload, 1) := by decide +kernel
theorem dX5_hashOf_115 : decode cX5_hashOf 115 = .ok (.ireturn, 1) := by decide +kernel
theorem dX5_listChildren_0 : decode cX5_listChildren 0 = .ok (.iconst 0, 1) := by decide +kernel
theorem dX5_listChildren_1 : decode cX5_listChildren 1 = .ok (.istore_n 3, 1) := by decide +kernel
theorem dX5_listChildren_2 : decode cX5_listChildren 2 = .ok (.iload_n 1, 1) := by decide +kernel
theorem dX5_listChildren_3 : decode cX5_listChildren 3 = .ok (.iconst 1, 1) := by decide +kernel
theorem dX5_listChildren_4 : decode cX5_listChildren 4 = .ok (.iadd, 1) := by decide +kernel
theorem dX5_listChildren_5 : decode cX5_listChildren 5 = .ok (.istore 4, 2) := by decide +kernel
theorem dX5_listChildren_7 : decode cX5_listChildren 7 = .ok (.iload 4, 2) := by decide +kernel
theorem dX5_listChildren_9 : decode cX5_listChildren 9 = .ok (.aload_n 0, 1) := by decide +kernel
theorem dX5_listChildren_10 : decode cX5_listChildren 10 = .ok (.getfield 31, 3) := by decide +kernel
theorem dX5_listChildren_13 : decode cX5_listChildren 13 = .ok (.if_icmp .ge 34, 3) := by decide +kernel
theorem dX5_listChildren_16 : decode cX5_listChildren 16 = .ok (.iload_n 3, 1) := by decide +kernel
theorem dX5_listChildren_17 : decode cX5_listChildren 17 = .ok (.aload_n 2, 1) := by decide +kernel
theorem dX5_listChildren_18 : decode cX5_listChildren 18 = .ok (.arraylength, 1) := by decide +kernel
theorem dX5_listChildren_19 : decode cX5_listChildren 19 = .ok (.if_icmp .ge 28, 3) := by decide +kernel
theorem dX5_listChildren_22 : decode cX5_listChildren 22 = .ok (.aload_n 0, 1) := by decide +kernel
theorem dX5_listChildren_23 : decode cX5_listChildren 23 = .ok (.getfield 22, 3) := by decide +kernel
theorem dX5_listChildren_26 : decode cX5_listChildren 26 = .ok (.iload 4, 2) := by decide +kernel
theorem dX5_listChildren_28 : decode cX5_listChildren 28 = .ok (.iaload, 1) := by decide +kernel
theorem dX5_listChildren_29 : decode cX5_listChildren 29 = .ok (.iload_n 1, 1) := by decide +kernel
theorem dX5_listChildren_30 : decode cX5_listChildren 30 = .ok (.if_icmp .ne 11, 3) := by decide +kernel
theorem dX5_listChildren_33 : decode cX5_listChildren 33 = .ok (.aload_n 2, 1) := by decide +kernel
theorem dX5_listChildren_34 : decode cX5_listChildren 34 = .ok (.iload_n 3, 1) := by decide +kernel
theorem dX5_listChildren_35 : decode cX5_listChildren 35 = .ok (.iload 4, 2) := by decide +kernel
theorem dX5_listChildren_37 : decode cX5_listChildren 37 = .ok (.iastore, 1) := by decide +kernel
theorem dX5_listChildren_38 : decode cX5_listChildren 38 = .ok (.iinc 3 1, 3) := by decide +kernel
theorem dX5_listChildren_41 : decode cX5_listChildren 41 = .ok (.iinc 4 1, 3) := by decide +kernel
theorem dX5_listChildren_44 : decode cX5_listChildren 44 = .ok (.goto (-37), 3) := by decide +kernel
theorem dX5_listChildren_47 : decode cX5_listChildren 47 = .ok (.iload_n 3, 1) := by decide +kernel
theorem dX5_listChildren_48 : decode cX5_listChildren 48 = .ok (.ireturn, 1) := by decide +kernel
set_option maxRecDepth 20000 in
theorem ggX5_listWidths_X5_widthOf : GoodIn wsX5_listWidths wsX5_widthOf := goodIn_r _ [6, 1, 7, 8, 9, 10, 11, 12, 13, 14] (by decide +kernel) (by decide +kernel)
set_option maxRecDepth 20000 in
theorem gX5_listWidths_X5_widthOf : GoodIn wsX5_listWidths (wsV RX5 41 RX5 yX5_widthOf wsX5_widthOf) := goodIn_app (goodIn_of _ (by decide +kernel)) ggX5_listWidths_X5_widthOf
theorem dX5_listWidths_0 : decode cX5_listWidths 0 = .ok (.iconst 0, 1) := by decide +kernel
theorem dX5_listWidths_1 : decode cX5_listWidths 1 = .ok (.istore_n 2, 1) := by decide +kernel
theorem dX5_listWidths_2 : decode cX5_listWidths 2 = .ok (.iload_n 2, 1) := by decide +kernel
theorem dX5_listWidths_3 : decode cX5_listWidths 3 = .ok (.aload_n 0, 1) := by decide +kernel
theorem dX5_listWidths_4 : decode cX5_listWidths 4 = .ok (.getfield 31, 3) := by decide +kernel
theorem dX5_listWidths_7 : decode cX5_listWidths 7 = .ok (.if_icmp .ge 23, 3) := by decide +kernel
theorem dX5_listWidths_10 : decode cX5_listWidths 10 = .ok (.iload_n 2, 1) := by decide +kernel
theorem dX5_listWidths_11 : decode cX5_listWidths 11 = .ok (.aload_n 1, 1) := by decide +kernel
theorem dX5_listWidths_12 : decode cX5_listWidths 12 = .ok (.arraylength, 1) := by decide +kernel
theorem dX5_listWidths_13 : decode cX5_listWidths 13 = .ok (.if_icmp .ge 17, 3) := by decide +kernel
theorem dX5_listWidths_16 : decode cX5_listWidths 16 = .ok (.aload_n 1, 1) := by decide +kernel
theorem dX5_listWidths_17 : decode cX5_listWidths 17 = .ok (.iload_n 2, 1) := by decide +kernel
theorem dX5_listWidths_18 : decode cX5_listWidths 18 = .ok (.aload_n 0, 1) := by decide +kernel
theorem dX5_listWidths_19 : decode cX5_listWidths 19 = .ok (.iload_n 2, 1) := by decide +kernel
theorem dX5_listWidths_20 : decode cX5_listWidths 20 = .ok (.invokevirtual 41, 3) := by decide +kernel
theorem dX5_listWidths_23 : decode cX5_listWidths 23 = .ok (.iastore, 1) := by decide +kernel
theorem dX5_listWidths_24 : decode cX5_listWidths 24 = .ok (.iinc 2 1, 3) := by decide +kernel
theorem dX5_listWidths_27 : decode cX5_listWidths 27 = .ok (.goto (-25), 3) := by decide +kernel
theorem dX5_listWidths_30 : decode cX5_listWidths 30 = .ok (.return_, 1) := by decide +kernel
set_option maxRecDepth 20000 in
theorem ggX5_isSound_X7_isLabel : GoodIn wsX5_isSound wsX7_isLabel := goodIn_r _ [8] (by decide +kernel) (by decide +kernel)
set_option maxRecDepth 20000 in
theorem gX5_isSound_X7_isLabel_n71 : GoodIn wsX5_isSound (wsX7_isLabel) := ggX5_isSound_X7_isLabel
set_option maxRecDepth 20000 in
theorem ggX5_isSound_X7_isKey : GoodIn wsX5_isSound wsX7_isKey := goodIn_r _ [10] (by decide +kernel) (by decide +kernel)
set_option maxRecDepth 20000 in
theorem gX5_isSound_X7_isKey_n74 : GoodIn wsX5_isSound (wsX7_isKey) := ggX5_isSound_X7_isKey
set_option maxRecDepth 20000 in
theorem ggX5_isSound_X7_isValue : GoodIn wsX5_isSound wsX7_isValue := goodIn_r _ [12] (by decide +kernel) (by decide +kernel)
set_option maxRecDepth 20000 in
theorem gX5_isSound_X7_isValue_n77 : GoodIn wsX5_isSound (wsX7_isValue) := ggX5_isSound_X7_isValue
set_option maxRecDepth 20000 in
theorem ggX5_isSound_X5_isSoundChild : GoodIn wsX5_isSound wsX5_isSoundChild := goodIn_r _ [17, 2, 3, 18, 19, 20, 16, 21, 1, 22, 23, 24, 25, 26, 27, 28] (by decide +kernel) (by decide +kernel)
set_option maxRecDepth 20000 in
theorem gX5_isSound_X5_isSoundChild : GoodIn wsX5_isSound (wsV RX5 80 RX5 yX5_isSoundChild wsX5_isSoundChild) := goodIn_app (goodIn_of _ (by decide +kernel)) ggX5_isSound_X5_isSoundChild
theorem dX5_isSound_0 : decode cX5_isSound 0 = .ok (.aload_n 0, 1) := by decide +kernel
theorem dX5_isSound_1 : decode cX5_isSound 1 = .ok (.getfield 31, 3) := by decide +kernel
theorem dX5_isSound_4 : decode cX5_isSound 4 = .ok (.iconst 1, 1) := by decide +kernel
theorem dX5_isSound_5 : decode cX5_isSound 5 = .ok (.if_icmp .lt 31, 3) := by decide +kernel
theorem dX5_isSound_8 : decode cX5_isSound 8 = .ok (.aload_n 0, 1) := by decide +kernel
theorem dX5_isSound_9 : decode cX5_isSound 9 = .ok (.getfield 31, 3) := by decide +kernel
theorem dX5_isSound_12 : decode cX5_isSound 12 = .ok (.bipush 20, 2) := by decide +kernel
theorem dX5_isSound_14 : decode cX5_isSound 14 = .ok (.if_icmp .gt 22, 3) := by decide +kernel
theorem dX5_isSound_17 : decode cX5_isSound 17 = .ok (.aload_n 0, 1) := by decide +kernel
theorem dX5_isSound_18 : decode cX5_isSound 18 = .ok (.getfield 22, 3) := by decide +kernel
theorem dX5_isSound_21 : decode cX5_isSound 21 = .ok (.iconst 0, 1) := by decide +kernel
theorem dX5_isSound_22 : decode cX5_isSound 22 = .ok (.iaload, 1) := by decide +kernel
theorem dX5_isSound_23 : decode cX5_isSound 23 = .ok (.iconst (-1), 1) := by decide +kernel
theorem dX5_isSound_24 : decode cX5_isSound 24 = .ok (.if_icmp .ne 12, 3) := by decide +kernel
theorem dX5_isSound_27 : decode cX5_isSound 27 = .ok (.aload_n 0, 1) := by decide +kernel
theorem dX5_isSound_28 : decode cX5_isSound 28 = .ok (.getfield 15, 3) := by decide +kernel
theorem dX5_isSound_31 : decode cX5_isSound 31 = .ok (.iconst 0, 1) := by decide +kernel
theorem dX5_isSound_32 : decode cX5_isSound 32 = .ok (.iaload, 1) := by decide +kernel
theorem dX5_isSound_33 : decode cX5_isSound 33 = .ok (.ifCond .eq 5, 3) := by decide +kernel
theorem dX5_isSound_36 : decode cX5_isSound 36 = .ok (.iconst 0, 1) := by decide +kernel
theorem dX5_isSound_37 : decode cX5_isSound 37 = .ok (.ireturn, 1) := by decide +kernel
theorem dX5_isSound_38 : decode cX5_isSound 38 = .ok (.iconst 0, 1) := by decide +kernel
theorem dX5_isSound_39 : decode cX5_isSound 39 = .ok (.istore_n 1, 1) := by decide +kernel
theorem dX5_isSound_40 : decode cX5_isSound 40 = .ok (.iload_n 1, 1) := by decide +kernel
theorem dX5_isSound_41 : decode cX5_isSound 41 = .ok (.aload_n 0, 1) := by decide +kernel
theorem dX5_isSound_42 : decode cX5_isSound 42 = .ok (.getfield 31, 3) := by decide +kernel
theorem dX5_isSound_45 : decode cX5_isSound 45 = .ok (.if_icmp .ge 61, 3) := by decide +kernel
theorem dX5_isSound_48 : decode cX5_isSound 48 = .ok (.aload_n 0, 1) := by decide +kernel
theorem dX5_isSound_49 : decode cX5_isSound 49 = .ok (.getfield 9, 3) := by decide +kernel
theorem dX5_isSound_52 : decode cX5_isSound 52 = .ok (.iload_n 1, 1) := by decide +kernel
theorem dX5_isSound_53 : decode cX5_isSound 53 = .ok (.caload, 1) := by decide +kernel
theorem dX5_isSound_54 : decode cX5_isSound 54 = .ok (.invokestatic 71, 3) := by decide +kernel
theorem dX5_isSound_57 : decode cX5_isSound 57 = .ok (.ifCond .eq 27, 3) := by decide +kernel
theorem dX5_isSound_60 : decode cX5_isSound 60 = .ok (.aload_n 0, 1) := by decide +kernel
theorem dX5_isSound_61 : decode cX5_isSound 61 = .ok (.getfield 15, 3) := by decide +kernel
theorem dX5_isSound_64 : decode cX5_isSound 64 = .ok (.iload_n 1, 1) := by decide +kernel
theorem dX5_isSound_65 : decode cX5_isSound 65 = .ok (.iaload, 1) := by decide +kernel
theorem dX5_isSound_66 : decode cX5_isSound 66 = .ok (.invokestatic 74, 3) := by decide +kernel
theorem dX5_isSound_69 : decode cX5_isSound 69 = .ok (.ifCond .eq 15, 3) := by decide +kernel
theorem dX5_isSound_72 : decode cX5_isSound 72 = .ok (.aload_n 0, 1) := by decide +kernel
theorem dX5_isSound_73 : decode cX5_isSound 73 = .ok (.getfield 19, 3) := by decide +kernel
theorem dX5_isSound_76 : decode cX5_isSound 76 = .ok (.iload_n 1, 1) := by decide +kernel
theorem dX5_isSound_77 : decode cX5_isSound 77 = .ok (.iaload, 1) := by decide +kernel
theorem dX5_isSound_78 : decode cX5_isSound 78 = .ok (.invokestatic 77, 3) := by decide +kernel
theorem dX5_isSound_81 : decode cX5_isSound 81 = .ok (.ifCond .ne 5, 3) := by decide +kernel
theorem dX5_isSound_84 : decode cX5_isSound 84 = .ok (.iconst 0, 1) := by decide +kernel
theorem dX5_isSound_85 : decode cX5_isSound 85 = .ok (.ireturn, 1) := by decide +kernel
theorem dX5_isSound_86 : decode cX5_isSound 86 = .ok (.iload_n 1, 1) := by decide +kernel
theorem dX5_isSound_87 : decode cX5_isSound 87 = .ok (.ifCond .le 13, 3) := by decide +kernel
theorem dX5_isSound_90 : decode cX5_isSound 90 = .ok (.aload_n 0, 1) := by decide +kernel
theorem dX5_isSound_91 : decode cX5_isSound 91 = .ok (.iload_n 1, 1) := by decide +kernel
theorem dX5_isSound_92 : decode cX5_isSound 92 = .ok (.invokevirtual 80, 3) := by decide +kernel
theorem dX5_isSound_95 : decode cX5_isSound 95 = .ok (.ifCond .ne 5, 3) := by decide +kernel
theorem dX5_isSound_98 : decode cX5_isSound 98 = .ok (.iconst 0, 1) := by decide +kernel
theorem dX5_isSound_99 : decode cX5_isSound 99 = .ok (.ireturn, 1) := by decide +kernel
theorem dX5_isSound_100 : decode cX5_isSound 100 = .ok (.iinc 1 1, 3) := by decide +kernel
theorem dX5_isSound_103 : decode cX5_isSound 103 = .ok (.goto (-63), 3) := by decide +kernel
theorem dX5_isSound_106 : decode cX5_isSound 106 = .ok (.iconst 1, 1) := by decide +kernel
theorem dX5_isSound_107 : decode cX5_isSound 107 = .ok (.ireturn, 1) := by decide +kernel
set_option maxRecDepth 20000 in
theorem ggX5_isSoundChild_X5_hasKey : GoodIn wsX5_isSoundChild wsX5_hasKey := goodIn_r _ [7, 8, 1, 2, 9, 10, 11, 12, 13, 14, 15] (by decide +kernel) (by decide +kernel)
set_option maxRecDepth 20000 in
theorem gX5_isSoundChild_X5_hasKey : GoodIn wsX5_isSoundChild (wsV RX5 83 RX5 yX5_hasKey wsX5_hasKey) := goodIn_app (goodIn_of _ (by decide +kernel)) ggX5_isSoundChild_X5_hasKey
theorem dX5_isSoundChild_0 : decode cX5_isSoundChild 0 = .ok (.iload_n 1, 1) := by decide +kernel
theorem dX5_isSoundChild_1 : decode cX5_isSoundChild 1 = .ok (.iconst 1, 1) := by decide +kernel
theorem dX5_isSoundChild_2 : decode cX5_isSoundChild 2 = .ok (.isub, 1) := by decide +kernel
theorem dX5_isSoundChild_3 : decode cX5_isSoundChild 3 = .ok (.istore_n 2, 1) := by decide +kernel
theorem dX5_isSoundChild_4 : decode cX5_isSoundChild 4 = .ok (.iconst 0, 1) := by decide +kernel
theorem dX5_isSoundChild_5 : decode cX5_isSoundChild 5 = .ok (.istore_n 3, 1) := by decide +kernel
theorem dX5_isSoundChild_6 : decode cX5_isSoundChild 6 = .ok (.iload_n 2, 1) := by decide +kernel
theorem dX5_isSoundChild_7 : decode cX5_isSoundChild 7 = .ok (.ifCond .le 32, 3) := by decide +kernel
theorem dX5_isSoundChild_10 : decode cX5_isSoundChild 10 = .ok (.iload_n 2, 1) := by decide +kernel
theorem dX5_isSoundChild_11 : decode cX5_isSoundChild 11 = .ok (.aload_n 0, 1) := by decide +kernel
theorem dX5_isSoundChild_12 : decode cX5_isSoundChild 12 = .ok (.getfield 22, 3) := by decide +kernel
theorem dX5_isSoundChild_15 : decode cX5_isSoundChild 15 = .ok (.iload_n 1, 1) := by decide +kernel
theorem dX5_isSoundChild_16 : decode cX5_isSoundChild 16 = .ok (.iaload, 1) := by decide +kernel
theorem dX5_isSoundChild_17 : decode cX5_isSoundChild 17 = .ok (.if_icmp .le 22, 3) := by decide +kernel
theorem dX5_isSoundChild_20 : decode cX5_isSoundChild 20 = .ok (.iload_n 3, 1) := by decide +kernel
theorem dX5_isSoundChild_21 : decode cX5_isSoundChild 21 = .ok (.bipush 20, 2) := by decide +kernel
theorem dX5_isSoundChild_23 : decode cX5_isSoundChild 23 = .ok (.if_icmp .ge 16, 3) := by decide +kernel
theorem dX5_isSoundChild_26 : decode cX5_isSoundChild 26 = .ok (.aload_n 0, 1) := by decide +kernel
theorem dX5_isSoundChild_27 : decode cX5_isSoundChild 27 = .ok (.getfield 22, 3) := by decide +kernel
theorem dX5_isSoundChild_30 : decode cX5_isSoundChild 30 = .ok (.iload_n 2, 1) := by decide +kernel
theorem dX5_isSoundChild_31 : decode cX5_isSoundChild 31 = .ok (.iaload, 1) := by decide +kernel
theorem dX5_isSoundChild_32 : decode cX5_isSoundChild 32 = .ok (.istore_n 2, 1) := by decide +kernel
theorem dX5_isSoundChild_33 : decode cX5_isSoundChild 33 = .ok (.iinc 3 1, 3) := by decide +kernel
theorem dX5_isSoundChild_36 : decode cX5_isSoundChild 36 = .ok (.goto (-30), 3) := by decide +kernel
theorem dX5_isSoundChild_39 : decode cX5_isSoundChild 39 = .ok (.iload_n 2, 1) := by decide +kernel
theorem dX5_isSoundChild_40 : decode cX5_isSoundChild 40 = .ok (.aload_n 0, 1) := by decide +kernel
theorem dX5_isSoundChild_41 : decode cX5_isSoundChild 41 = .ok (.getfield 22, 3) := by decide +kernel
theorem dX5_isSoundChild_44 : decode cX5_isSoundChild 44 = .ok (.iload_n 1, 1) := by decide +kernel
theorem dX5_isSoundChild_45 : decode cX5_isSoundChild 45 = .ok (.iaload, 1) := by decide +kernel
theorem dX5_isSoundChild_46 : decode cX5_isSoundChild 46 = .ok (.if_icmp .ne 22, 3) := by decide +kernel
theorem dX5_isSoundChild_49 : decode cX5_isSoundChild 49 = .ok (.aload_n 0, 1) := by decide +kernel
theorem dX5_isSoundChild_50 : decode cX5_isSoundChild 50 = .ok (.iload_n 2, 1) := by decide +kernel
theorem dX5_isSoundChild_51 : decode cX5_isSoundChild 51 = .ok (.aload_n 0, 1) := by decide +kernel
theorem dX5_isSoundChild_52 : decode cX5_isSoundChild 52 = .ok (.getfield 15, 3) := by decide +kernel
theorem dX5_isSoundChild_55 : decode cX5_isSoundChild 55 = .ok (.iload_n 1, 1) := by decide +kernel
theorem dX5_isSoundChild_56 : decode cX5_isSoundChild 56 = .ok (.iaload, 1) := by decide +kernel
theorem dX5_isSoundChild_57 : decode cX5_isSoundChild 57 = .ok (.iload_n 1, 1) := by decide +kernel
theorem dX5_isSoundChild_58 : decode cX5_isSoundChild 58 = .ok (.invokevirtual 83, 3) := by decide +kernel
theorem dX5_isSoundChild_61 : decode cX5_isSoundChild 61 = .ok (.ifCond .ne 7, 3) := by decide +kernel
theorem dX5_isSoundChild_64 : decode cX5_isSoundChild 64 = .ok (.iconst 1, 1) := by decide +kernel
theorem dX5_isSoundChild_65 : decode cX5_isSoundChild 65 = .ok (.goto 4, 3) := by decide +kernel
theorem dX5_isSoundChild_68 : decode cX5_isSoundChild 68 = .ok (.iconst 0, 1) := by decide +kernel
theorem dX5_isSoundChild_69 : decode cX5_isSoundChild 69 = .ok (.ireturn, 1) := by decide +kernel
theorem dX6_init_0 : decode cX6_init 0 = .ok (.aload_n 0, 1) := by decide +kernel
theorem dX6_init_1 : decode cX6_init 1 = .ok (.invokespecial 3, 3) := by decide +kernel
theorem dX6_init_4 : decode cX6_init 4 = .ok (.aload_n 0, 1) := by decide +kernel
theorem dX6_init_5 : decode cX6_init 5 = .ok (.bipush 7, 2) := by decide +kernel
theorem dX6_init_7 : decode cX6_init 7 = .ok (.newarray .int, 2) := by decide +kernel
theorem dX6_init_9 : decode cX6_init 9 = .ok (.putfield 9, 3) := by decide +kernel
theorem dX6_init_12 : decode cX6_init 12 = .ok (.return_, 1) := by decide +kernel
set_option maxRecDepth 20000 in
theorem ggX6_leastCost_X6_tryFrom : GoodIn wsX6_leastCost wsX6_tryFrom := goodIn_r _ [7, 2, 3, 8, 9, 10, 11, 1, 12, 13, 14, 6, 15, 16, 17, 18, 19, 20, 4, 5, 21, 22, 23, 24, 25, 26, 27, 28, 31, 32, 33, 34, 35, 36, 37, 29, 30] (by decide +kernel) (by decide +kernel)
set_option maxRecDepth 20000 in
theorem gX6_leastCost_X6_tryFrom : GoodIn wsX6_leastCost (va_wsS RX6 24 yX6_tryFrom wsX6_tryFrom) := goodIn_app (goodIn_of _ (by decide +kernel)) ggX6_leastCost_X6_tryFrom
theorem dX6_leastCost_0 : decode cX6_leastCost 0 = .ok (.aload_n 0, 1) := by decide +kernel
theorem dX6_leastCost_1 : decode cX6_leastCost 1 = .ok (.getfield 9, 3) := by decide +kernel
theorem dX6_leastCost_4 : decode cX6_leastCost 4 = .ok (.iconst 0, 1) := by decide +kernel
theorem dX6_leastCost_5 : decode cX6_leastCost 5 = .ok (.iconst 0, 1) := by decide +kernel
theorem dX6_leastCost_6 : decode cX6_leastCost 6 = .ok (.iastore, 1) := by decide +kernel
theorem dX6_leastCost_7 : decode cX6_leastCost 7 = .ok (.aload_n 0, 1) := by decide +kernel
theorem dX6_leastCost_8 : decode cX6_leastCost 8 = .ok (.iconst 2, 1) := by decide +kernel
theorem dX6_leastCost_9 : decode cX6_leastCost 9 = .ok (.aload_n 1, 1) := by decide +kernel
theorem dX6_leastCost_10 : decode cX6_leastCost 10 = .ok (.getfield 15, 3) := by decide +kernel
theorem dX6_leastCost_13 : decode cX6_leastCost 13 = .ok (.aload_n 2, 1) := by decide +kernel
theorem dX6_leastCost_14 : decode cX6_leastCost 14 = .ok (.getfield 15, 3) := by decide +kernel
theorem dX6_leastCost_17 : decode cX6_leastCost 17 = .ok (.iadd, 1) := by decide +kernel
theorem dX6_leastCost_18 : decode cX6_leastCost 18 = .ok (.imul, 1) := by decide +kernel
theorem dX6_leastCost_19 : decode cX6_leastCost 19 = .ok (.putfield 21, 3) := by decide +kernel
theorem dX6_leastCost_22 : decode cX6_leastCost 22 = .ok (.aload_n 0, 1) := by decide +kernel
theorem dX6_leastCost_23 : decode cX6_leastCost 23 = .ok (.aload_n 1, 1) := by decide +kernel
theorem dX6_leastCost_24 : decode cX6_leastCost 24 = .ok (.aload_n 2, 1) := by decide +kernel
theorem dX6_leastCost_25 : decode cX6_leastCost 25 = .ok (.iconst 1, 1) := by decide +kernel
theorem dX6_leastCost_26 : decode cX6_leastCost 26 = .ok (.invokestatic 24, 3) := by decide +kernel
theorem dX6_leastCost_29 : decode cX6_leastCost 29 = .ok (.aload_n 0, 1) := by decide +kernel
theorem dX6_leastCost_30 : decode cX6_leastCost 30 = .ok (.getfield 21, 3) := by decide +kernel
theorem dX6_leastCost_33 : decode cX6_leastCost 33 = .ok (.ireturn, 1) := by decide +kernel
set_option maxRecDepth 20000 in
theorem ggX6_tryFrom_X6_costOfTried : GoodIn wsX6_tryFrom wsX6_costOfTried := goodIn_r _ [12, 1, 7, 13, 14, 15, 16, 17, 28, 29, 30, 31, 32, 33, 34, 35, 36] (by decide +kernel) (by decide +kernel)
set_option maxRecDepth 20000 in
theorem gX6_tryFrom_X6_costOfTried : GoodIn wsX6_tryFrom (wsV RX6 28 RX6 yX6_costOfTried wsX6_costOfTried) := goodIn_app (goodIn_of _ (by decide +kernel)) ggX6_tryFrom_X6_costOfTried
set_option maxRecDepth 20000 in
theorem ggX6_tryFrom_X6_tryFrom : GoodIn wsX6_tryFrom wsX6_tryFrom := goodIn_r _ [0, 1, 2, 3, 4, 5, 6, 7, 8, 9, 10, 11, 12, 13, 14, 15, 16, 17, 18, 19, 20, 21, 22, 23, 24, 25, 26, 27, 28, 29, 30, 31, 32, 33, 34, 35, 36] (by decide +kernel) (by decide +kernel)
set_option maxRecDepth 20000 in
theorem gX6_tryFrom_X6_tryFrom : GoodIn wsX6_tryFrom (va_wsS RX6 24 yX6_tryFrom wsX6_tryFrom) := goodIn_app (goodIn_of _ (by decide +kernel)) ggX6_tryFrom_X6_tryFrom
set_option maxRecDepth 20000 in
theorem ggX6_tryFrom_X6_canPair : GoodIn wsX6_tryFrom wsX6_canPair := goodIn_r _ [23, 24, 25, 7, 26, 14, 27, 28, 29, 30, 31, 32, 33, 34, 35, 36] (by decide +kernel) (by decide +kernel)
set_option maxRecDepth 20000 in
theorem gX6_tryFrom_X6_canPair : GoodIn wsX6_tryFrom (wsV RX6 38 RX6 yX6_canPair wsX6_canPair) := goodIn_app (goodIn_of _ (by decide +kernel)) ggX6_tryFrom_X6_canPair
theorem dX6_tryFrom_0 : decode cX6_tryFrom 0 = .ok (.iload_n 3, 1) := by decide +kernel
theorem dX6_tryFrom_1 : decode cX6_tryFrom 1 = .ok (.iconst 1, 1) := by decide +kernel
theorem dX6_tryFrom_2 : decode cX6_tryFrom 2 = .ok (.if_icmp .lt 17, 3) := by decide +kernel
theorem dX6_tryFrom_5 : decode cX6_tryFrom 5 = .ok (.iload_n 3, 1) := by decide +kernel
theorem dX6_tryFrom_6 : decode cX6_tryFrom 6 = .ok (.bipush 7, 2) := by decide +kernel
theorem dX6_tryFrom_8 : decode cX6_tryFrom 8 = .ok (.if_icmp .ge 11, 3) := by decide +kernel
theorem dX6_tryFrom_11 : decode cX6_tryFrom 11 = .ok (.iload_n 3, 1) := by decide +kernel
theorem dX6_tryFrom_12 : decode cX6_tryFrom 12 = .ok (.aload_n 1, 1) := by decide +kernel
theorem dX6_tryFrom_13 : decode cX6_tryFrom 13 = .ok (.getfield 15, 3) := by decide +kernel
theorem dX6_tryFrom_16 : decode cX6_tryFrom 16 = .ok (.if_icmp .lt 21, 3) := by decide +kernel
theorem dX6_tryFrom_19 : decode cX6_tryFrom 19 = .ok (.aload_n 0, 1) := by decide +kernel
theorem dX6_tryFrom_20 : decode cX6_tryFrom 20 = .ok (.aload_n 0, 1) := by decide +kernel
theorem dX6_tryFrom_21 : decode cX6_tryFrom 21 = .ok (.getfield 21, 3) := by decide +kernel
theorem dX6_tryFrom_24 : decode cX6_tryFrom 24 = .ok (.aload_n 0, 1) := by decide +kernel
theorem dX6_tryFrom_25 : decode cX6_tryFrom 25 = .ok (.aload_n 1, 1) := by decide +kernel
theorem dX6_tryFrom_26 : decode cX6_tryFrom 26 = .ok (.aload_n 2, 1) := by decide +kernel
theorem dX6_tryFrom_27 : decode cX6_tryFrom 27 = .ok (.invokevirtual 28, 3) := by decide +kernel
theorem dX6_tryFrom_30 : decode cX6_tryFrom 30 = .ok (.invokestatic 32, 3) := by decide +kernel
theorem dX6_tryFrom_33 : decode cX6_tryFrom 33 = .ok (.putfield 21, 3) := by decide +kernel
theorem dX6_tryFrom_36 : decode cX6_tryFrom 36 = .ok (.return_, 1) := by decide +kernel
theorem dX6_tryFrom_37 : decode cX6_tryFrom 37 = .ok (.aload_n 0, 1) := by decide +kernel
theorem dX6_tryFrom_38 : decode cX6_tryFrom 38 = .ok (.getfield 9, 3) := by decide +kernel
theorem dX6_tryFrom_41 : decode cX6_tryFrom 41 = .ok (.iload_n 3, 1) := by decide +kernel
theorem dX6_tryFrom_42 : decode cX6_tryFrom 42 = .ok (.iconst (-1), 1) := by decide +kernel
theorem dX6_tryFrom_43 : decode cX6_tryFrom 43 = .ok (.iastore, 1) := by decide +kernel
theorem dX6_tryFrom_44 : decode cX6_tryFrom 44 = .ok (.aload_n 0, 1) := by decide +kernel
theorem dX6_tryFrom_45 : decode cX6_tryFrom 45 = .ok (.aload_n 1, 1) := by decide +kernel
theorem dX6_tryFrom_46 : decode cX6_tryFrom 46 = .ok (.aload_n 2, 1) := by decide +kernel
theorem dX6_tryFrom_47 : decode cX6_tryFrom 47 = .ok (.iload_n 3, 1) := by decide +kernel
theorem dX6_tryFrom_48 : decode cX6_tryFrom 48 = .ok (.iconst 1, 1) := by decide +kernel
theorem dX6_tryFrom_49 : decode cX6_tryFrom 49 = .ok (.iadd, 1) := by decide +kernel
theorem dX6_tryFrom_50 : decode cX6_tryFrom 50 = .ok (.invokestatic 24, 3) := by decide +kernel
theorem dX6_tryFrom_53 : decode cX6_tryFrom 53 = .ok (.iconst 1, 1) := by decide +kernel
theorem dX6_tryFrom_54 : decode cX6_tryFrom 54 = .ok (.istore 4, 2) := by decide +kernel
theorem dX6_tryFrom_56 : decode cX6_tryFrom 56 = .ok (.iload 4, 2) := by decide +kernel
theorem dX6_tryFrom_58 : decode cX6_tryFrom 58 = .ok (.aload_n 2, 1) := by decide +kernel
theorem dX6_tryFrom_59 : decode cX6_tryFrom 59 = .ok (.getfield 15, 3) := by decide +kernel
theorem dX6_tryFrom_62 : decode cX6_tryFrom 62 = .ok (.if_icmp .ge 38, 3) := by decide +kernel
theorem dX6_tryFrom_65 : decode cX6_tryFrom 65 = .ok (.aload_n 0, 1) := by decide +kernel
theorem dX6_tryFrom_66 : decode cX6_tryFrom 66 = .ok (.aload_n 1, 1) := by decide +kernel
theorem dX6_tryFrom_67 : decode cX6_tryFrom 67 = .ok (.iload_n 3, 1) := by decide +kernel
theorem dX6_tryFrom_68 : decode cX6_tryFrom 68 = .ok (.aload_n 2, 1) := by decide +kernel
theorem dX6_tryFrom_69 : decode cX6_tryFrom 69 = .ok (.iload 4, 2) := by decide +kernel
theorem dX6_tryFrom_71 : decode cX6_tryFrom 71 = .ok (.invokevirtual 38, 3) := by decide +kernel
theorem dX6_tryFrom_74 : decode cX6_tryFrom 74 = .ok (.ifCond .eq 20, 3) := by decide +kernel
theorem dX6_tryFrom_77 : decode cX6_tryFrom 77 = .ok (.aload_n 0, 1) := by decide +kernel
theorem dX6_tryFrom_78 : decode cX6_tryFrom 78 = .ok (.getfield 9, 3) := by decide +kernel
theorem dX6_tryFrom_81 : decode cX6_tryFrom 81 = .ok (.iload_n 3, 1) := by decide +kernel
theorem dX6_tryFrom_82 : decode cX6_tryFrom 82 = .ok (.iload 4, 2) := by decide +kernel
theorem dX6_tryFrom_84 : decode cX6_tryFrom 84 = .ok (.iastore, 1) := by decide +kernel
theorem dX6_tryFrom_85 : decode cX6_tryFrom 85 = .ok (.aload_n 0, 1) := by decide +kernel
theorem dX6_tryFrom_86 : decode cX6_tryFrom 86 = .ok (.aload_n 1, 1) := by decide +kernel
theorem dX6_tryFrom_87 : decode cX6_tryFrom 87 = .ok (.aload_n 2, 1) := by decide +kernel
theorem dX6_tryFrom_88 : decode cX6_tryFrom 88 = .ok (.iload_n 3, 1) := by decide +kernel
theorem dX6_tryFrom_89 : decode cX6_tryFrom 89 = .ok (.iconst 1, 1) := by decide +kernel
theorem dX6_tryFrom_90 : decode cX6_tryFrom 90 = .ok (.iadd, 1) := by decide +kernel
theorem dX6_tryFrom_91 : decode cX6_tryFrom 91 = .ok (.invokestatic 24, 3) := by decide +kernel
theorem dX6_tryFrom_94 : decode cX6_tryFrom 94 = .ok (.iinc 4 1, 3) := by decide +kernel
theorem dX6_tryFrom_97 : decode cX6_tryFrom 97 = .ok (.goto (-41), 3) := by decide +kernel
theorem dX6_tryFrom_100 : decode cX6_tryFrom 100 = .ok (.return_, 1) := by decide +kernel
set_option maxRecDepth 20000 in
theorem ggX6_canPair_X7_entry : GoodIn wsX6_canPair wsX7_entry := goodIn_r _ [6] (by decide +kernel) (by decide +kernel)
set_option maxRecDepth 20000 in
theorem gX6_canPair_X7_entry_n48 : GoodIn wsX6_canPair (wsX7_entry) := ggX6_canPair_X7_entry
theorem dX6_canPair_0 : decode cX6_canPair 0 = .ok (.aload_n 1, 1) := by decide +kernel
theorem dX6_canPair_1 : decode cX6_canPair 1 = .ok (.getfield 42, 3) := by decide +kernel
theorem dX6_canPair_4 : decode cX6_canPair 4 = .ok (.iload_n 2, 1) := by decide +kernel
theorem dX6_canPair_5 : decode cX6_canPair 5 = .ok (.iaload, 1) := by decide +kernel
theorem dX6_canPair_6 : decode cX6_canPair 6 = .ok (.istore 5, 2) := by decide +kernel
theorem dX6_canPair_8 : decode cX6_canPair 8 = .ok (.aload_n 1, 1) := by decide +kernel
theorem dX6_canPair_9 : decode cX6_canPair 9 = .ok (.getfield 45, 3) := by decide +kernel
theorem dX6_canPair_12 : decode cX6_canPair 12 = .ok (.iload_n 2, 1) := by decide +kernel
theorem dX6_canPair_13 : decode cX6_canPair 13 = .ok (.iaload, 1) := by decide +kernel
theorem dX6_canPair_14 : decode cX6_canPair 14 = .ok (.aload_n 3, 1) := by decide +kernel
theorem dX6_canPair_15 : decode cX6_canPair 15 = .ok (.getfield 45, 3) := by decide +kernel
theorem dX6_canPair_18 : decode cX6_canPair 18 = .ok (.iload 4, 2) := by decide +kernel
theorem dX6_canPair_20 : decode cX6_canPair 20 = .ok (.iaload, 1) := by decide +kernel
theorem dX6_canPair_21 : decode cX6_canPair 21 = .ok (.if_icmp .ne 22, 3) := by decide +kernel
theorem dX6_canPair_24 : decode cX6_canPair 24 = .ok (.aload_n 0, 1) := by decide +kernel
theorem dX6_canPair_25 : decode cX6_canPair 25 = .ok (.getfield 9, 3) := by decide +kernel
theorem dX6_canPair_28 : decode cX6_canPair 28 = .ok (.iload 5, 2) := by decide +kernel
theorem dX6_canPair_30 : decode cX6_canPair 30 = .ok (.invokestatic 48, 3) := by decide +kernel
theorem dX6_canPair_33 : decode cX6_canPair 33 = .ok (.aload_n 3, 1) := by decide +kernel
theorem dX6_canPair_34 : decode cX6_canPair 34 = .ok (.getfield 42, 3) := by decide +kernel
theorem dX6_canPair_37 : decode cX6_canPair 37 = .ok (.iload 4, 2) := by decide +kernel
theorem dX6_canPair_39 : decode cX6_canPair 39 = .ok (.iaload, 1) := by decide +kernel
theorem dX6_canPair_40 : decode cX6_canPair 40 = .ok (.if_icmp .eq 5, 3) := by decide +kernel
theorem dX6_canPair_43 : decode cX6_canPair 43 = .ok (.iconst 0, 1) := by decide +kernel
theorem dX6_canPair_44 : decode cX6_canPair 44 = .ok (.ireturn, 1) := by decide +kernel
theorem dX6_canPair_45 : decode cX6_canPair 45 = .ok (.iload 5, 2) := by decide +kernel
theorem dX6_canPair_47 : decode cX6_canPair 47 = .ok (.iconst 1, 1) := by decide +kernel
theorem dX6_canPair_48 : decode cX6_canPair 48 = .ok (.iadd, 1) := by decide +kernel
theorem dX6_canPair_49 : decode cX6_canPair 49 = .ok (.istore 6, 2) := by decide +kernel
theorem dX6_canPair_51 : decode cX6_canPair 51 = .ok (.iload 6, 2) := by decide +kernel
theorem dX6_canPair_53 : decode cX6_canPair 53 = .ok (.iload_n 2, 1) := by decide +kernel
theorem dX6_canPair_54 : decode cX6_canPair 54 = .ok (.if_icmp .ge 35, 3) := by decide +kernel
theorem dX6_canPair_57 : decode cX6_canPair 57 = .ok (.aload_n 1, 1) := by decide +kernel
theorem dX6_canPair_58 : decode cX6_canPair 58 = .ok (.getfield 42, 3) := by decide +kernel
theorem dX6_canPair_61 : decode cX6_canPair 61 = .ok (.iload 6, 2) := by decide +kernel
theorem dX6_canPair_63 : decode cX6_canPair 63 = .ok (.iaload, 1) := by decide +kernel
theorem dX6_canPair_64 : decode cX6_canPair 64 = .ok (.iload 5, 2) := by decide +kernel
theorem dX6_canPair_66 : decode cX6_canPair 66 = .ok (.if_icmp .ne 17, 3) := by decide +kernel
theorem dX6_canPair_69 : decode cX6_canPair 69 = .ok (.aload_n 0, 1) := by decide +kernel
theorem dX6_canPair_70 : decode cX6_canPair 70 = .ok (.getfield 9, 3) := by decide +kernel
theorem dX6_canPair_73 : decode cX6_canPair 73 = .ok (.iload 6, 2) := by decide +kernel
theorem dX6_canPair_75 : decode cX6_canPair 75 = .ok (.iaload, 1) := by decide +kernel
theorem dX6_canPair_76 : decode cX6_canPair 76 = .ok (.iload 4, 2) := by decide +kernel
theorem dX6_canPair_78 : decode cX6_canPair 78 = .ok (.if_icmp .lt 5, 3) := by decide +kernel
theorem dX6_canPair_81 : decode cX6_canPair 81 = .ok (.iconst 0, 1) := by decide +kernel
theorem dX6_canPair_82 : decode cX6_canPair 82 = .ok (.ireturn, 1) := by decide +kernel
theorem dX6_canPair_83 : decode cX6_canPair 83 = .ok (.iinc 6 1, 3) := by decide +kernel
theorem dX6_canPair_86 : decode cX6_canPair 86 = .ok (.goto (-35), 3) := by decide +kernel
theorem dX6_canPair_89 : decode cX6_canPair 89 = .ok (.iconst 1, 1) := by decide +kernel
theorem dX6_canPair_90 : decode cX6_canPair 90 = .ok (.ireturn, 1) := by decide +kernel
set_option maxRecDepth 20000 in
theorem ggX6_costOfTried_X7_changeCost : GoodIn wsX6_costOfTried wsX7_changeCost := goodIn_r _ [5, 6, 7, 8, 9, 10, 11, 12, 13, 14] (by decide +kernel) (by decide +kernel)
set_option maxRecDepth 20000 in
theorem gX6_costOfTried_X7_changeCost_n52 : GoodIn wsX6_costOfTried (wsX7_changeCost) := ggX6_costOfTried_X7_changeCost
theorem dX6_costOfTried_0 : decode cX6_costOfTried 0 = .ok (.iconst 2, 1) := by decide +kernel
theorem dX6_costOfTried_1 : decode cX6_costOfTried 1 = .ok (.aload_n 1, 1) := by decide +kernel
theorem dX6_costOfTried_2 : decode cX6_costOfTried 2 = .ok (.getfield 15, 3) := by decide +kernel
theorem dX6_costOfTried_5 : decode cX6_costOfTried 5 = .ok (.aload_n 2, 1) := by decide +kernel
theorem dX6_costOfTried_6 : decode cX6_costOfTried 6 = .ok (.getfield 15, 3) := by decide +kernel
theorem dX6_costOfTried_9 : decode cX6_costOfTried 9 = .ok (.iadd, 1) := by decide +kernel
theorem dX6_costOfTried_10 : decode cX6_costOfTried 10 = .ok (.imul, 1) := by decide +kernel
theorem dX6_costOfTried_11 : decode cX6_costOfTried 11 = .ok (.istore_n 3, 1) := by decide +kernel
theorem dX6_costOfTried_12 : decode cX6_costOfTried 12 = .ok (.iconst 0, 1) := by decide +kernel
theorem dX6_costOfTried_13 : decode cX6_costOfTried 13 = .ok (.istore 4, 2) := by decide +kernel
theorem dX6_costOfTried_15 : decode cX6_costOfTried 15 = .ok (.iload 4, 2) := by decide +kernel
theorem dX6_costOfTried_17 : decode cX6_costOfTried 17 = .ok (.aload_n 1, 1) := by decide +kernel
theorem dX6_costOfTried_18 : decode cX6_costOfTried 18 = .ok (.getfield 15, 3) := by decide +kernel
theorem dX6_costOfTried_21 : decode cX6_costOfTried 21 = .ok (.if_icmp .ge 45, 3) := by decide +kernel
theorem dX6_costOfTried_24 : decode cX6_costOfTried 24 = .ok (.iload 4, 2) := by decide +kernel
theorem dX6_costOfTried_26 : decode cX6_costOfTried 26 = .ok (.bipush 7, 2) := by decide +kernel
theorem dX6_costOfTried_28 : decode cX6_costOfTried 28 = .ok (.if_icmp .ge 38, 3) := by decide +kernel
theorem dX6_costOfTried_31 : decode cX6_costOfTried 31 = .ok (.aload_n 0, 1) := by decide +kernel
theorem dX6_costOfTried_32 : decode cX6_costOfTried 32 = .ok (.getfield 9, 3) := by decide +kernel
theorem dX6_costOfTried_35 : decode cX6_costOfTried 35 = .ok (.iload 4, 2) := by decide +kernel
theorem dX6_costOfTried_37 : decode cX6_costOfTried 37 = .ok (.iaload, 1) := by decide +kernel
theorem dX6_costOfTried_38 : decode cX6_costOfTried 38 = .ok (.istore 5, 2) := by decide +kernel
theorem dX6_costOfTried_40 : decode cX6_costOfTried 40 = .ok (.iload 5, 2) := by decide +kernel
theorem dX6_costOfTried_42 : decode cX6_costOfTried 42 = .ok (.iconst (-1), 1) := by decide +kernel
theorem dX6_costOfTried_43 : decode cX6_costOfTried 43 = .ok (.if_icmp .eq 17, 3) := by decide +kernel
theorem dX6_costOfTried_46 : decode cX6_costOfTried 46 = .ok (.iload_n 3, 1) := by decide +kernel
theorem dX6_costOfTried_47 : decode cX6_costOfTried 47 = .ok (.aload_n 1, 1) := by decide +kernel
theorem dX6_costOfTried_48 : decode cX6_costOfTried 48 = .ok (.iload 4, 2) := by decide +kernel
theorem dX6_costOfTried_50 : decode cX6_costOfTried 50 = .ok (.aload_n 2, 1) := by decide +kernel
theorem dX6_costOfTried_51 : decode cX6_costOfTried 51 = .ok (.iload 5, 2) := by decide +kernel
theorem dX6_costOfTried_53 : decode cX6_costOfTried 53 = .ok (.invokestatic 52, 3) := by decide +kernel
theorem dX6_costOfTried_56 : decode cX6_costOfTried 56 = .ok (.iconst 4, 1) := by decide +kernel
theorem dX6_costOfTried_57 : decode cX6_costOfTried 57 = .ok (.isub, 1) := by decide +kernel
theorem dX6_costOfTried_58 : decode cX6_costOfTried 58 = .ok (.iadd, 1) := by decide +kernel
theorem dX6_costOfTried_59 : decode cX6_costOfTried 59 = .ok (.istore_n 3, 1) := by decide +kernel
theorem dX6_costOfTried_60 : decode cX6_costOfTried 60 = .ok (.iinc 4 1, 3) := by decide +kernel
theorem dX6_costOfTried_63 : decode cX6_costOfTried 63 = .ok (.goto (-48), 3) := by decide +kernel
theorem dX6_costOfTried_66 : decode cX6_costOfTried 66 = .ok (.iload_n 3, 1) := by decide +kernel
theorem dX6_costOfTried_67 : decode cX6_costOfTried 67 = .ok (.ireturn, 1) := by decide +kernel
set_option maxRecDepth 20000 in
theorem ggX7_init_X4_init : GoodIn wsX7_init wsX4_init := goodIn_r _ [36, 37, 2, 3, 38, 39, 40, 33, 34, 41, 42, 43, 44, 45, 46, 47, 48, 49, 50, 51, 52, 53, 107, 108, 109, 110, 138, 139, 140, 141, 142, 143, 144] (by decide +kernel) (by decide +kernel)
set_option maxRecDepth 20000 in
theorem gX7_init_X4_init_n17 : GoodIn wsX7_init (wsX4_init) := ggX7_init_X4_init
set_option maxRecDepth 20000 in
theorem ggX7_init_X0_init : GoodIn wsX7_init wsX0_init := goodIn_r _ [55, 56, 2, 3, 38, 57, 111, 112] (by decide +kernel) (by decide +kernel)
set_option maxRecDepth 20000 in
theorem gX7_init_X0_init_n24 : GoodIn wsX7_init (wsX0_init) := ggX7_init_X0_init
set_option maxRecDepth 20000 in
theorem ggX7_init_X1_init : GoodIn wsX7_init wsX1_init := goodIn_r _ [59, 60, 2, 3, 61, 47, 62, 63, 64, 65, 66, 67, 68, 69, 113, 114, 115, 116, 117, 118, 119, 120, 121, 122] (by decide +kernel) (by decide +kernel)
set_option maxRecDepth 20000 in
theorem gX7_init_X1_init_n31 : GoodIn wsX7_init (wsX1_init) := ggX7_init_X1_init
set_option maxRecDepth 20000 in
theorem ggX7_init_X6_init : GoodIn wsX7_init wsX6_init := goodIn_r _ [71, 72, 2, 3, 47, 73, 123, 124] (by decide +kernel) (by decide +kernel)
set_option maxRecDepth 20000 in
theorem gX7_init_X6_init_n38 : GoodIn wsX7_init (wsX6_init) := ggX7_init_X6_init
set_option maxRecDepth 20000 in
theorem ggX7_init_X3_init : GoodIn wsX7_init wsX3_init := goodIn_r _ [75, 76, 2, 3, 77, 33, 34, 78, 79, 47, 80, 81, 38, 82, 83, 84, 85, 43, 44, 45, 46, 48, 49, 50, 51, 52, 53, 138, 139, 140, 141, 142, 143, 144, 125, 126, 127, 128, 129, 130, 131, 132, 133] (by decide +kernel) (by decide +kernel)
set_option maxRecDepth 20000 in
theorem gX7_init_X3_init_n45 : GoodIn wsX7_init (wsX3_init) := ggX7_init_X3_init
set_option maxRecDepth 20000 in
theorem ggX7_init_X2_init : GoodIn wsX7_init wsX2_init := goodIn_r _ [87, 88, 2, 3, 89, 15, 16, 90, 91, 33, 34, 92, 93, 94, 58, 59, 60, 61, 47, 62, 63, 64, 65, 66, 67, 68, 69, 95, 43, 44, 45, 38, 46, 48, 49, 50, 51, 52, 53, 113, 114, 115, 116, 117, 118, 119, 120, 121, 122, 134, 135, 136, 137, 138, 139, 140, 141, 142, 143, 144] (by decide +kernel) (by decide +kernel)
set_option maxRecDepth 20000 in
theorem gX7_init_X2_init_n52 : GoodIn wsX7_init (wsX2_init) := ggX7_init_X2_init
set_option maxRecDepth 20000 in
theorem ggX7_init_X5_init : GoodIn wsX7_init wsX5_init := goodIn_r _ [44, 45, 2, 3, 38, 46, 47, 48, 49, 50, 51, 52, 53, 138, 139, 140, 141, 142, 143, 144] (by decide +kernel) (by decide +kernel)
set_option maxRecDepth 20000 in
theorem gX7_init_X5_init : GoodIn wsX7_init (wsX5_init) := ggX7_init_X5_init
theorem dX7_init_0 : decode cX7_init 0 = .ok (.aload_n 0, 1) := by decide +kernel
theorem dX7_init_1 : decode cX7_init 1 = .ok (.invokespecial 1, 3) := by decide +kernel
theorem dX7_init_4 : decode cX7_init 4 = .ok (.aload_n 0, 1) := by decide +kernel
theorem dX7_init_5 : decode cX7_init 5 = .ok (.iconst 3, 1) := by decide +kernel
theorem dX7_init_6 : decode cX7_init 6 = .ok (.anewarray 9, 3) := by decide +kernel
theorem dX7_init_9 : decode cX7_init 9 = .ok (.putfield 11, 3) := by decide +kernel
theorem dX7_init_12 : decode cX7_init 12 = .ok (.aload_n 0, 1) := by decide +kernel
theorem dX7_init_13 : decode cX7_init 13 = .ok (.new 15, 3) := by decide +kernel
theorem dX7_init_16 : decode cX7_init 16 = .ok (.dup, 1) := by decide +kernel
theorem dX7_init_17 : decode cX7_init 17 = .ok (.invokespecial 17, 3) := by decide +kernel
theorem dX7_init_20 : decode cX7_init 20 = .ok (.putfield 18, 3) := by decide +kernel
theorem dX7_init_23 : decode cX7_init 23 = .ok (.aload_n 0, 1) := by decide +kernel
theorem dX7_init_24 : decode cX7_init 24 = .ok (.new 22, 3) := by decide +kernel
theorem dX7_init_27 : decode cX7_init 27 = .ok (.dup, 1) := by decide +kernel
theorem dX7_init_28 : decode cX7_init 28 = .ok (.invokespecial 24, 3) := by decide +kernel
theorem dX7_init_31 : decode cX7_init 31 = .ok (.putfield 25, 3) := by decide +kernel
theorem dX7_init_34 : decode cX7_init 34 = .ok (.aload_n 0, 1) := by decide +kernel
theorem dX7_init_35 : decode cX7_init 35 = .ok (.new 29, 3) := by decide +kernel
theorem dX7_init_38 : decode cX7_init 38 = .ok (.dup, 1) := by decide +kernel
theorem dX7_init_39 : decode cX7_init 39 = .ok (.invokespecial 31, 3) := by decide +kernel
theorem dX7_init_42 : decode cX7_init 42 = .ok (.putfield 32, 3) := by decide +kernel
theorem dX7_init_45 : decode cX7_init 45 = .ok (.aload_n 0, 1) := by decide +kernel
theorem dX7_init_46 : decode cX7_init 46 = .ok (.new 36, 3) := by decide +kernel
theorem dX7_init_49 : decode cX7_init 49 = .ok (.dup, 1) := by decide +kernel
theorem dX7_init_50 : decode cX7_init 50 = .ok (.invokespecial 38, 3) := by decide +kernel
theorem dX7_init_53 : decode cX7_init 53 = .ok (.putfield 39, 3) := by decide +kernel
theorem dX7_init_56 : decode cX7_init 56 = .ok (.aload_n 0, 1) := by decide +kernel
theorem dX7_init_57 : decode cX7_init 57 = .ok (.new 43, 3) := by decide +kernel
theorem dX7_init_60 : decode cX7_init 60 = .ok (.dup, 1) := by decide +kernel
theorem dX7_init_61 : decode cX7_init 61 = .ok (.invokespecial 45, 3) := by decide +kernel
theorem dX7_init_64 : decode cX7_init 64 = .ok (.putfield 46, 3) := by decide +kernel
theorem dX7_init_67 : decode cX7_init 67 = .ok (.aload_n 0, 1) := by decide +kernel
theorem dX7_init_68 : decode cX7_init 68 = .ok (.new 50, 3) := by decide +kernel
theorem dX7_init_71 : decode cX7_init 71 = .ok (.dup, 1) := by decide +kernel
theorem dX7_init_72 : decode cX7_init 72 = .ok (.invokespecial 52, 3) := by decide +kernel
theorem dX7_init_75 : decode cX7_init 75 = .ok (.putfield 53, 3) := by decide +kernel
theorem dX7_init_78 : decode cX7_init 78 = .ok (.aload_n 0, 1) := by decide +kernel
theorem dX7_init_79 : decode cX7_init 79 = .ok (.iconst (-1), 1) := by decide +kernel
theorem dX7_init_80 : decode cX7_init 80 = .ok (.putfield 57, 3) := by decide +kernel
theorem dX7_init_83 : decode cX7_init 83 = .ok (.aload_n 0, 1) := by decide +kernel
theorem dX7_init_84 : decode cX7_init 84 = .ok (.iconst (-1), 1) := by decide +kernel
theorem dX7_init_85 : decode cX7_init 85 = .ok (.putfield 61, 3) := by decide +kernel
theorem dX7_init_88 : decode cX7_init 88 = .ok (.aload_n 0, 1) := by decide +kernel
theorem dX7_init_89 : decode cX7_init 89 = .ok (.bipush 32, 2) := by decide +kernel
theorem dX7_init_91 : decode cX7_init 91 = .ok (.putfield 64, 3) := by decide +kernel
theorem dX7_init_94 : decode cX7_init 94 = .ok (.iconst 0, 1) := by decide +kernel
theorem dX7_init_95 : decode cX7_init 95 = .ok (.istore_n 1, 1) := by decide +kernel
theorem dX7_init_96 : decode cX7_init 96 = .ok (.iload_n 1, 1) := by decide +kernel
theorem dX7_init_97 : decode cX7_init 97 = .ok (.iconst 3, 1) := by decide +kernel
theorem dX7_init_98 : decode cX7_init 98 = .ok (.if_icmp .ge 22, 3) := by decide +kernel
theorem dX7_init_101 : decode cX7_init 101 = .ok (.aload_n 0, 1) := by decide +kernel
theorem dX7_init_102 : decode cX7_init 102 = .ok (.getfield 11, 3) := by decide +kernel
theorem dX7_init_105 : decode cX7_init 105 = .ok (.iload_n 1, 1) := by decide +kernel
theorem dX7_init_106 : decode cX7_init 106 = .ok (.new 9, 3) := by decide +kernel
theorem dX7_init_109 : decode cX7_init 109 = .ok (.dup, 1) := by decide +kernel
theorem dX7_init_110 : decode cX7_init 110 = .ok (.invokespecial 68, 3) := by decide +kernel
theorem dX7_init_113 : decode cX7_init 113 = .ok (.aastore, 1) := by decide +kernel
theorem dX7_init_114 : decode cX7_init 114 = .ok (.iinc 1 1, 3) := by decide +kernel
theorem dX7_init_117 : decode cX7_init 117 = .ok (.goto (-21), 3) := by decide +kernel
theorem dX7_init_120 : decode cX7_init 120 = .ok (.return_, 1) := by decide +kernel
set_option maxRecDepth 20000 in
theorem ggX7_type_X4_append : GoodIn wsX7_type wsX4_append := goodIn_r _ [9, 10, 11, 22, 23, 24, 25] (by decide +kernel) (by decide +kernel)
set_option maxRecDepth 20000 in
theorem gX7_type_X4_append : GoodIn wsX7_type (wsV RX7 69 RX4 yX4_append wsX4_append) := goodIn_app (goodIn_of _ (by decide +kernel)) ggX7_type_X4_append
theorem dX7_type_0 : decode cX7_type 0 = .ok (.aload_n 0, 1) := by decide +kernel
theorem dX7_type_1 : decode cX7_type 1 = .ok (.getfield 18, 3) := by decide +kernel
theorem dX7_type_4 : decode cX7_type 4 = .ok (.iload_n 1, 1) := by decide +kernel
theorem dX7_type_5 : decode cX7_type 5 = .ok (.invokevirtual 69, 3) := by decide +kernel
theorem dX7_type_8 : decode cX7_type 8 = .ok (.ifCond .ne 13, 3) := by decide +kernel
theorem dX7_type_11 : decode cX7_type 11 = .ok (.new 73, 3) := by decide +kernel
theorem dX7_type_14 : decode cX7_type 14 = .ok (.dup, 1) := by decide +kernel
theorem dX7_type_15 : decode cX7_type 15 = .ok (.ldc 75, 2) := by decide +kernel
theorem dX7_type_17 : decode cX7_type 17 = .ok (.invokespecial 77, 3) := by decide +kernel
theorem dX7_type_20 : decode cX7_type 20 = .ok (.athrow, 1) := by decide +kernel
theorem dX7_type_21 : decode cX7_type 21 = .ok (.aload_n 0, 1) := by decide +kernel
theorem dX7_type_22 : decode cX7_type 22 = .ok (.getfield 18, 3) := by decide +kernel
theorem dX7_type_25 : decode cX7_type 25 = .ok (.getfield 80, 3) := by decide +kernel
theorem dX7_type_28 : decode cX7_type 28 = .ok (.ireturn, 1) := by decide +kernel
set_option maxRecDepth 20000 in
theorem ggX7_read_X7_treeAt : GoodIn wsX7_read wsX7_treeAt := goodIn_ca (goodIn_r _ [13, 14, 15, 16, 79, 80, 81, 82, 83, 84, 85, 86, 87, 88] (by decide +kernel) (by decide +kernel)) (goodIn_sub (fun _ h => List.mem_cons_of_mem _ (List.mem_append_right _ h)) (by decide +kernel))
set_option maxRecDepth 20000 in
theorem gX7_read_X7_treeAt : GoodIn wsX7_read (wsV RX7 83 RX7 yX7_treeAt wsX7_treeAt) := goodIn_app (goodIn_of _ (by decide +kernel)) ggX7_read_X7_treeAt
set_option maxRecDepth 20000 in
theorem ggX7_read_X4_parse : GoodIn wsX7_read wsX4_parse := goodIn_r _ [21, 22, 23, 24, 25, 26, 27, 28, 20, 29, 30, 31, 32, 33, 34, 35, 12, 36, 37, 38, 39, 40, 41, 42, 43, 44, 45, 46, 47, 48, 49, 50, 51, 52, 53, 54, 55, 56, 57, 58, 59, 60, 61, 62, 63, 64, 65, 66, 67, 68, 69, 70, 89, 90, 91, 92, 93, 94, 95, 96, 97, 98, 99] (by decide +kernel) (by decide +kernel)
set_option maxRecDepth 20000 in
theorem gX7_read_X4_parse : GoodIn wsX7_read (wsV RX7 87 RX4 yX4_parse wsX4_parse) := goodIn_app (goodIn_of _ (by decide +kernel)) ggX7_read_X4_parse
set_option maxRecDepth 20000 in
theorem ggX7_read_X5_copyFrom : GoodIn wsX7_read wsX5_copyFrom := goodIn_r _ [74, 42, 75, 76, 77, 78, 43, 44, 45, 56, 93, 94, 95, 96, 97, 98, 99] (by decide +kernel) (by decide +kernel)
set_option maxRecDepth 20000 in
theorem gX7_read_X5_copyFrom : GoodIn wsX7_read (wsV RX7 103 RX5 yX5_copyFrom wsX5_copyFrom) := goodIn_app (goodIn_of _ (by decide +kernel)) ggX7_read_X5_copyFrom
theorem dX7_read_0 : decode cX7_read 0 = .ok (.aload_n 0, 1) := by decide +kernel
theorem dX7_read_1 : decode cX7_read 1 = .ok (.iload_n 1, 1) := by decide +kernel
theorem dX7_read_2 : decode cX7_read 2 = .ok (.invokevirtual 83, 3) := by decide +kernel
theorem dX7_read_5 : decode cX7_read 5 = .ok (.astore_n 2, 1) := by decide +kernel
theorem dX7_read_6 : decode cX7_read 6 = .ok (.aload_n 0, 1) := by decide +kernel
theorem dX7_read_7 : decode cX7_read 7 = .ok (.getfield 18, 3) := by decide +kernel
theorem dX7_read_10 : decode cX7_read 10 = .ok (.invokevirtual 87, 3) := by decide +kernel
theorem dX7_read_13 : decode cX7_read 13 = .ok (.istore_n 3, 1) := by decide +kernel
theorem dX7_read_14 : decode cX7_read 14 = .ok (.aload_n 0, 1) := by decide +kernel
theorem dX7_read_15 : decode cX7_read 15 = .ok (.getfield 18, 3) := by decide +kernel
theorem dX7_read_18 : decode cX7_read 18 = .ok (.iconst 0, 1) := by decide +kernel
theorem dX7_read_19 : decode cX7_read 19 = .ok (.putfield 80, 3) := by decide +kernel
theorem dX7_read_22 : decode cX7_read 22 = .ok (.iload_n 3, 1) := by decide +kernel
theorem dX7_read_23 : decode cX7_read 23 = .ok (.ifCond .ne 24, 3) := by decide +kernel
theorem dX7_read_26 : decode cX7_read 26 = .ok (.aload_n 0, 1) := by decide +kernel
theorem dX7_read_27 : decode cX7_read 27 = .ok (.aload_n 0, 1) := by decide +kernel
theorem dX7_read_28 : decode cX7_read 28 = .ok (.getfield 18, 3) := by decide +kernel
theorem dX7_read_31 : decode cX7_read 31 = .ok (.getfield 91, 3) := by decide +kernel
theorem dX7_read_34 : decode cX7_read 34 = .ok (.putfield 57, 3) := by decide +kernel
theorem dX7_read_37 : decode cX7_read 37 = .ok (.new 94, 3) := by decide +kernel
theorem dX7_read_40 : decode cX7_read 40 = .ok (.dup, 1) := by decide +kernel
theorem dX7_read_41 : decode cX7_read 41 = .ok (.ldc 96, 2) := by decide +kernel
theorem dX7_read_43 : decode cX7_read 43 = .ok (.invokespecial 98, 3) := by decide +kernel
theorem dX7_read_46 : decode cX7_read 46 = .ok (.athrow, 1) := by decide +kernel
theorem dX7_read_47 : decode cX7_read 47 = .ok (.aload_n 2, 1) := by decide +kernel
theorem dX7_read_48 : decode cX7_read 48 = .ok (.aload_n 0, 1) := by decide +kernel
theorem dX7_read_49 : decode cX7_read 49 = .ok (.getfield 18, 3) := by decide +kernel
theorem dX7_read_52 : decode cX7_read 52 = .ok (.getfield 99, 3) := by decide +kernel
theorem dX7_read_55 : decode cX7_read 55 = .ok (.invokevirtual 103, 3) := by decide +kernel
theorem dX7_read_58 : decode cX7_read 58 = .ok (.aload_n 2, 1) := by decide +kernel
theorem dX7_read_59 : decode cX7_read 59 = .ok (.getfield 107, 3) := by decide +kernel
theorem dX7_read_62 : decode cX7_read 62 = .ok (.ireturn, 1) := by decide +kernel
theorem dX7_errorPosition_0 : decode cX7_errorPosition 0 = .ok (.aload_n 0, 1) := by decide +kernel
theorem dX7_errorPosition_1 : decode cX7_errorPosition 1 = .ok (.getfield 57, 3) := by decide +kernel
theorem dX7_errorPosition_4 : decode cX7_errorPosition 4 = .ok (.iconst (-1), 1) := by decide +kernel
theorem dX7_errorPosition_5 : decode cX7_errorPosition 5 = .ok (.if_icmp .ne 13, 3) := by decide +kernel
theorem dX7_errorPosition_8 : decode cX7_errorPosition 8 = .ok (.new 110, 3) := by decide +kernel
theorem dX7_errorPosition_11 : decode cX7_errorPosition 11 = .ok (.dup, 1) := by decide +kernel
theorem dX7_errorPosition_12 : decode cX7_errorPosition 12 = .ok (.ldc 112, 2) := by decide +kernel
theorem dX7_errorPosition_14 : decode cX7_errorPosition 14 = .ok (.invokespecial 114, 3) := by decide +kernel
theorem dX7_errorPosition_17 : decode cX7_errorPosition 17 = .ok (.athrow, 1) := by decide +kernel
theorem dX7_errorPosition_18 : decode cX7_errorPosition 18 = .ok (.aload_n 0, 1) := by decide +kernel
theorem dX7_errorPosition_19 : decode cX7_errorPosition 19 = .ok (.getfield 57, 3) := by decide +kernel
theorem dX7_errorPosition_22 : decode cX7_errorPosition 22 = .ok (.ireturn, 1) := by decide +kernel
set_option maxRecDepth 20000 in
theorem ggX7_writeTree_X7_treeAt : GoodIn wsX7_writeTree wsX7_treeAt := goodIn_ca (goodIn_r _ [7, 8, 9, 10, 44, 45, 46, 47, 48, 49, 50, 51, 52, 53] (by decide +kernel) (by decide +kernel)) (goodIn_sub (fun _ h => List.mem_cons_of_mem _ (List.mem_append_right _ h)) (by decide +kernel))
set_option maxRecDepth 20000 in
theorem gX7_writeTree_X7_treeAt : GoodIn wsX7_writeTree (wsV RX7 83 RX7 yX7_treeAt wsX7_treeAt) := goodIn_app (goodIn_of _ (by decide +kernel)) ggX7_writeTree_X7_treeAt
set_option maxRecDepth 20000 in
theorem ggX7_writeTree_X0_appendTree : GoodIn wsX7_writeTree wsX0_appendTree := goodIn_r _ [15, 16, 17, 18, 19, 20, 21, 22, 23, 24, 25, 14, 26, 27, 28, 29, 30, 31, 32, 33, 34, 35, 36, 37, 38, 39, 40, 41, 42, 43, 56, 57, 58, 59, 60, 61, 62, 54, 55] (by decide +kernel) (by decide +kernel)
set_option maxRecDepth 20000 in
theorem gX7_writeTree_X0_appendTree : GoodIn wsX7_writeTree (wsV RX7 116 RX0 yX0_appendTree wsX0_appendTree) := goodIn_app (goodIn_of _ (by decide +kernel)) ggX7_writeTree_X0_appendTree
theorem dX7_writeTree_0 : decode cX7_writeTree 0 = .ok (.aload_n 0, 1) := by decide +kernel
theorem dX7_writeTree_1 : decode cX7_writeTree 1 = .ok (.iload_n 1, 1) := by decide +kernel
theorem dX7_writeTree_2 : decode cX7_writeTree 2 = .ok (.invokevirtual 83, 3) := by decide +kernel
theorem dX7_writeTree_5 : decode cX7_writeTree 5 = .ok (.astore_n 2, 1) := by decide +kernel
theorem dX7_writeTree_6 : decode cX7_writeTree 6 = .ok (.aload_n 0, 1) := by decide +kernel
theorem dX7_writeTree_7 : decode cX7_writeTree 7 = .ok (.getfield 25, 3) := by decide +kernel
theorem dX7_writeTree_10 : decode cX7_writeTree 10 = .ok (.iconst 0, 1) := by decide +kernel
theorem dX7_writeTree_11 : decode cX7_writeTree 11 = .ok (.putfield 115, 3) := by decide +kernel
theorem dX7_writeTree_14 : decode cX7_writeTree 14 = .ok (.aload_n 0, 1) := by decide +kernel
theorem dX7_writeTree_15 : decode cX7_writeTree 15 = .ok (.getfield 25, 3) := by decide +kernel
theorem dX7_writeTree_18 : decode cX7_writeTree 18 = .ok (.aload_n 2, 1) := by decide +kernel
theorem dX7_writeTree_19 : decode cX7_writeTree 19 = .ok (.invokevirtual 116, 3) := by decide +kernel
theorem dX7_writeTree_22 : decode cX7_writeTree 22 = .ok (.aload_n 0, 1) := by decide +kernel
theorem dX7_writeTree_23 : decode cX7_writeTree 23 = .ok (.getfield 25, 3) := by decide +kernel
theorem dX7_writeTree_26 : decode cX7_writeTree 26 = .ok (.getfield 115, 3) := by decide +kernel
theorem dX7_writeTree_29 : decode cX7_writeTree 29 = .ok (.ireturn, 1) := by decide +kernel
set_option maxRecDepth 20000 in
theorem ggX7_writeScript_X7_needScript : GoodIn wsX7_writeScript wsX7_needScript := goodIn_ca (goodIn_r _ [10, 11, 12, 3, 13, 34, 35, 36, 37, 38, 39, 40, 41, 42, 43, 46, 47, 48, 49, 50, 51, 52, 53, 54] (by decide +kernel) (by decide +kernel)) (goodIn_sub (fun _ h => List.mem_cons_of_mem _ (List.mem_append_right _ h)) (by decide +kernel))
set_option maxRecDepth 20000 in
theorem gX7_writeScript_X7_needScript : GoodIn wsX7_writeScript (wsV RX7 119 RX7 yX7_needScript wsX7_needScript) := goodIn_app (goodIn_of _ (by decide +kernel)) ggX7_writeScript_X7_needScript
set_option maxRecDepth 20000 in
theorem ggX7_writeScript_X0_append : GoodIn wsX7_writeScript wsX0_append := goodIn_r _ [18, 19, 20, 44, 45] (by decide +kernel) (by decide +kernel)
set_option maxRecDepth 20000 in
theorem gX7_writeScript_X0_append : GoodIn wsX7_writeScript (wsV RX7 127 RX0 yX0_append wsX0_append) := goodIn_app (goodIn_of _ (by decide +kernel)) ggX7_writeScript_X0_append
set_option maxRecDepth 20000 in
theorem ggX7_writeScript_X3_shownNode : GoodIn wsX7_writeScript wsX3_shownNode := goodIn_r _ [25, 26, 27, 28, 46, 47, 48, 49, 50, 51, 52, 53, 54] (by decide +kernel) (by decide +kernel)
set_option maxRecDepth 20000 in
theorem gX7_writeScript_X3_shownNode : GoodIn wsX7_writeScript (wsV RX7 130 RX3 yX3_shownNode wsX3_shownNode) := goodIn_app (goodIn_of _ (by decide +kernel)) ggX7_writeScript_X3_shownNode
set_option maxRecDepth 20000 in
theorem ggX7_writeScript_X0_appendNumber : GoodIn wsX7_writeScript wsX0_appendNumber := goodIn_r _ [32, 33, 15, 16, 17, 18, 19, 20, 44, 45] (by decide +kernel) (by decide +kernel)
set_option maxRecDepth 20000 in
theorem gX7_writeScript_X0_appendNumber : GoodIn wsX7_writeScript (wsV RX7 134 RX0 yX0_appendNumber wsX0_appendNumber) := goodIn_app (goodIn_of _ (by decide +kernel)) ggX7_writeScript_X0_appendNumber
theorem dX7_writeScript_0 : decode cX7_writeScript 0 = .ok (.aload_n 0, 1) := by decide +kernel
theorem dX7_writeScript_1 : decode cX7_writeScript 1 = .ok (.invokevirtual 119, 3) := by decide +kernel
theorem dX7_writeScript_4 : decode cX7_writeScript 4 = .ok (.aload_n 0, 1) := by decide +kernel
theorem dX7_writeScript_5 : decode cX7_writeScript 5 = .ok (.getfield 25, 3) := by decide +kernel
theorem dX7_writeScript_8 : decode cX7_writeScript 8 = .ok (.iconst 0, 1) := by decide +kernel
theorem dX7_writeScript_9 : decode cX7_writeScript 9 = .ok (.putfield 115, 3) := by decide +kernel
theorem dX7_writeScript_12 : decode cX7_writeScript 12 = .ok (.iconst 0, 1) := by decide +kernel
theorem dX7_writeScript_13 : decode cX7_writeScript 13 = .ok (.istore_n 1, 1) := by decide +kernel
theorem dX7_writeScript_14 : decode cX7_writeScript 14 = .ok (.iload_n 1, 1) := by decide +kernel
theorem dX7_writeScript_15 : decode cX7_writeScript 15 = .ok (.aload_n 0, 1) := by decide +kernel
theorem dX7_writeScript_16 : decode cX7_writeScript 16 = .ok (.getfield 46, 3) := by decide +kernel
theorem dX7_writeScript_19 : decode cX7_writeScript 19 = .ok (.getfield 122, 3) := by decide +kernel
theorem dX7_writeScript_22 : decode cX7_writeScript 22 = .ok (.if_icmp .ge 40, 3) := by decide +kernel
theorem dX7_writeScript_25 : decode cX7_writeScript 25 = .ok (.aload_n 0, 1) := by decide +kernel
theorem dX7_writeScript_26 : decode cX7_writeScript 26 = .ok (.getfield 25, 3) := by decide +kernel
theorem dX7_writeScript_29 : decode cX7_writeScript 29 = .ok (.aload_n 0, 1) := by decide +kernel
theorem dX7_writeScript_30 : decode cX7_writeScript 30 = .ok (.getfield 46, 3) := by decide +kernel
theorem dX7_writeScript_33 : decode cX7_writeScript 33 = .ok (.getfield 123, 3) := by decide +kernel
theorem dX7_writeScript_36 : decode cX7_writeScript 36 = .ok (.iload_n 1, 1) := by decide +kernel
theorem dX7_writeScript_37 : decode cX7_writeScript 37 = .ok (.caload, 1) := by decide +kernel
theorem dX7_writeScript_38 : decode cX7_writeScript 38 = .ok (.invokevirtual 127, 3) := by decide +kernel
theorem dX7_writeScript_41 : decode cX7_writeScript 41 = .ok (.aload_n 0, 1) := by decide +kernel
theorem dX7_writeScript_42 : decode cX7_writeScript 42 = .ok (.getfield 25, 3) := by decide +kernel
theorem dX7_writeScript_45 : decode cX7_writeScript 45 = .ok (.aload_n 0, 1) := by decide +kernel
theorem dX7_writeScript_46 : decode cX7_writeScript 46 = .ok (.getfield 46, 3) := by decide +kernel
theorem dX7_writeScript_49 : decode cX7_writeScript 49 = .ok (.iload_n 1, 1) := by decide +kernel
theorem dX7_writeScript_50 : decode cX7_writeScript 50 = .ok (.invokevirtual 130, 3) := by decide +kernel
theorem dX7_writeScript_53 : decode cX7_writeScript 53 = .ok (.invokevirtual 134, 3) := by decide +kernel
theorem dX7_writeScript_56 : decode cX7_writeScript 56 = .ok (.iinc 1 1, 3) := by decide +kernel
theorem dX7_writeScript_59 : decode cX7_writeScript 59 = .ok (.goto (-45), 3) := by decide +kernel
theorem dX7_writeScript_62 : decode cX7_writeScript 62 = .ok (.aload_n 0, 1) := by decide +kernel
theorem dX7_writeScript_63 : decode cX7_writeScript 63 = .ok (.getfield 25, 3) := by decide +kernel
theorem dX7_writeScript_66 : decode cX7_writeScript 66 = .ok (.getfield 115, 3) := by decide +kernel
theorem dX7_writeScript_69 : decode cX7_writeScript 69 = .ok (.ireturn, 1) := by decide +kernel
theorem dX7_charAt_0 : decode cX7_charAt 0 = .ok (.iload_n 1, 1) := by decide +kernel
theorem dX7_charAt_1 : decode cX7_charAt 1 = .ok (.ifCond .lt 14, 3) := by decide +kernel
theorem dX7_charAt_4 : decode cX7_charAt 4 = .ok (.iload_n 1, 1) := by decide +kernel
theorem dX7_charAt_5 : decode cX7_charAt 5 = .ok (.aload_n 0, 1) := by decide +kernel
theorem dX7_charAt_6 : decode cX7_charAt 6 = .ok (.getfield 25, 3) := by decide +kernel
theorem dX7_charAt_9 : decode cX7_charAt 9 = .ok (.getfield 115, 3) := by decide +kernel
theorem dX7_charAt_12 : decode cX7_charAt 12 = .ok (.if_icmp .lt 13, 3) := by decide +kernel
theorem dX7_charAt_15 : decode cX7_charAt 15 = .ok (.new 138, 3) := by decide +kernel
theorem dX7_charAt_18 : decode cX7_charAt 18 = .ok (.dup, 1) := by decide +kernel
theorem dX7_charAt_19 : decode cX7_charAt 19 = .ok (.ldc 140, 2) := by decide +kernel
theorem dX7_charAt_21 : decode cX7_charAt 21 = .ok (.invokespecial 142, 3) := by decide +kernel
theorem dX7_charAt_24 : decode cX7_charAt 24 = .ok (.athrow, 1) := by decide +kernel
theorem dX7_charAt_25 : decode cX7_charAt 25 = .ok (.aload_n 0, 1) := by decide +kernel
theorem dX7_charAt_26 : decode cX7_charAt 26 = .ok (.getfield 25, 3) := by decide +kernel
theorem dX7_charAt_29 : decode cX7_charAt 29 = .ok (.getfield 143, 3) := by decide +kernel
theorem dX7_charAt_32 : decode cX7_charAt 32 = .ok (.iload_n 1, 1) := by decide +kernel
theorem dX7_charAt_33 : decode cX7_charAt 33 = .ok (.caload, 1) := by decide +kernel
theorem dX7_charAt_34 : decode cX7_charAt 34 = .ok (.ireturn, 1) := by decide +kernel
set_option maxRecDepth 20000 in
theorem ggX7_addNode_X7_treeWith : GoodIn wsX7_addNode wsX7_treeWith := goodIn_ca (goodIn_r _ [9, 1, 2, 10, 11, 12, 8, 13, 14, 15, 16, 17, 18, 19, 20, 63, 64, 65, 66, 67, 68, 69, 70, 71, 72, 73, 74, 75, 76, 77, 78, 79] (by decide +kernel) (by decide +kernel)) (goodIn_sub (fun _ h => List.mem_cons_of_mem _ (List.mem_append_left _ (List.mem_append_left _ (List.mem_append_right _ h)))) (by decide +kernel))
set_option maxRecDepth 20000 in
theorem gX7_addNode_X7_treeWith : GoodIn wsX7_addNode (wsV RX7 146 RX7 yX7_treeWith wsX7_treeWith) := goodIn_app (goodIn_of _ (by decide +kernel)) ggX7_addNode_X7_treeWith
set_option maxRecDepth 20000 in
theorem ggX7_addNode_X5_countChildren : GoodIn wsX7_addNode wsX5_countChildren := goodIn_r _ [24, 20, 25, 73, 74, 75, 76, 77, 78, 79] (by decide +kernel) (by decide +kernel)
set_option maxRecDepth 20000 in
theorem gX7_addNode_X5_countChildren : GoodIn wsX7_addNode (wsV RX7 150 RX5 yX5_countChildren wsX5_countChildren) := goodIn_app (goodIn_of _ (by decide +kernel)) ggX7_addNode_X5_countChildren
set_option maxRecDepth 20000 in
theorem ggX7_addNode_X7_needLabel : GoodIn wsX7_addNode wsX7_needLabel := goodIn_ca (goodIn_r _ [29, 30, 31, 32, 33, 8, 34] (by decide +kernel) (by decide +kernel)) (goodIn_sub (fun _ h => List.mem_cons_of_mem _ (List.mem_append_right _ h)) (by decide +kernel))
set_option maxRecDepth 20000 in
theorem gX7_addNode_X7_needLabel : GoodIn wsX7_addNode (wsV RX7 155 RX7 yX7_needLabel wsX7_needLabel) := goodIn_app (goodIn_of _ (by decide +kernel)) ggX7_addNode_X7_needLabel
set_option maxRecDepth 20000 in
theorem ggX7_addNode_X5_placeOf : GoodIn wsX7_addNode wsX5_placeOf := goodIn_r _ [38, 20, 25, 39, 40, 41, 18, 42, 43, 44, 45, 46, 73, 74, 75, 76, 77, 78, 79] (by decide +kernel) (by decide +kernel)
set_option maxRecDepth 20000 in
theorem gX7_addNode_X5_placeOf : GoodIn wsX7_addNode (wsV RX7 158 RX5 yX5_placeOf wsX5_placeOf) := goodIn_app (goodIn_of _ (by decide +kernel)) ggX7_addNode_X5_placeOf
set_option maxRecDepth 20000 in
theorem ggX7_addNode_X5_openGap : GoodIn wsX7_addNode wsX5_openGap := goodIn_r _ [50, 20, 51, 52, 53, 18, 54, 55, 56, 57, 25, 58, 73, 74, 75, 76, 77, 78, 79] (by decide +kernel) (by decide +kernel)
set_option maxRecDepth 20000 in
theorem gX7_addNode_X5_openGap : GoodIn wsX7_addNode (wsV RX7 162 RX5 yX5_openGap wsX5_openGap) := goodIn_app (goodIn_of _ (by decide +kernel)) ggX7_addNode_X5_openGap
set_option maxRecDepth 20000 in
theorem ggX7_addNode_X5_setNode : GoodIn wsX7_addNode wsX5_setNode := goodIn_r _ [62, 55, 56, 57, 25, 58, 73, 74, 75, 76, 77, 78, 79] (by decide +kernel) (by decide +kernel)
set_option maxRecDepth 20000 in
theorem gX7_addNode_X5_setNode : GoodIn wsX7_addNode (wsV RX7 168 RX5 yX5_setNode wsX5_setNode) := goodIn_app (goodIn_of _ (by decide +kernel)) ggX7_addNode_X5_setNode
theorem dX7_addNode_0 : decode cX7_addNode 0 = .ok (.aload_n 0, 1) := by decide +kernel
theorem dX7_addNode_1 : decode cX7_addNode 1 = .ok (.iload_n 1, 1) := by decide +kernel
theorem dX7_addNode_2 : decode cX7_addNode 2 = .ok (.iload_n 2, 1) := by decide +kernel
theorem dX7_addNode_3 : decode cX7_addNode 3 = .ok (.invokevirtual 146, 3) := by decide +kernel
theorem dX7_addNode_6 : decode cX7_addNode 6 = .ok (.astore 5, 2) := by decide +kernel
theorem dX7_addNode_8 : decode cX7_addNode 8 = .ok (.iload_n 3, 1) := by decide +kernel
theorem dX7_addNode_9 : decode cX7_addNode 9 = .ok (.ifCond .lt 13, 3) := by decide +kernel
theorem dX7_addNode_12 : decode cX7_addNode 12 = .ok (.iload_n 3, 1) := by decide +kernel
theorem dX7_addNode_13 : decode cX7_addNode 13 = .ok (.aload 5, 2) := by decide +kernel
theorem dX7_addNode_15 : decode cX7_addNode 15 = .ok (.iload_n 2, 1) := by decide +kernel
theorem dX7_addNode_16 : decode cX7_addNode 16 = .ok (.invokevirtual 150, 3) := by decide +kernel
theorem dX7_addNode_19 : decode cX7_addNode 19 = .ok (.if_icmp .le 13, 3) := by decide +kernel
theorem dX7_addNode_22 : decode cX7_addNode 22 = .ok (.new 138, 3) := by decide +kernel
theorem dX7_addNode_25 : decode cX7_addNode 25 = .ok (.dup, 1) := by decide +kernel
theorem dX7_addNode_26 : decode cX7_addNode 26 = .ok (.ldc 153, 2) := by decide +kernel
theorem dX7_addNode_28 : decode cX7_addNode 28 = .ok (.invokespecial 142, 3) := by decide +kernel
theorem dX7_addNode_31 : decode cX7_addNode 31 = .ok (.athrow, 1) := by decide +kernel
theorem dX7_addNode_32 : decode cX7_addNode 32 = .ok (.aload_n 0, 1) := by decide +kernel
theorem dX7_addNode_33 : decode cX7_addNode 33 = .ok (.iload 4, 2) := by decide +kernel
theorem dX7_addNode_35 : decode cX7_addNode 35 = .ok (.invokevirtual 155, 3) := by decide +kernel
theorem dX7_addNode_38 : decode cX7_addNode 38 = .ok (.aload 5, 2) := by decide +kernel
theorem dX7_addNode_40 : decode cX7_addNode 40 = .ok (.iload_n 2, 1) := by decide +kernel
theorem dX7_addNode_41 : decode cX7_addNode 41 = .ok (.iload_n 3, 1) := by decide +kernel
theorem dX7_addNode_42 : decode cX7_addNode 42 = .ok (.invokevirtual 158, 3) := by decide +kernel
theorem dX7_addNode_45 : decode cX7_addNode 45 = .ok (.istore 6, 2) := by decide +kernel
theorem dX7_addNode_47 : decode cX7_addNode 47 = .ok (.aload 5, 2) := by decide +kernel
theorem dX7_addNode_49 : decode cX7_addNode 49 = .ok (.iload 6, 2) := by decide +kernel
theorem dX7_addNode_51 : decode cX7_addNode 51 = .ok (.iconst 1, 1) := by decide +kernel
theorem dX7_addNode_52 : decode cX7_addNode 52 = .ok (.invokevirtual 162, 3) := by decide +kernel
theorem dX7_addNode_55 : decode cX7_addNode 55 = .ok (.ifCond .ne 13, 3) := by decide +kernel
theorem dX7_addNode_58 : decode cX7_addNode 58 = .ok (.new 73, 3) := by decide +kernel
theorem dX7_addNode_61 : decode cX7_addNode 61 = .ok (.dup, 1) := by decide +kernel
theorem dX7_addNode_62 : decode cX7_addNode 62 = .ok (.ldc 166, 2) := by decide +kernel
theorem dX7_addNode_64 : decode cX7_addNode 64 = .ok (.invokespecial 77, 3) := by decide +kernel
theorem dX7_addNode_67 : decode cX7_addNode 67 = .ok (.athrow, 1) := by decide +kernel
theorem dX7_addNode_68 : decode cX7_addNode 68 = .ok (.aload 5, 2) := by decide +kernel
theorem dX7_addNode_70 : decode cX7_addNode 70 = .ok (.iload 6, 2) := by decide +kernel
theorem dX7_addNode_72 : decode cX7_addNode 72 = .ok (.iload 4, 2) := by decide +kernel
theorem dX7_addNode_74 : decode cX7_addNode 74 = .ok (.iconst 0, 1) := by decide +kernel
theorem dX7_addNode_75 : decode cX7_addNode 75 = .ok (.iconst 0, 1) := by decide +kernel
theorem dX7_addNode_76 : decode cX7_addNode 76 = .ok (.iload_n 2, 1) := by decide +kernel
theorem dX7_addNode_77 : decode cX7_addNode 77 = .ok (.invokevirtual 168, 3) := by decide +kernel
theorem dX7_addNode_80 : decode cX7_addNode 80 = .ok (.iload 6, 2) := by decide +kernel
theorem dX7_addNode_82 : decode cX7_addNode 82 = .ok (.ireturn, 1) := by decide +kernel
set_option maxRecDepth 20000 in
theorem ggX7_removeNode_X7_treeWith : GoodIn wsX7_removeNode wsX7_treeWith := goodIn_ca (goodIn_r _ [8, 9, 10, 11, 12, 13, 7, 14, 15, 16, 17, 18, 19, 20, 21, 46, 47, 48, 49, 50, 51, 52, 53, 54, 55, 39, 40, 41, 42, 43, 44, 45] (by decide +kernel) (by decide +kernel)) (goodIn_sub (fun _ h => List.mem_cons_of_mem _ (List.mem_append_right _ h)) (by decide +kernel))
set_option maxRecDepth 20000 in
theorem gX7_removeNode_X7_treeWith : GoodIn wsX7_removeNode (wsV RX7 146 RX7 yX7_treeWith wsX7_treeWith) := goodIn_app (goodIn_of _ (by decide +kernel)) ggX7_removeNode_X7_treeWith
set_option maxRecDepth 20000 in
theorem ggX7_removeNode_X5_cutOut : GoodIn wsX7_removeNode wsX5_cutOut := goodIn_r _ [25, 21, 26, 27, 28, 19, 29, 30, 31, 32, 33, 34, 35, 36, 37, 38, 39, 40, 41, 42, 43, 44, 45] (by decide +kernel) (by decide +kernel)
set_option maxRecDepth 20000 in
theorem gX7_removeNode_X5_cutOut : GoodIn wsX7_removeNode (wsV RX7 177 RX5 yX5_cutOut wsX5_cutOut) := goodIn_app (goodIn_of _ (by decide +kernel)) ggX7_removeNode_X5_cutOut
theorem dX7_removeNode_0 : decode cX7_removeNode 0 = .ok (.aload_n 0, 1) := by decide +kernel
theorem dX7_removeNode_1 : decode cX7_removeNode 1 = .ok (.iload_n 1, 1) := by decide +kernel
theorem dX7_removeNode_2 : decode cX7_removeNode 2 = .ok (.iload_n 2, 1) := by decide +kernel
theorem dX7_removeNode_3 : decode cX7_removeNode 3 = .ok (.invokevirtual 146, 3) := by decide +kernel
theorem dX7_removeNode_6 : decode cX7_removeNode 6 = .ok (.astore_n 3, 1) := by decide +kernel
theorem dX7_removeNode_7 : decode cX7_removeNode 7 = .ok (.iload_n 2, 1) := by decide +kernel
theorem dX7_removeNode_8 : decode cX7_removeNode 8 = .ok (.ifCond .ne 13, 3) := by decide +kernel
theorem dX7_removeNode_11 : decode cX7_removeNode 11 = .ok (.new 172, 3) := by decide +kernel
theorem dX7_removeNode_14 : decode cX7_removeNode 14 = .ok (.dup, 1) := by decide +kernel
theorem dX7_removeNode_15 : decode cX7_removeNode 15 = .ok (.ldc 174, 2) := by decide +kernel
theorem dX7_removeNode_17 : decode cX7_removeNode 17 = .ok (.invokespecial 176, 3) := by decide +kernel
theorem dX7_removeNode_20 : decode cX7_removeNode 20 = .ok (.athrow, 1) := by decide +kernel
theorem dX7_removeNode_21 : decode cX7_removeNode 21 = .ok (.aload_n 3, 1) := by decide +kernel
theorem dX7_removeNode_22 : decode cX7_removeNode 22 = .ok (.iload_n 2, 1) := by decide +kernel
theorem dX7_removeNode_23 : decode cX7_removeNode 23 = .ok (.invokevirtual 177, 3) := by decide +kernel
theorem dX7_removeNode_26 : decode cX7_removeNode 26 = .ok (.aload_n 3, 1) := by decide +kernel
theorem dX7_removeNode_27 : decode cX7_removeNode 27 = .ok (.getfield 107, 3) := by decide +kernel
theorem dX7_removeNode_30 : decode cX7_removeNode 30 = .ok (.ireturn, 1) := by decide +kernel
set_option maxRecDepth 20000 in
theorem ggX7_setLabel_X7_treeWith : GoodIn wsX7_setLabel wsX7_treeWith := goodIn_ca (goodIn_r _ [6, 7, 8, 9, 10, 11, 5, 12, 13, 14, 15, 16, 17, 18, 19, 41, 42, 43, 44, 45, 46, 47, 48, 49, 50, 34, 35, 36, 37, 38, 39, 40] (by decide +kernel) (by decide +kernel)) (goodIn_sub (fun _ h => List.mem_cons_of_mem _ (List.mem_append_left _ (List.mem_append_right _ h))) (by decide +kernel))
set_option maxRecDepth 20000 in
theorem gX7_setLabel_X7_treeWith : GoodIn wsX7_setLabel (wsV RX7 146 RX7 yX7_treeWith wsX7_treeWith) := goodIn_app (goodIn_of _ (by decide +kernel)) ggX7_setLabel_X7_treeWith
set_option maxRecDepth 20000 in
theorem ggX7_setLabel_X7_needLabel : GoodIn wsX7_setLabel wsX7_needLabel := goodIn_ca (goodIn_r _ [23, 24, 25, 26, 27, 5, 28] (by decide +kernel) (by decide +kernel)) (goodIn_sub (fun _ h => List.mem_cons_of_mem _ (List.mem_append_right _ h)) (by decide +kernel))
set_option maxRecDepth 20000 in
theorem gX7_setLabel_X7_needLabel : GoodIn wsX7_setLabel (wsV RX7 155 RX7 yX7_needLabel wsX7_needLabel) := goodIn_app (goodIn_of _ (by decide +kernel)) ggX7_setLabel_X7_needLabel
set_option maxRecDepth 20000 in
theorem ggX7_setLabel_X5_countLabel : GoodIn wsX7_setLabel wsX5_countLabel := goodIn_r _ [32, 19, 33, 34, 35, 36, 37, 38, 39, 40] (by decide +kernel) (by decide +kernel)
set_option maxRecDepth 20000 in
theorem gX7_setLabel_X5_countLabel : GoodIn wsX7_setLabel (wsV RX7 183 RX5 yX5_countLabel wsX5_countLabel) := goodIn_app (goodIn_of _ (by decide +kernel)) ggX7_setLabel_X5_countLabel
theorem dX7_setLabel_0 : decode cX7_setLabel 0 = .ok (.aload_n 0, 1) := by decide +kernel
theorem dX7_setLabel_1 : decode cX7_setLabel 1 = .ok (.iload_n 1, 1) := by decide +kernel
theorem dX7_setLabel_2 : decode cX7_setLabel 2 = .ok (.iload_n 2, 1) := by decide +kernel
theorem dX7_setLabel_3 : decode cX7_setLabel 3 = .ok (.invokevirtual 146, 3) := by decide +kernel
theorem dX7_setLabel_6 : decode cX7_setLabel 6 = .ok (.astore 4, 2) := by decide +kernel
theorem dX7_setLabel_8 : decode cX7_setLabel 8 = .ok (.aload_n 0, 1) := by decide +kernel
theorem dX7_setLabel_9 : decode cX7_setLabel 9 = .ok (.iload_n 3, 1) := by decide +kernel
theorem dX7_setLabel_10 : decode cX7_setLabel 10 = .ok (.invokevirtual 155, 3) := by decide +kernel
theorem dX7_setLabel_13 : decode cX7_setLabel 13 = .ok (.aload 4, 2) := by decide +kernel
theorem dX7_setLabel_15 : decode cX7_setLabel 15 = .ok (.getfield 180, 3) := by decide +kernel
theorem dX7_setLabel_18 : decode cX7_setLabel 18 = .ok (.iload_n 2, 1) := by decide +kernel
theorem dX7_setLabel_19 : decode cX7_setLabel 19 = .ok (.iload_n 3, 1) := by decide +kernel
theorem dX7_setLabel_20 : decode cX7_setLabel 20 = .ok (.castore, 1) := by decide +kernel
theorem dX7_setLabel_21 : decode cX7_setLabel 21 = .ok (.aload 4, 2) := by decide +kernel
theorem dX7_setLabel_23 : decode cX7_setLabel 23 = .ok (.iload_n 3, 1) := by decide +kernel
theorem dX7_setLabel_24 : decode cX7_setLabel 24 = .ok (.invokevirtual 183, 3) := by decide +kernel
theorem dX7_setLabel_27 : decode cX7_setLabel 27 = .ok (.ireturn, 1) := by decide +kernel
set_option maxRecDepth 20000 in
theorem ggX7_setKey_X7_treeWith : GoodIn wsX7_setKey wsX7_treeWith := goodIn_ca (goodIn_r _ [13, 14, 15, 16, 17, 18, 12, 19, 20, 21, 22, 23, 24, 25, 26, 43, 44, 45, 46, 47, 48, 49, 50, 51, 52, 36, 37, 38, 39, 40, 41, 42] (by decide +kernel) (by decide +kernel)) (goodIn_sub (fun _ h => List.mem_cons_of_mem _ (List.mem_append_right _ h)) (by decide +kernel))
set_option maxRecDepth 20000 in
theorem gX7_setKey_X7_treeWith : GoodIn wsX7_setKey (wsV RX7 146 RX7 yX7_treeWith wsX7_treeWith) := goodIn_app (goodIn_of _ (by decide +kernel)) ggX7_setKey_X7_treeWith
set_option maxRecDepth 20000 in
theorem ggX7_setKey_X7_isKey : GoodIn wsX7_setKey wsX7_isKey := goodIn_r _ [29] (by decide +kernel) (by decide +kernel)
set_option maxRecDepth 20000 in
theorem gX7_setKey_X7_isKey : GoodIn wsX7_setKey (va_wsS RX7 187 yX7_isKey wsX7_isKey) := goodIn_app (goodIn_of _ (by decide +kernel)) ggX7_setKey_X7_isKey
set_option maxRecDepth 20000 in
theorem ggX7_setKey_X5_hasKey : GoodIn wsX7_setKey wsX5_hasKey := goodIn_r _ [33, 26, 34, 35, 36, 37, 38, 39, 40, 41, 42] (by decide +kernel) (by decide +kernel)
set_option maxRecDepth 20000 in
theorem gX7_setKey_X5_hasKey : GoodIn wsX7_setKey (wsV RX7 199 RX5 yX5_hasKey wsX5_hasKey) := goodIn_app (goodIn_of _ (by decide +kernel)) ggX7_setKey_X5_hasKey
theorem dX7_setKey_0 : decode cX7_setKey 0 = .ok (.aload_n 0, 1) := by decide +kernel
theorem dX7_setKey_1 : decode cX7_setKey 1 = .ok (.iload_n 1, 1) := by decide +kernel
theorem dX7_setKey_2 : decode cX7_setKey 2 = .ok (.iload_n 2, 1) := by decide +kernel
theorem dX7_setKey_3 : decode cX7_setKey 3 = .ok (.invokevirtual 146, 3) := by decide +kernel
theorem dX7_setKey_6 : decode cX7_setKey 6 = .ok (.astore 4, 2) := by decide +kernel
theorem dX7_setKey_8 : decode cX7_setKey 8 = .ok (.iload_n 3, 1) := by decide +kernel
theorem dX7_setKey_9 : decode cX7_setKey 9 = .ok (.invokestatic 187, 3) := by decide +kernel
theorem dX7_setKey_12 : decode cX7_setKey 12 = .ok (.ifCond .ne 13, 3) := by decide +kernel
theorem dX7_setKey_15 : decode cX7_setKey 15 = .ok (.new 94, 3) := by decide +kernel
theorem dX7_setKey_18 : decode cX7_setKey 18 = .ok (.dup, 1) := by decide +kernel
theorem dX7_setKey_19 : decode cX7_setKey 19 = .ok (.ldc 191, 2) := by decide +kernel
theorem dX7_setKey_21 : decode cX7_setKey 21 = .ok (.invokespecial 98, 3) := by decide +kernel
theorem dX7_setKey_24 : decode cX7_setKey 24 = .ok (.athrow, 1) := by decide +kernel
theorem dX7_setKey_25 : decode cX7_setKey 25 = .ok (.iload_n 2, 1) := by decide +kernel
theorem dX7_setKey_26 : decode cX7_setKey 26 = .ok (.ifCond .ne 13, 3) := by decide +kernel
theorem dX7_setKey_29 : decode cX7_setKey 29 = .ok (.new 172, 3) := by decide +kernel
theorem dX7_setKey_32 : decode cX7_setKey 32 = .ok (.dup, 1) := by decide +kernel
theorem dX7_setKey_33 : decode cX7_setKey 33 = .ok (.ldc 193, 2) := by decide +kernel
theorem dX7_setKey_35 : decode cX7_setKey 35 = .ok (.invokespecial 176, 3) := by decide +kernel
theorem dX7_setKey_38 : decode cX7_setKey 38 = .ok (.athrow, 1) := by decide +kernel
theorem dX7_setKey_39 : decode cX7_setKey 39 = .ok (.aload 4, 2) := by decide +kernel
theorem dX7_setKey_41 : decode cX7_setKey 41 = .ok (.aload 4, 2) := by decide +kernel
theorem dX7_setKey_43 : decode cX7_setKey 43 = .ok (.getfield 195, 3) := by decide +kernel
theorem dX7_setKey_46 : decode cX7_setKey 46 = .ok (.iload_n 2, 1) := by decide +kernel
theorem dX7_setKey_47 : decode cX7_setKey 47 = .ok (.iaload, 1) := by decide +kernel
theorem dX7_setKey_48 : decode cX7_setKey 48 = .ok (.iload_n 3, 1) := by decide +kernel
theorem dX7_setKey_49 : decode cX7_setKey 49 = .ok (.iload_n 2, 1) := by decide +kernel
theorem dX7_setKey_50 : decode cX7_setKey 50 = .ok (.invokevirtual 199, 3) := by decide +kernel
theorem dX7_setKey_53 : decode cX7_setKey 53 = .ok (.ifCond .eq 13, 3) := by decide +kernel
theorem dX7_setKey_56 : decode cX7_setKey 56 = .ok (.new 73, 3) := by decide +kernel
theorem dX7_setKey_59 : decode cX7_setKey 59 = .ok (.dup, 1) := by decide +kernel
theorem dX7_setKey_60 : decode cX7_setKey 60 = .ok (.ldc 203, 2) := by decide +kernel
theorem dX7_setKey_62 : decode cX7_setKey 62 = .ok (.invokespecial 77, 3) := by decide +kernel
theorem dX7_setKey_65 : decode cX7_setKey 65 = .ok (.athrow, 1) := by decide +kernel
theorem dX7_setKey_66 : decode cX7_setKey 66 = .ok (.aload 4, 2) := by decide +kernel
theorem dX7_setKey_68 : decode cX7_setKey 68 = .ok (.getfield 205, 3) := by decide +kernel
theorem dX7_setKey_71 : decode cX7_setKey 71 = .ok (.iload_n 2, 1) := by decide +kernel
theorem dX7_setKey_72 : decode cX7_setKey 72 = .ok (.iaload, 1) := by decide +kernel
theorem dX7_setKey_73 : decode cX7_setKey 73 = .ok (.istore 5, 2) := by decide +kernel
theorem dX7_setKey_75 : decode cX7_setKey 75 = .ok (.aload 4, 2) := by decide +kernel
theorem dX7_setKey_77 : decode cX7_setKey 77 = .ok (.getfield 205, 3) := by decide +kernel
theorem dX7_setKey_80 : decode cX7_setKey 80 = .ok (.iload_n 2, 1) := by decide +kernel
theorem dX7_setKey_81 : decode cX7_setKey 81 = .ok (.iload_n 3, 1) := by decide +kernel
theorem dX7_setKey_82 : decode cX7_setKey 82 = .ok (.iastore, 1) := by decide +kernel
theorem dX7_setKey_83 : decode cX7_setKey 83 = .ok (.iload 5, 2) := by decide +kernel
theorem dX7_setKey_85 : decode cX7_setKey 85 = .ok (.ireturn, 1) := by decide +kernel
set_option maxRecDepth 20000 in
theorem ggX7_setValue_X7_treeWith : GoodIn wsX7_setValue wsX7_treeWith := goodIn_ca (goodIn_r _ [8, 9, 10, 11, 12, 13, 7, 14, 15, 16, 17, 18, 19, 20, 21, 32, 33, 34, 35, 36, 37, 38, 39, 40, 41, 25, 26, 27, 28, 29, 30, 31] (by decide +kernel) (by decide +kernel)) (goodIn_sub (fun _ h => List.mem_cons_of_mem _ (List.mem_append_right _ h)) (by decide +kernel))
set_option maxRecDepth 20000 in
theorem gX7_setValue_X7_treeWith : GoodIn wsX7_setValue (wsV RX7 146 RX7 yX7_treeWith wsX7_treeWith) := goodIn_app (goodIn_of _ (by decide +kernel)) ggX7_setValue_X7_treeWith
set_option maxRecDepth 20000 in
theorem ggX7_setValue_X7_isValue : GoodIn wsX7_setValue wsX7_isValue := goodIn_r _ [24] (by decide +kernel) (by decide +kernel)
set_option maxRecDepth 20000 in
theorem gX7_setValue_X7_isValue : GoodIn wsX7_setValue (va_wsS RX7 208 yX7_isValue wsX7_isValue) := goodIn_app (goodIn_of _ (by decide +kernel)) ggX7_setValue_X7_isValue
theorem dX7_setValue_0 : decode cX7_setValue 0 = .ok (.aload_n 0, 1) := by decide +kernel
theorem dX7_setValue_1 : decode cX7_setValue 1 = .ok (.iload_n 1, 1) := by decide +kernel
theorem dX7_setValue_2 : decode cX7_setValue 2 = .ok (.iload_n 2, 1) := by decide +kernel
theorem dX7_setValue_3 : decode cX7_setValue 3 = .ok (.invokevirtual 146, 3) := by decide +kernel
theorem dX7_setValue_6 : decode cX7_setValue 6 = .ok (.astore 4, 2) := by decide +kernel
theorem dX7_setValue_8 : decode cX7_setValue 8 = .ok (.iload_n 3, 1) := by decide +kernel
theorem dX7_setValue_9 : decode cX7_setValue 9 = .ok (.invokestatic 208, 3) := by decide +kernel
theorem dX7_setValue_12 : decode cX7_setValue 12 = .ok (.ifCond .ne 13, 3) := by decide +kernel
theorem dX7_setValue_15 : decode cX7_setValue 15 = .ok (.new 94, 3) := by decide +kernel
theorem dX7_setValue_18 : decode cX7_setValue 18 = .ok (.dup, 1) := by decide +kernel
theorem dX7_setValue_19 : decode cX7_setValue 19 = .ok (.ldc 211, 2) := by decide +kernel
theorem dX7_setValue_21 : decode cX7_setValue 21 = .ok (.invokespecial 98, 3) := by decide +kernel
theorem dX7_setValue_24 : decode cX7_setValue 24 = .ok (.athrow, 1) := by decide +kernel
theorem dX7_setValue_25 : decode cX7_setValue 25 = .ok (.aload 4, 2) := by decide +kernel
theorem dX7_setValue_27 : decode cX7_setValue 27 = .ok (.getfield 213, 3) := by decide +kernel
theorem dX7_setValue_30 : decode cX7_setValue 30 = .ok (.iload_n 2, 1) := by decide +kernel
theorem dX7_setValue_31 : decode cX7_setValue 31 = .ok (.iaload, 1) := by decide +kernel
theorem dX7_setValue_32 : decode cX7_setValue 32 = .ok (.istore 5, 2) := by decide +kernel
theorem dX7_setValue_34 : decode cX7_setValue 34 = .ok (.aload 4, 2) := by decide +kernel
theorem dX7_setValue_36 : decode cX7_setValue 36 = .ok (.getfield 213, 3) := by decide +kernel
theorem dX7_setValue_39 : decode cX7_setValue 39 = .ok (.iload_n 2, 1) := by decide +kernel
theorem dX7_setValue_40 : decode cX7_setValue 40 = .ok (.iload_n 3, 1) := by decide +kernel
theorem dX7_setValue_41 : decode cX7_setValue 41 = .ok (.iastore, 1) := by decide +kernel
theorem dX7_setValue_42 : decode cX7_setValue 42 = .ok (.iload 5, 2) := by decide +kernel
theorem dX7_setValue_44 : decode cX7_setValue 44 = .ok (.ireturn, 1) := by decide +kernel
set_option maxRecDepth 20000 in
theorem ggX7_copyTree_X7_treeAt : GoodIn wsX7_copyTree wsX7_treeAt := goodIn_ca (goodIn_r _ [6, 7, 8, 9, 31, 32, 33, 34, 35, 36, 37, 38, 39, 40] (by decide +kernel) (by decide +kernel)) (goodIn_sub (fun _ h => List.mem_cons_of_mem _ (List.mem_append_right _ h)) (by decide +kernel))
set_option maxRecDepth 20000 in
theorem gX7_copyTree_X7_treeAt : GoodIn wsX7_copyTree (wsV RX7 83 RX7 yX7_treeAt wsX7_treeAt) := goodIn_app (goodIn_of _ (by decide +kernel)) ggX7_copyTree_X7_treeAt
set_option maxRecDepth 20000 in
theorem ggX7_copyTree_X5_copyFrom : GoodIn wsX7_copyTree wsX5_copyFrom := goodIn_r _ [14, 15, 16, 17, 18, 19, 20, 21, 22, 23, 24, 25, 26, 27, 28, 29, 30] (by decide +kernel) (by decide +kernel)
set_option maxRecDepth 20000 in
theorem gX7_copyTree_X5_copyFrom : GoodIn wsX7_copyTree (wsV RX7 103 RX5 yX5_copyFrom wsX5_copyFrom) := goodIn_app (goodIn_of _ (by decide +kernel)) ggX7_copyTree_X5_copyFrom
theorem dX7_copyTree_0 : decode cX7_copyTree 0 = .ok (.aload_n 0, 1) := by decide +kernel
theorem dX7_copyTree_1 : decode cX7_copyTree 1 = .ok (.iload_n 1, 1) := by decide +kernel
theorem dX7_copyTree_2 : decode cX7_copyTree 2 = .ok (.invokevirtual 83, 3) := by decide +kernel
theorem dX7_copyTree_5 : decode cX7_copyTree 5 = .ok (.astore_n 3, 1) := by decide +kernel
theorem dX7_copyTree_6 : decode cX7_copyTree 6 = .ok (.aload_n 0, 1) := by decide +kernel
theorem dX7_copyTree_7 : decode cX7_copyTree 7 = .ok (.iload_n 2, 1) := by decide +kernel
theorem dX7_copyTree_8 : decode cX7_copyTree 8 = .ok (.invokevirtual 83, 3) := by decide +kernel
theorem dX7_copyTree_11 : decode cX7_copyTree 11 = .ok (.astore 4, 2) := by decide +kernel
theorem dX7_copyTree_13 : decode cX7_copyTree 13 = .ok (.aload 4, 2) := by decide +kernel
theorem dX7_copyTree_15 : decode cX7_copyTree 15 = .ok (.aload_n 3, 1) := by decide +kernel
theorem dX7_copyTree_16 : decode cX7_copyTree 16 = .ok (.invokevirtual 103, 3) := by decide +kernel
theorem dX7_copyTree_19 : decode cX7_copyTree 19 = .ok (.aload 4, 2) := by decide +kernel
theorem dX7_copyTree_21 : decode cX7_copyTree 21 = .ok (.getfield 107, 3) := by decide +kernel
theorem dX7_copyTree_24 : decode cX7_copyTree 24 = .ok (.ireturn, 1) := by decide +kernel
set_option maxRecDepth 20000 in
theorem ggX7_size_X7_treeAt : GoodIn wsX7_size wsX7_treeAt := goodIn_ca (goodIn_r _ [6, 7, 8, 9, 17, 18, 19, 20, 21, 22, 23, 24, 25, 26] (by decide +kernel) (by decide +kernel)) (goodIn_sub (fun _ h => List.mem_cons_of_mem _ (List.mem_append_right _ h)) (by decide +kernel))
set_option maxRecDepth 20000 in
theorem gX7_size_X7_treeAt : GoodIn wsX7_size (wsV RX7 83 RX7 yX7_treeAt wsX7_treeAt) := goodIn_app (goodIn_of _ (by decide +kernel)) ggX7_size_X7_treeAt
theorem dX7_size_0 : decode cX7_size 0 = .ok (.aload_n 0, 1) := by decide +kernel
theorem dX7_size_1 : decode cX7_size 1 = .ok (.iload_n 1, 1) := by decide +kernel
theorem dX7_size_2 : decode cX7_size 2 = .ok (.invokevirtual 83, 3) := by decide +kernel
theorem dX7_size_5 : decode cX7_size 5 = .ok (.getfield 107, 3) := by decide +kernel
theorem dX7_size_8 : decode cX7_size 8 = .ok (.ireturn, 1) := by decide +kernel
set_option maxRecDepth 20000 in
theorem ggX7_label_X7_treeWith : GoodIn wsX7_label wsX7_treeWith := goodIn_ca (goodIn_r _ [6, 7, 8, 9, 10, 11, 5, 12, 13, 14, 15, 16, 17, 18, 19, 27, 28, 29, 30, 31, 32, 33, 34, 35, 36, 20, 21, 22, 23, 24, 25, 26] (by decide +kernel) (by decide +kernel)) (goodIn_sub (fun _ h => List.mem_cons_of_mem _ (List.mem_append_right _ h)) (by decide +kernel))
set_option maxRecDepth 20000 in
theorem gX7_label_X7_treeWith : GoodIn wsX7_label (wsV RX7 146 RX7 yX7_treeWith wsX7_treeWith) := goodIn_app (goodIn_of _ (by decide +kernel)) ggX7_label_X7_treeWith
theorem dX7_label_0 : decode cX7_label 0 = .ok (.aload_n 0, 1) := by decide +kernel
theorem dX7_label_1 : decode cX7_label 1 = .ok (.iload_n 1, 1) := by decide +kernel
theorem dX7_label_2 : decode cX7_label 2 = .ok (.iload_n 2, 1) := by decide +kernel
theorem dX7_label_3 : decode cX7_label 3 = .ok (.invokevirtual 146, 3) := by decide +kernel
theorem dX7_label_6 : decode cX7_label 6 = .ok (.getfield 180, 3) := by decide +kernel
theorem dX7_label_9 : decode cX7_label 9 = .ok (.iload_n 2, 1) := by decide +kernel
theorem dX7_label_10 : decode cX7_label 10 = .ok (.caload, 1) := by decide +kernel
theorem dX7_label_11 : decode cX7_label 11 = .ok (.ireturn, 1) := by decide +kernel
set_option maxRecDepth 20000 in
theorem ggX7_key_X7_treeWith : GoodIn wsX7_key wsX7_treeWith := goodIn_ca (goodIn_r _ [6, 7, 8, 9, 10, 11, 5, 12, 13, 14, 15, 16, 17, 18, 19, 27, 28, 29, 30, 31, 32, 33, 34, 35, 36, 20, 21, 22, 23, 24, 25, 26] (by decide +kernel) (by decide +kernel)) (goodIn_sub (fun _ h => List.mem_cons_of_mem _ (List.mem_append_right _ h)) (by decide +kernel))
set_option maxRecDepth 20000 in
theorem gX7_key_X7_treeWith : GoodIn wsX7_key (wsV RX7 146 RX7 yX7_treeWith wsX7_treeWith) := goodIn_app (goodIn_of _ (by decide +kernel)) ggX7_key_X7_treeWith
theorem dX7_key_0 : decode cX7_key 0 = .ok (.aload_n 0, 1) := by decide +kernel
theorem dX7_key_1 : decode cX7_key 1 = .ok (.iload_n 1, 1) := by decide +kernel
theorem dX7_key_2 : decode cX7_key 2 = .ok (.iload_n 2, 1) := by decide +kernel
theorem dX7_key_3 : decode cX7_key 3 = .ok (.invokevirtual 146, 3) := by decide +kernel
theorem dX7_key_6 : decode cX7_key 6 = .ok (.getfield 205, 3) := by decide +kernel
theorem dX7_key_9 : decode cX7_key 9 = .ok (.iload_n 2, 1) := by decide +kernel
theorem dX7_key_10 : decode cX7_key 10 = .ok (.iaload, 1) := by decide +kernel
theorem dX7_key_11 : decode cX7_key 11 = .ok (.ireturn, 1) := by decide +kernel
set_option maxRecDepth 20000 in
theorem ggX7_value_X7_treeWith : GoodIn wsX7_value wsX7_treeWith := goodIn_ca (goodIn_r _ [6, 7, 8, 9, 10, 11, 5, 12, 13, 14, 15, 16, 17, 18, 19, 27, 28, 29, 30, 31, 32, 33, 34, 35, 36, 20, 21, 22, 23, 24, 25, 26] (by decide +kernel) (by decide +kernel)) (goodIn_sub (fun _ h => List.mem_cons_of_mem _ (List.mem_append_right _ h)) (by decide +kernel))
set_option maxRecDepth 20000 in
theorem gX7_value_X7_treeWith : GoodIn wsX7_value (wsV RX7 146 RX7 yX7_treeWith wsX7_treeWith) := goodIn_app (goodIn_of _ (by decide +kernel)) ggX7_value_X7_treeWith
theorem dX7_value_0 : decode cX7_value 0 = .ok (.aload_n 0, 1) := by decide +kernel
theorem dX7_value_1 : decode cX7_value 1 = .ok (.iload_n 1, 1) := by decide +kernel
theorem dX7_value_2 : decode cX7_value 2 = .ok (.iload_n 2, 1) := by decide +kernel
theorem dX7_value_3 : decode cX7_value 3 = .ok (.invokevirtual 146, 3) := by decide +kernel
theorem dX7_value_6 : decode cX7_value 6 = .ok (.getfield 213, 3) := by decide +kernel
theorem dX7_value_9 : decode cX7_value 9 = .ok (.iload_n 2, 1) := by decide +kernel
theorem dX7_value_10 : decode cX7_value 10 = .ok (.iaload, 1) := by decide +kernel
theorem dX7_value_11 : decode cX7_value 11 = .ok (.ireturn, 1) := by decide +kernel
set_option maxRecDepth 20000 in
theorem ggX7_children_X7_treeWith : GoodIn wsX7_children wsX7_treeWith := goodIn_ca (goodIn_r _ [5, 6, 7, 8, 9, 10, 4, 11, 12, 13, 14, 15, 16, 17, 18, 24, 25, 26, 27, 28, 29, 30, 31, 32, 33, 34, 35, 36, 37, 38, 39, 40] (by decide +kernel) (by decide +kernel)) (goodIn_sub (fun _ h => List.mem_cons_of_mem _ (List.mem_append_right _ h)) (by decide +kernel))
set_option maxRecDepth 20000 in
theorem gX7_children_X7_treeWith : GoodIn wsX7_children (wsV RX7 146 RX7 yX7_treeWith wsX7_treeWith) := goodIn_app (goodIn_of _ (by decide +kernel)) ggX7_children_X7_treeWith
set_option maxRecDepth 20000 in
theorem ggX7_children_X5_countChildren : GoodIn wsX7_children wsX5_countChildren := goodIn_r _ [22, 18, 23, 34, 35, 36, 37, 38, 39, 40] (by decide +kernel) (by decide +kernel)
set_option maxRecDepth 20000 in
theorem gX7_children_X5_countChildren : GoodIn wsX7_children (wsV RX7 150 RX5 yX5_countChildren wsX5_countChildren) := goodIn_app (goodIn_of _ (by decide +kernel)) ggX7_children_X5_countChildren
theorem dX7_children_0 : decode cX7_children 0 = .ok (.aload_n 0, 1) := by decide +kernel
theorem dX7_children_1 : decode cX7_children 1 = .ok (.iload_n 1, 1) := by decide +kernel
theorem dX7_children_2 : decode cX7_children 2 = .ok (.iload_n 2, 1) := by decide +kernel
theorem dX7_children_3 : decode cX7_children 3 = .ok (.invokevirtual 146, 3) := by decide +kernel
theorem dX7_children_6 : decode cX7_children 6 = .ok (.iload_n 2, 1) := by decide +kernel
theorem dX7_children_7 : decode cX7_children 7 = .ok (.invokevirtual 150, 3) := by decide +kernel
theorem dX7_children_10 : decode cX7_children 10 = .ok (.ireturn, 1) := by decide +kernel
set_option maxRecDepth 20000 in
theorem ggX7_parent_X7_treeWith : GoodIn wsX7_parent wsX7_treeWith := goodIn_ca (goodIn_r _ [8, 9, 10, 11, 12, 13, 7, 14, 15, 16, 17, 18, 19, 20, 21, 29, 30, 31, 32, 33, 34, 35, 36, 37, 38, 22, 23, 24, 25, 26, 27, 28] (by decide +kernel) (by decide +kernel)) (goodIn_sub (fun _ h => List.mem_cons_of_mem _ (List.mem_append_right _ h)) (by decide +kernel))
set_option maxRecDepth 20000 in
theorem gX7_parent_X7_treeWith : GoodIn wsX7_parent (wsV RX7 146 RX7 yX7_treeWith wsX7_treeWith) := goodIn_app (goodIn_of _ (by decide +kernel)) ggX7_parent_X7_treeWith
theorem dX7_parent_0 : decode cX7_parent 0 = .ok (.aload_n 0, 1) := by decide +kernel
theorem dX7_parent_1 : decode cX7_parent 1 = .ok (.iload_n 1, 1) := by decide +kernel
theorem dX7_parent_2 : decode cX7_parent 2 = .ok (.iload_n 2, 1) := by decide +kernel
theorem dX7_parent_3 : decode cX7_parent 3 = .ok (.invokevirtual 146, 3) := by decide +kernel
theorem dX7_parent_6 : decode cX7_parent 6 = .ok (.astore_n 3, 1) := by decide +kernel
theorem dX7_parent_7 : decode cX7_parent 7 = .ok (.iload_n 2, 1) := by decide +kernel
theorem dX7_parent_8 : decode cX7_parent 8 = .ok (.ifCond .ne 13, 3) := by decide +kernel
theorem dX7_parent_11 : decode cX7_parent 11 = .ok (.new 110, 3) := by decide +kernel
theorem dX7_parent_14 : decode cX7_parent 14 = .ok (.dup, 1) := by decide +kernel
theorem dX7_parent_15 : decode cX7_parent 15 = .ok (.ldc 216, 2) := by decide +kernel
theorem dX7_parent_17 : decode cX7_parent 17 = .ok (.invokespecial 114, 3) := by decide +kernel
theorem dX7_parent_20 : decode cX7_parent 20 = .ok (.athrow, 1) := by decide +kernel
theorem dX7_parent_21 : decode cX7_parent 21 = .ok (.aload_n 3, 1) := by decide +kernel
theorem dX7_parent_22 : decode cX7_parent 22 = .ok (.getfield 195, 3) := by decide +kernel
theorem dX7_parent_25 : decode cX7_parent 25 = .ok (.iload_n 2, 1) := by decide +kernel
theorem dX7_parent_26 : decode cX7_parent 26 = .ok (.iaload, 1) := by decide +kernel
theorem dX7_parent_27 : decode cX7_parent 27 = .ok (.ireturn, 1) := by decide +kernel
set_option maxRecDepth 20000 in
theorem ggX7_subtreeSize_X7_treeWith : GoodIn wsX7_subtreeSize wsX7_treeWith := goodIn_ca (goodIn_r _ [5, 6, 7, 8, 9, 10, 4, 11, 12, 13, 14, 15, 16, 17, 18, 24, 25, 26, 27, 28, 29, 30, 31, 32, 33, 34, 35, 36, 37, 38, 39, 40] (by decide +kernel) (by decide +kernel)) (goodIn_sub (fun _ h => List.mem_cons_of_mem _ (List.mem_append_right _ h)) (by decide +kernel))
set_option maxRecDepth 20000 in
theorem gX7_subtreeSize_X7_treeWith : GoodIn wsX7_subtreeSize (wsV RX7 146 RX7 yX7_treeWith wsX7_treeWith) := goodIn_app (goodIn_of _ (by decide +kernel)) ggX7_subtreeSize_X7_treeWith
set_option maxRecDepth 20000 in
theorem ggX7_subtreeSize_X5_widthOf : GoodIn wsX7_subtreeSize wsX5_widthOf := goodIn_r _ [22, 18, 23, 34, 35, 36, 37, 38, 39, 40] (by decide +kernel) (by decide +kernel)
set_option maxRecDepth 20000 in
theorem gX7_subtreeSize_X5_widthOf : GoodIn wsX7_subtreeSize (wsV RX7 218 RX5 yX5_widthOf wsX5_widthOf) := goodIn_app (goodIn_of _ (by decide +kernel)) ggX7_subtreeSize_X5_widthOf
theorem dX7_subtreeSize_0 : decode cX7_subtreeSize 0 = .ok (.aload_n 0, 1) := by decide +kernel
theorem dX7_subtreeSize_1 : decode cX7_subtreeSize 1 = .ok (.iload_n 1, 1) := by decide +kernel
theorem dX7_subtreeSize_2 : decode cX7_subtreeSize 2 = .ok (.iload_n 2, 1) := by decide +kernel
theorem dX7_subtreeSize_3 : decode cX7_subtreeSize 3 = .ok (.invokevirtual 146, 3) := by decide +kernel
theorem dX7_subtreeSize_6 : decode cX7_subtreeSize 6 = .ok (.iload_n 2, 1) := by decide +kernel
theorem dX7_subtreeSize_7 : decode cX7_subtreeSize 7 = .ok (.invokevirtual 218, 3) := by decide +kernel
theorem dX7_subtreeSize_10 : decode cX7_subtreeSize 10 = .ok (.ireturn, 1) := by decide +kernel
set_option maxRecDepth 20000 in
theorem ggX7_subtreeHash_X7_treeWith : GoodIn wsX7_subtreeHash wsX7_treeWith := goodIn_ca (goodIn_r _ [5, 6, 7, 8, 9, 10, 4, 11, 12, 13, 14, 15, 16, 17, 18, 40, 41, 42, 43, 44, 45, 46, 47, 48, 49, 50, 51, 52, 53, 54, 55, 56] (by decide +kernel) (by decide +kernel)) (goodIn_sub (fun _ h => List.mem_cons_of_mem _ (List.mem_append_right _ h)) (by decide +kernel))
set_option maxRecDepth 20000 in
theorem gX7_subtreeHash_X7_treeWith : GoodIn wsX7_subtreeHash (wsV RX7 146 RX7 yX7_treeWith wsX7_treeWith) := goodIn_app (goodIn_of _ (by decide +kernel)) ggX7_subtreeHash_X7_treeWith
set_option maxRecDepth 20000 in
theorem ggX7_subtreeHash_X5_hashOf : GoodIn wsX7_subtreeHash wsX5_hashOf := goodIn_r _ [22, 23, 24, 25, 26, 27, 28, 29, 30, 16, 31, 32, 33, 34, 35, 18, 36, 37, 38, 39, 50, 51, 52, 53, 54, 55, 56] (by decide +kernel) (by decide +kernel)
set_option maxRecDepth 20000 in
theorem gX7_subtreeHash_X5_hashOf : GoodIn wsX7_subtreeHash (wsV RX7 221 RX5 yX5_hashOf wsX5_hashOf) := goodIn_app (goodIn_of _ (by decide +kernel)) ggX7_subtreeHash_X5_hashOf
theorem dX7_subtreeHash_0 : decode cX7_subtreeHash 0 = .ok (.aload_n 0, 1) := by decide +kernel
theorem dX7_subtreeHash_1 : decode cX7_subtreeHash 1 = .ok (.iload_n 1, 1) := by decide +kernel
theorem dX7_subtreeHash_2 : decode cX7_subtreeHash 2 = .ok (.iload_n 2, 1) := by decide +kernel
theorem dX7_subtreeHash_3 : decode cX7_subtreeHash 3 = .ok (.invokevirtual 146, 3) := by decide +kernel
theorem dX7_subtreeHash_6 : decode cX7_subtreeHash 6 = .ok (.iload_n 2, 1) := by decide +kernel
theorem dX7_subtreeHash_7 : decode cX7_subtreeHash 7 = .ok (.invokevirtual 221, 3) := by decide +kernel
theorem dX7_subtreeHash_10 : decode cX7_subtreeHash 10 = .ok (.ireturn, 1) := by decide +kernel
set_option maxRecDepth 20000 in
theorem ggX7_areEqual_X7_treeWith : GoodIn wsX7_areEqual wsX7_treeWith := goodIn_ca (goodIn_r _ [5, 6, 7, 8, 9, 10, 4, 11, 12, 13, 14, 15, 16, 17, 18, 35, 36, 37, 38, 39, 40, 41, 42, 43, 44, 45, 46, 47, 48, 49, 50, 51] (by decide +kernel) (by decide +kernel)) (goodIn_sub (fun _ h => List.mem_cons_of_mem _ (List.mem_append_right _ h)) (by decide +kernel))
set_option maxRecDepth 20000 in
theorem gX7_areEqual_X7_treeWith : GoodIn wsX7_areEqual (wsV RX7 146 RX7 yX7_treeWith wsX7_treeWith) := goodIn_app (goodIn_of _ (by decide +kernel)) ggX7_areEqual_X7_treeWith
set_option maxRecDepth 20000 in
theorem ggX7_areEqual_X5_equalsAt : GoodIn wsX7_areEqual wsX5_equalsAt := goodIn_r _ [22, 23, 24, 25, 26, 27, 28, 16, 29, 30, 31, 32, 33, 34, 18, 45, 46, 47, 48, 49, 50, 51] (by decide +kernel) (by decide +kernel)
set_option maxRecDepth 20000 in
theorem gX7_areEqual_X5_equalsAt : GoodIn wsX7_areEqual (wsV RX7 224 RX5 yX5_equalsAt wsX5_equalsAt) := goodIn_app (goodIn_of _ (by decide +kernel)) ggX7_areEqual_X5_equalsAt
theorem dX7_areEqual_0 : decode cX7_areEqual 0 = .ok (.aload_n 0, 1) := by decide +kernel
theorem dX7_areEqual_1 : decode cX7_areEqual 1 = .ok (.iload_n 1, 1) := by decide +kernel
theorem dX7_areEqual_2 : decode cX7_areEqual 2 = .ok (.iload_n 2, 1) := by decide +kernel
theorem dX7_areEqual_3 : decode cX7_areEqual 3 = .ok (.invokevirtual 146, 3) := by decide +kernel
theorem dX7_areEqual_6 : decode cX7_areEqual 6 = .ok (.astore 5, 2) := by decide +kernel
theorem dX7_areEqual_8 : decode cX7_areEqual 8 = .ok (.aload_n 0, 1) := by decide +kernel
theorem dX7_areEqual_9 : decode cX7_areEqual 9 = .ok (.iload_n 3, 1) := by decide +kernel
theorem dX7_areEqual_10 : decode cX7_areEqual 10 = .ok (.iload 4, 2) := by decide +kernel
theorem dX7_areEqual_12 : decode cX7_areEqual 12 = .ok (.invokevirtual 146, 3) := by decide +kernel
theorem dX7_areEqual_15 : decode cX7_areEqual 15 = .ok (.astore 6, 2) := by decide +kernel
theorem dX7_areEqual_17 : decode cX7_areEqual 17 = .ok (.aload 5, 2) := by decide +kernel
theorem dX7_areEqual_19 : decode cX7_areEqual 19 = .ok (.iload_n 2, 1) := by decide +kernel
theorem dX7_areEqual_20 : decode cX7_areEqual 20 = .ok (.aload 6, 2) := by decide +kernel
theorem dX7_areEqual_22 : decode cX7_areEqual 22 = .ok (.iload 4, 2) := by decide +kernel
theorem dX7_areEqual_24 : decode cX7_areEqual 24 = .ok (.invokevirtual 224, 3) := by decide +kernel
theorem dX7_areEqual_27 : decode cX7_areEqual 27 = .ok (.ireturn, 1) := by decide +kernel
set_option maxRecDepth 20000 in
theorem ggX7_twin_X7_treeWith : GoodIn wsX7_twin wsX7_treeWith := goodIn_ca (goodIn_r _ [8, 9, 10, 11, 12, 13, 7, 14, 15, 16, 17, 18, 19, 20, 21, 45, 46, 47, 48, 49, 50, 51, 52, 53, 54, 38, 39, 40, 41, 42, 43, 44] (by decide +kernel) (by decide +kernel)) (goodIn_sub (fun _ h => List.mem_cons_of_mem _ (List.mem_append_right _ h)) (by decide +kernel))
set_option maxRecDepth 20000 in
theorem gX7_twin_X7_treeWith : GoodIn wsX7_twin (wsV RX7 146 RX7 yX7_treeWith wsX7_treeWith) := goodIn_app (goodIn_of _ (by decide +kernel)) ggX7_twin_X7_treeWith
set_option maxRecDepth 20000 in
theorem ggX7_twin_X7_treeAt : GoodIn wsX7_twin wsX7_treeAt := goodIn_ca (goodIn_r _ [14, 9, 10, 15, 45, 46, 47, 48, 49, 50, 51, 52, 53, 54] (by decide +kernel) (by decide +kernel)) (goodIn_sub (fun _ h => List.mem_cons_of_mem _ (List.mem_append_right _ h)) (by decide +kernel))
set_option maxRecDepth 20000 in
theorem gX7_twin_X7_treeAt : GoodIn wsX7_twin (wsV RX7 83 RX7 yX7_treeAt wsX7_treeAt) := goodIn_app (goodIn_of _ (by decide +kernel)) ggX7_twin_X7_treeAt
set_option maxRecDepth 20000 in
theorem ggX7_twin_X5_equalsAt : GoodIn wsX7_twin wsX5_equalsAt := goodIn_r _ [25, 26, 27, 28, 29, 30, 31, 19, 32, 33, 34, 35, 36, 37, 21, 38, 39, 40, 41, 42, 43, 44] (by decide +kernel) (by decide +kernel)
set_option maxRecDepth 20000 in
theorem gX7_twin_X5_equalsAt : GoodIn wsX7_twin (wsV RX7 224 RX5 yX5_equalsAt wsX5_equalsAt) := goodIn_app (goodIn_of _ (by decide +kernel)) ggX7_twin_X5_equalsAt
theorem dX7_twin_0 : decode cX7_twin 0 = .ok (.aload_n 0, 1) := by decide +kernel
theorem dX7_twin_1 : decode cX7_twin 1 = .ok (.iload_n 1, 1) := by decide +kernel
theorem dX7_twin_2 : decode cX7_twin 2 = .ok (.iload_n 2, 1) := by decide +kernel
theorem dX7_twin_3 : decode cX7_twin 3 = .ok (.invokevirtual 146, 3) := by decide +kernel
theorem dX7_twin_6 : decode cX7_twin 6 = .ok (.astore 4, 2) := by decide +kernel
theorem dX7_twin_8 : decode cX7_twin 8 = .ok (.aload_n 0, 1) := by decide +kernel
theorem dX7_twin_9 : decode cX7_twin 9 = .ok (.iload_n 3, 1) := by decide +kernel
theorem dX7_twin_10 : decode cX7_twin 10 = .ok (.invokevirtual 83, 3) := by decide +kernel
theorem dX7_twin_13 : decode cX7_twin 13 = .ok (.astore 5, 2) := by decide +kernel
theorem dX7_twin_15 : decode cX7_twin 15 = .ok (.iconst 0, 1) := by decide +kernel
theorem dX7_twin_16 : decode cX7_twin 16 = .ok (.istore 6, 2) := by decide +kernel
theorem dX7_twin_18 : decode cX7_twin 18 = .ok (.iload 6, 2) := by decide +kernel
theorem dX7_twin_20 : decode cX7_twin 20 = .ok (.aload 5, 2) := by decide +kernel
theorem dX7_twin_22 : decode cX7_twin 22 = .ok (.getfield 107, 3) := by decide +kernel
theorem dX7_twin_25 : decode cX7_twin 25 = .ok (.if_icmp .ge 25, 3) := by decide +kernel
theorem dX7_twin_28 : decode cX7_twin 28 = .ok (.aload 4, 2) := by decide +kernel
theorem dX7_twin_30 : decode cX7_twin 30 = .ok (.iload_n 2, 1) := by decide +kernel
theorem dX7_twin_31 : decode cX7_twin 31 = .ok (.aload 5, 2) := by decide +kernel
theorem dX7_twin_33 : decode cX7_twin 33 = .ok (.iload 6, 2) := by decide +kernel
theorem dX7_twin_35 : decode cX7_twin 35 = .ok (.invokevirtual 224, 3) := by decide +kernel
theorem dX7_twin_38 : decode cX7_twin 38 = .ok (.ifCond .eq 6, 3) := by decide +kernel
theorem dX7_twin_41 : decode cX7_twin 41 = .ok (.iload 6, 2) := by decide +kernel
theorem dX7_twin_43 : decode cX7_twin 43 = .ok (.ireturn, 1) := by decide +kernel
theorem dX7_twin_44 : decode cX7_twin 44 = .ok (.iinc 6 1, 3) := by decide +kernel
theorem dX7_twin_47 : decode cX7_twin 47 = .ok (.goto (-29), 3) := by decide +kernel
theorem dX7_twin_50 : decode cX7_twin 50 = .ok (.new 110, 3) := by decide +kernel
theorem dX7_twin_53 : decode cX7_twin 53 = .ok (.dup, 1) := by decide +kernel
theorem dX7_twin_54 : decode cX7_twin 54 = .ok (.ldc 228, 2) := by decide +kernel
theorem dX7_twin_56 : decode cX7_twin 56 = .ok (.invokespecial 114, 3) := by decide +kernel
theorem dX7_twin_59 : decode cX7_twin 59 = .ok (.athrow, 1) := by decide +kernel
set_option maxRecDepth 20000 in
theorem ggX7_shapeTwin_X7_treeWith : GoodIn wsX7_shapeTwin wsX7_treeWith := goodIn_ca (goodIn_r _ [8, 9, 10, 11, 12, 13, 7, 14, 15, 16, 17, 18, 19, 20, 21, 38, 39, 40, 41, 42, 43, 44, 45, 46, 47, 31, 32, 33, 34, 35, 36, 37] (by decide +kernel) (by decide +kernel)) (goodIn_sub (fun _ h => List.mem_cons_of_mem _ (List.mem_append_right _ h)) (by decide +kernel))
set_option maxRecDepth 20000 in
theorem gX7_shapeTwin_X7_treeWith : GoodIn wsX7_shapeTwin (wsV RX7 146 RX7 yX7_treeWith wsX7_treeWith) := goodIn_app (goodIn_of _ (by decide +kernel)) ggX7_shapeTwin_X7_treeWith
set_option maxRecDepth 20000 in
theorem ggX7_shapeTwin_X7_treeAt : GoodIn wsX7_shapeTwin wsX7_treeAt := goodIn_ca (goodIn_r _ [14, 9, 10, 15, 38, 39, 40, 41, 42, 43, 44, 45, 46, 47] (by decide +kernel) (by decide +kernel)) (goodIn_sub (fun _ h => List.mem_cons_of_mem _ (List.mem_append_right _ h)) (by decide +kernel))
set_option maxRecDepth 20000 in
theorem gX7_shapeTwin_X7_treeAt : GoodIn wsX7_shapeTwin (wsV RX7 83 RX7 yX7_treeAt wsX7_treeAt) := goodIn_app (goodIn_of _ (by decide +kernel)) ggX7_shapeTwin_X7_treeAt
set_option maxRecDepth 20000 in
theorem ggX7_shapeTwin_X5_hasShapeAt : GoodIn wsX7_shapeTwin wsX5_hasShapeAt := goodIn_r _ [25, 26, 27, 28, 29, 19, 30, 21, 31, 32, 33, 34, 35, 36, 37] (by decide +kernel) (by decide +kernel)
set_option maxRecDepth 20000 in
theorem gX7_shapeTwin_X5_hasShapeAt : GoodIn wsX7_shapeTwin (wsV RX7 230 RX5 yX5_hasShapeAt wsX5_hasShapeAt) := goodIn_app (goodIn_of _ (by decide +kernel)) ggX7_shapeTwin_X5_hasShapeAt
theorem dX7_shapeTwin_0 : decode cX7_shapeTwin 0 = .ok (.aload_n 0, 1) := by decide +kernel
theorem dX7_shapeTwin_1 : decode cX7_shapeTwin 1 = .ok (.iload_n 1, 1) := by decide +kernel
theorem dX7_shapeTwin_2 : decode cX7_shapeTwin 2 = .ok (.iload_n 2, 1) := by decide +kernel
theorem dX7_shapeTwin_3 : decode cX7_shapeTwin 3 = .ok (.invokevirtual 146, 3) := by decide +kernel
theorem dX7_shapeTwin_6 : decode cX7_shapeTwin 6 = .ok (.astore 4, 2) := by decide +kernel
theorem dX7_shapeTwin_8 : decode cX7_shapeTwin 8 = .ok (.aload_n 0, 1) := by decide +kernel
theorem dX7_shapeTwin_9 : decode cX7_shapeTwin 9 = .ok (.iload_n 3, 1) := by decide +kernel
theorem dX7_shapeTwin_10 : decode cX7_shapeTwin 10 = .ok (.invokevirtual 83, 3) := by decide +kernel
theorem dX7_shapeTwin_13 : decode cX7_shapeTwin 13 = .ok (.astore 5, 2) := by decide +kernel
theorem dX7_shapeTwin_15 : decode cX7_shapeTwin 15 = .ok (.iconst 0, 1) := by decide +kernel
theorem dX7_shapeTwin_16 : decode cX7_shapeTwin 16 = .ok (.istore 6, 2) := by decide +kernel
theorem dX7_shapeTwin_18 : decode cX7_shapeTwin 18 = .ok (.iload 6, 2) := by decide +kernel
theorem dX7_shapeTwin_20 : decode cX7_shapeTwin 20 = .ok (.aload 5, 2) := by decide +kernel
theorem dX7_shapeTwin_22 : decode cX7_shapeTwin 22 = .ok (.getfield 107, 3) := by decide +kernel
theorem dX7_shapeTwin_25 : decode cX7_shapeTwin 25 = .ok (.if_icmp .ge 25, 3) := by decide +kernel
theorem dX7_shapeTwin_28 : decode cX7_shapeTwin 28 = .ok (.aload 4, 2) := by decide +kernel
theorem dX7_shapeTwin_30 : decode cX7_shapeTwin 30 = .ok (.iload_n 2, 1) := by decide +kernel
theorem dX7_shapeTwin_31 : decode cX7_shapeTwin 31 = .ok (.aload 5, 2) := by decide +kernel
theorem dX7_shapeTwin_33 : decode cX7_shapeTwin 33 = .ok (.iload 6, 2) := by decide +kernel
theorem dX7_shapeTwin_35 : decode cX7_shapeTwin 35 = .ok (.invokevirtual 230, 3) := by decide +kernel
theorem dX7_shapeTwin_38 : decode cX7_shapeTwin 38 = .ok (.ifCond .eq 6, 3) := by decide +kernel
theorem dX7_shapeTwin_41 : decode cX7_shapeTwin 41 = .ok (.iload 6, 2) := by decide +kernel
theorem dX7_shapeTwin_43 : decode cX7_shapeTwin 43 = .ok (.ireturn, 1) := by decide +kernel
theorem dX7_shapeTwin_44 : decode cX7_shapeTwin 44 = .ok (.iinc 6 1, 3) := by decide +kernel
theorem dX7_shapeTwin_47 : decode cX7_shapeTwin 47 = .ok (.goto (-29), 3) := by decide +kernel
theorem dX7_shapeTwin_50 : decode cX7_shapeTwin 50 = .ok (.new 110, 3) := by decide +kernel
theorem dX7_shapeTwin_53 : decode cX7_shapeTwin 53 = .ok (.dup, 1) := by decide +kernel
theorem dX7_shapeTwin_54 : decode cX7_shapeTwin 54 = .ok (.ldc 233, 2) := by decide +kernel
theorem dX7_shapeTwin_56 : decode cX7_shapeTwin 56 = .ok (.invokespecial 114, 3) := by decide +kernel
theorem dX7_shapeTwin_59 : decode cX7_shapeTwin 59 = .ok (.athrow, 1) := by decide +kernel
set_option maxRecDepth 20000 in
theorem ggX7_distance_X7_treeAt : GoodIn wsX7_distance wsX7_treeAt := goodIn_ca (goodIn_r _ [6, 7, 8, 9, 72, 73, 74, 75, 76, 77, 78, 79, 80, 81] (by decide +kernel) (by decide +kernel)) (goodIn_sub (fun _ h => List.mem_cons_of_mem _ (List.mem_append_right _ h)) (by decide +kernel))
set_option maxRecDepth 20000 in
theorem gX7_distance_X7_treeAt : GoodIn wsX7_distance (wsV RX7 83 RX7 yX7_treeAt wsX7_treeAt) := goodIn_app (goodIn_of _ (by decide +kernel)) ggX7_distance_X7_treeAt
set_option maxRecDepth 20000 in
theorem ggX7_distance_X1_leastCost : GoodIn wsX7_distance wsX1_leastCost := goodIn_r _ [14, 15, 16, 17, 18, 19, 20, 21, 22, 23, 24, 25, 26, 27, 28, 29, 30, 31, 32, 33, 34, 35, 36, 37, 38, 39, 40, 41, 13, 42, 43, 44, 45, 46, 47, 48, 49, 50, 51, 52, 53, 54, 55, 56, 57, 58, 59, 60, 61, 62, 63, 64, 65, 66, 67, 68, 5, 69, 70, 71, 82, 83, 84, 85, 86, 87, 88, 89, 90, 91, 92, 93, 94, 95, 96, 97, 98] (by decide +kernel) (by decide +kernel)
set_option maxRecDepth 20000 in
theorem gX7_distance_X1_leastCost : GoodIn wsX7_distance (wsV RX7 235 RX1 yX1_leastCost wsX1_leastCost) := goodIn_app (goodIn_of _ (by decide +kernel)) ggX7_distance_X1_leastCost
theorem dX7_distance_0 : decode cX7_distance 0 = .ok (.aload_n 0, 1) := by decide +kernel
theorem dX7_distance_1 : decode cX7_distance 1 = .ok (.iload_n 1, 1) := by decide +kernel
theorem dX7_distance_2 : decode cX7_distance 2 = .ok (.invokevirtual 83, 3) := by decide +kernel
theorem dX7_distance_5 : decode cX7_distance 5 = .ok (.astore_n 3, 1) := by decide +kernel
theorem dX7_distance_6 : decode cX7_distance 6 = .ok (.aload_n 0, 1) := by decide +kernel
theorem dX7_distance_7 : decode cX7_distance 7 = .ok (.iload_n 2, 1) := by decide +kernel
theorem dX7_distance_8 : decode cX7_distance 8 = .ok (.invokevirtual 83, 3) := by decide +kernel
theorem dX7_distance_11 : decode cX7_distance 11 = .ok (.astore 4, 2) := by decide +kernel
theorem dX7_distance_13 : decode cX7_distance 13 = .ok (.aload_n 0, 1) := by decide +kernel
theorem dX7_distance_14 : decode cX7_distance 14 = .ok (.getfield 32, 3) := by decide +kernel
theorem dX7_distance_17 : decode cX7_distance 17 = .ok (.aload_n 3, 1) := by decide +kernel
theorem dX7_distance_18 : decode cX7_distance 18 = .ok (.aload 4, 2) := by decide +kernel
theorem dX7_distance_20 : decode cX7_distance 20 = .ok (.invokevirtual 235, 3) := by decide +kernel
theorem dX7_distance_23 : decode cX7_distance 23 = .ok (.ireturn, 1) := by decide +kernel
set_option maxRecDepth 20000 in
theorem ggX7_distanceByMatchings_X7_treeAt : GoodIn wsX7_distanceByMatchings wsX7_treeAt := goodIn_ca (goodIn_r _ [9, 10, 11, 12, 51, 52, 53, 54, 55, 56, 57, 58, 59, 60] (by decide +kernel) (by decide +kernel)) (goodIn_sub (fun _ h => List.mem_cons_of_mem _ (List.mem_append_right _ h)) (by decide +kernel))
set_option maxRecDepth 20000 in
theorem gX7_distanceByMatchings_X7_treeAt : GoodIn wsX7_distanceByMatchings (wsV RX7 83 RX7 yX7_treeAt wsX7_treeAt) := goodIn_app (goodIn_of _ (by decide +kernel)) ggX7_distanceByMatchings_X7_treeAt
set_option maxRecDepth 20000 in
theorem ggX7_distanceByMatchings_X6_leastCost : GoodIn wsX7_distanceByMatchings wsX6_leastCost := goodIn_r _ [17, 18, 19, 20, 21, 22, 16, 23, 24, 25, 26, 27, 28, 29, 30, 31, 32, 8, 33, 34, 35, 36, 37, 38, 39, 40, 41, 42, 43, 61, 62, 44, 45, 46, 47, 48, 49, 50] (by decide +kernel) (by decide +kernel)
set_option maxRecDepth 20000 in
theorem gX7_distanceByMatchings_X6_leastCost : GoodIn wsX7_distanceByMatchings (wsV RX7 241 RX6 yX6_leastCost wsX6_leastCost) := goodIn_app (goodIn_of _ (by decide +kernel)) ggX7_distanceByMatchings_X6_leastCost
theorem dX7_distanceByMatchings_0 : decode cX7_distanceByMatchings 0 = .ok (.aload_n 0, 1) := by decide +kernel
theorem dX7_distanceByMatchings_1 : decode cX7_distanceByMatchings 1 = .ok (.iload_n 1, 1) := by decide +kernel
theorem dX7_distanceByMatchings_2 : decode cX7_distanceByMatchings 2 = .ok (.invokevirtual 83, 3) := by decide +kernel
theorem dX7_distanceByMatchings_5 : decode cX7_distanceByMatchings 5 = .ok (.astore_n 3, 1) := by decide +kernel
theorem dX7_distanceByMatchings_6 : decode cX7_distanceByMatchings 6 = .ok (.aload_n 0, 1) := by decide +kernel
theorem dX7_distanceByMatchings_7 : decode cX7_distanceByMatchings 7 = .ok (.iload_n 2, 1) := by decide +kernel
theorem dX7_distanceByMatchings_8 : decode cX7_distanceByMatchings 8 = .ok (.invokevirtual 83, 3) := by decide +kernel
theorem dX7_distanceByMatchings_11 : decode cX7_distanceByMatchings 11 = .ok (.astore 4, 2) := by decide +kernel
theorem dX7_distanceByMatchings_13 : decode cX7_distanceByMatchings 13 = .ok (.aload_n 3, 1) := by decide +kernel
theorem dX7_distanceByMatchings_14 : decode cX7_distanceByMatchings 14 = .ok (.getfield 107, 3) := by decide +kernel
theorem dX7_distanceByMatchings_17 : decode cX7_distanceByMatchings 17 = .ok (.bipush 7, 2) := by decide +kernel
theorem dX7_distanceByMatchings_19 : decode cX7_distanceByMatchings 19 = .ok (.if_icmp .gt 13, 3) := by decide +kernel
theorem dX7_distanceByMatchings_22 : decode cX7_distanceByMatchings 22 = .ok (.aload 4, 2) := by decide +kernel
theorem dX7_distanceByMatchings_24 : decode cX7_distanceByMatchings 24 = .ok (.getfield 107, 3) := by decide +kernel
theorem dX7_distanceByMatchings_27 : decode cX7_distanceByMatchings 27 = .ok (.bipush 7, 2) := by decide +kernel
theorem dX7_distanceByMatchings_29 : decode cX7_distanceByMatchings 29 = .ok (.if_icmp .le 13, 3) := by decide +kernel
theorem dX7_distanceByMatchings_32 : decode cX7_distanceByMatchings 32 = .ok (.new 172, 3) := by decide +kernel
theorem dX7_distanceByMatchings_35 : decode cX7_distanceByMatchings 35 = .ok (.dup, 1) := by decide +kernel
theorem dX7_distanceByMatchings_36 : decode cX7_distanceByMatchings 36 = .ok (.ldc 239, 2) := by decide +kernel
theorem dX7_distanceByMatchings_38 : decode cX7_distanceByMatchings 38 = .ok (.invokespecial 176, 3) := by decide +kernel
theorem dX7_distanceByMatchings_41 : decode cX7_distanceByMatchings 41 = .ok (.athrow, 1) := by decide +kernel
theorem dX7_distanceByMatchings_42 : decode cX7_distanceByMatchings 42 = .ok (.aload_n 0, 1) := by decide +kernel
theorem dX7_distanceByMatchings_43 : decode cX7_distanceByMatchings 43 = .ok (.getfield 39, 3) := by decide +kernel
theorem dX7_distanceByMatchings_46 : decode cX7_distanceByMatchings 46 = .ok (.aload_n 3, 1) := by decide +kernel
theorem dX7_distanceByMatchings_47 : decode cX7_distanceByMatchings 47 = .ok (.aload 4, 2) := by decide +kernel
theorem dX7_distanceByMatchings_49 : decode cX7_distanceByMatchings 49 = .ok (.invokevirtual 241, 3) := by decide +kernel
theorem dX7_distanceByMatchings_52 : decode cX7_distanceByMatchings 52 = .ok (.ireturn, 1) := by decide +kernel
set_option maxRecDepth 20000 in
theorem ggX7_similarity_X7_treeAt : GoodIn wsX7_similarity wsX7_treeAt := goodIn_ca (goodIn_r _ [7, 8, 9, 10, 73, 74, 75, 76, 77, 78, 79, 80, 81, 82] (by decide +kernel) (by decide +kernel)) (goodIn_sub (fun _ h => List.mem_cons_of_mem _ (List.mem_append_right _ h)) (by decide +kernel))
set_option maxRecDepth 20000 in
theorem gX7_similarity_X7_treeAt : GoodIn wsX7_similarity (wsV RX7 83 RX7 yX7_treeAt wsX7_treeAt) := goodIn_app (goodIn_of _ (by decide +kernel)) ggX7_similarity_X7_treeAt
set_option maxRecDepth 20000 in
theorem ggX7_similarity_X1_leastCost : GoodIn wsX7_similarity wsX1_leastCost := goodIn_r _ [15, 16, 17, 18, 19, 20, 21, 22, 23, 24, 25, 26, 27, 28, 29, 30, 31, 32, 33, 34, 35, 36, 37, 38, 39, 40, 41, 42, 14, 43, 44, 45, 46, 47, 48, 49, 50, 51, 52, 53, 54, 55, 56, 57, 58, 59, 60, 61, 62, 63, 64, 65, 66, 67, 68, 69, 6, 70, 71, 72, 90, 91, 92, 93, 94, 95, 96, 97, 98, 99, 83, 84, 85, 86, 87, 88, 89] (by decide +kernel) (by decide +kernel)
set_option maxRecDepth 20000 in
theorem gX7_similarity_X1_leastCost : GoodIn wsX7_similarity (wsV RX7 235 RX1 yX1_leastCost wsX1_leastCost) := goodIn_app (goodIn_of _ (by decide +kernel)) ggX7_similarity_X1_leastCost
theorem dX7_similarity_0 : decode cX7_similarity 0 = .ok (.aload_n 0, 1) := by decide +kernel
theorem dX7_similarity_1 : decode cX7_similarity 1 = .ok (.iload_n 1, 1) := by decide +kernel
theorem dX7_similarity_2 : decode cX7_similarity 2 = .ok (.invokevirtual 83, 3) := by decide +kernel
theorem dX7_similarity_5 : decode cX7_similarity 5 = .ok (.astore_n 3, 1) := by decide +kernel
theorem dX7_similarity_6 : decode cX7_similarity 6 = .ok (.aload_n 0, 1) := by decide +kernel
theorem dX7_similarity_7 : decode cX7_similarity 7 = .ok (.iload_n 2, 1) := by decide +kernel
theorem dX7_similarity_8 : decode cX7_similarity 8 = .ok (.invokevirtual 83, 3) := by decide +kernel
theorem dX7_similarity_11 : decode cX7_similarity 11 = .ok (.astore 4, 2) := by decide +kernel
theorem dX7_similarity_13 : decode cX7_similarity 13 = .ok (.aload_n 0, 1) := by decide +kernel
theorem dX7_similarity_14 : decode cX7_similarity 14 = .ok (.getfield 32, 3) := by decide +kernel
theorem dX7_similarity_17 : decode cX7_similarity 17 = .ok (.aload_n 3, 1) := by decide +kernel
theorem dX7_similarity_18 : decode cX7_similarity 18 = .ok (.aload 4, 2) := by decide +kernel
theorem dX7_similarity_20 : decode cX7_similarity 20 = .ok (.invokevirtual 235, 3) := by decide +kernel
theorem dX7_similarity_23 : decode cX7_similarity 23 = .ok (.i2d, 1) := by decide +kernel
theorem dX7_similarity_24 : decode cX7_similarity 24 = .ok (.dstore 5, 2) := by decide +kernel
theorem dX7_similarity_26 : decode cX7_similarity 26 = .ok (.iconst 2, 1) := by decide +kernel
theorem dX7_similarity_27 : decode cX7_similarity 27 = .ok (.aload_n 3, 1) := by decide +kernel
theorem dX7_similarity_28 : decode cX7_similarity 28 = .ok (.getfield 107, 3) := by decide +kernel
theorem dX7_similarity_31 : decode cX7_similarity 31 = .ok (.aload 4, 2) := by decide +kernel
theorem dX7_similarity_33 : decode cX7_similarity 33 = .ok (.getfield 107, 3) := by decide +kernel
theorem dX7_similarity_36 : decode cX7_similarity 36 = .ok (.iadd, 1) := by decide +kernel
theorem dX7_similarity_37 : decode cX7_similarity 37 = .ok (.imul, 1) := by decide +kernel
theorem dX7_similarity_38 : decode cX7_similarity 38 = .ok (.i2d, 1) := by decide +kernel
theorem dX7_similarity_39 : decode cX7_similarity 39 = .ok (.dstore 7, 2) := by decide +kernel
theorem dX7_similarity_41 : decode cX7_similarity 41 = .ok (.dload 7, 2) := by decide +kernel
theorem dX7_similarity_43 : decode cX7_similarity 43 = .ok (.dconst 0, 1) := by decide +kernel
theorem dX7_similarity_44 : decode cX7_similarity 44 = .ok (.dcmp .l, 1) := by decide +kernel
theorem dX7_similarity_45 : decode cX7_similarity 45 = .ok (.ifCond .le 13, 3) := by decide +kernel
theorem dX7_similarity_48 : decode cX7_similarity 48 = .ok (.dconst 1, 1) := by decide +kernel
theorem dX7_similarity_49 : decode cX7_similarity 49 = .ok (.dload 5, 2) := by decide +kernel
theorem dX7_similarity_51 : decode cX7_similarity 51 = .ok (.dload 7, 2) := by decide +kernel
theorem dX7_similarity_53 : decode cX7_similarity 53 = .ok (.ddiv, 1) := by decide +kernel
theorem dX7_similarity_54 : decode cX7_similarity 54 = .ok (.dsub, 1) := by decide +kernel
theorem dX7_similarity_55 : decode cX7_similarity 55 = .ok (.goto 4, 3) := by decide +kernel
theorem dX7_similarity_58 : decode cX7_similarity 58 = .ok (.dconst 1, 1) := by decide +kernel
theorem dX7_similarity_59 : decode cX7_similarity 59 = .ok (.dreturn, 1) := by decide +kernel
set_option maxRecDepth 20000 in
theorem ggX7_diff_X7_treeAt : GoodIn wsX7_diff wsX7_treeAt := goodIn_ca (goodIn_r _ [8, 9, 10, 11, 167, 168, 169, 170, 171, 172, 173, 174, 175, 176] (by decide +kernel) (by decide +kernel)) (goodIn_sub (fun _ h => List.mem_cons_of_mem _ (List.mem_append_right _ h)) (by decide +kernel))
set_option maxRecDepth 20000 in
theorem gX7_diff_X7_treeAt : GoodIn wsX7_diff (wsV RX7 83 RX7 yX7_treeAt wsX7_treeAt) := goodIn_app (goodIn_of _ (by decide +kernel)) ggX7_diff_X7_treeAt
set_option maxRecDepth 20000 in
theorem ggX7_diff_X3_compute : GoodIn wsX7_diff wsX3_compute := goodIn_r _ [16, 17, 18, 19, 20, 21, 22, 23, 24, 25, 26, 27, 28, 29, 30, 31, 32, 33, 34, 35, 36, 37, 38, 39, 40, 41, 42, 43, 44, 45, 46, 47, 48, 49, 50, 51, 52, 53, 54, 55, 56, 57, 58, 59, 60, 61, 62, 63, 64, 65, 66, 67, 68, 69, 70, 71, 72, 73, 74, 75, 76, 77, 78, 79, 80, 81, 82, 83, 84, 85, 86, 87, 88, 89, 90, 91, 92, 93, 94, 95, 96, 97, 98, 99, 100, 7, 101, 102, 103, 104, 105, 106, 107, 108, 109, 110, 111, 112, 113, 114, 115, 116, 117, 118, 15, 119, 120, 121, 122, 123, 124, 125, 126, 127, 128, 129, 130, 131, 132, 133, 134, 135, 136, 137, 138, 139, 140, 141, 142, 143, 144, 145, 146, 147, 148, 149, 150, 151, 152, 153, 154, 155, 156, 157, 158, 159, 160, 161, 162, 163, 164, 165, 166, 177, 178, 179, 180, 181, 182, 183, 184, 185, 186, 187, 188, 189, 190, 191, 192, 193, 194, 195, 196, 197, 198, 199, 200, 201, 202] (by decide +kernel) (by decide +kernel)
set_option maxRecDepth 20000 in
theorem gX7_diff_X3_compute : GoodIn wsX7_diff (wsV RX7 242 RX3 yX3_compute wsX3_compute) := goodIn_app (goodIn_of _ (by decide +kernel)) ggX7_diff_X3_compute
theorem dX7_diff_0 : decode cX7_diff 0 = .ok (.aload_n 0, 1) := by decide +kernel
theorem dX7_diff_1 : decode cX7_diff 1 = .ok (.iload_n 1, 1) := by decide +kernel
theorem dX7_diff_2 : decode cX7_diff 2 = .ok (.invokevirtual 83, 3) := by decide +kernel
theorem dX7_diff_5 : decode cX7_diff 5 = .ok (.astore_n 3, 1) := by decide +kernel
theorem dX7_diff_6 : decode cX7_diff 6 = .ok (.aload_n 0, 1) := by decide +kernel
theorem dX7_diff_7 : decode cX7_diff 7 = .ok (.iload_n 2, 1) := by decide +kernel
theorem dX7_diff_8 : decode cX7_diff 8 = .ok (.invokevirtual 83, 3) := by decide +kernel
theorem dX7_diff_11 : decode cX7_diff 11 = .ok (.astore 4, 2) := by decide +kernel
theorem dX7_diff_13 : decode cX7_diff 13 = .ok (.aload_n 0, 1) := by decide +kernel
theorem dX7_diff_14 : decode cX7_diff 14 = .ok (.getfield 46, 3) := by decide +kernel
theorem dX7_diff_17 : decode cX7_diff 17 = .ok (.aload_n 3, 1) := by decide +kernel
theorem dX7_diff_18 : decode cX7_diff 18 = .ok (.aload 4, 2) := by decide +kernel
theorem dX7_diff_20 : decode cX7_diff 20 = .ok (.aload_n 0, 1) := by decide +kernel
theorem dX7_diff_21 : decode cX7_diff 21 = .ok (.getfield 32, 3) := by decide +kernel
theorem dX7_diff_24 : decode cX7_diff 24 = .ok (.invokevirtual 242, 3) := by decide +kernel
theorem dX7_diff_27 : decode cX7_diff 27 = .ok (.aload_n 0, 1) := by decide +kernel
theorem dX7_diff_28 : decode cX7_diff 28 = .ok (.getfield 46, 3) := by decide +kernel
theorem dX7_diff_31 : decode cX7_diff 31 = .ok (.getfield 122, 3) := by decide +kernel
theorem dX7_diff_34 : decode cX7_diff 34 = .ok (.ireturn, 1) := by decide +kernel
set_option maxRecDepth 20000 in
theorem ggX7_operations_X7_needScript : GoodIn wsX7_operations wsX7_needScript := goodIn_ca (goodIn_r _ [7, 8, 9, 1, 10, 11, 12, 13, 14, 15, 16, 17, 18, 19, 20, 21, 22, 23, 24, 25, 26, 27, 28, 29] (by decide +kernel) (by decide +kernel)) (goodIn_sub (fun _ h => List.mem_cons_of_mem _ (List.mem_append_right _ h)) (by decide +kernel))
set_option maxRecDepth 20000 in
theorem gX7_operations_X7_needScript : GoodIn wsX7_operations (wsV RX7 119 RX7 yX7_needScript wsX7_needScript) := goodIn_app (goodIn_of _ (by decide +kernel)) ggX7_operations_X7_needScript
theorem dX7_operations_0 : decode cX7_operations 0 = .ok (.aload_n 0, 1) := by decide +kernel
theorem dX7_operations_1 : decode cX7_operations 1 = .ok (.invokevirtual 119, 3) := by decide +kernel
theorem dX7_operations_4 : decode cX7_operations 4 = .ok (.aload_n 0, 1) := by decide +kernel
theorem dX7_operations_5 : decode cX7_operations 5 = .ok (.getfield 46, 3) := by decide +kernel
theorem dX7_operations_8 : decode cX7_operations 8 = .ok (.getfield 122, 3) := by decide +kernel
theorem dX7_operations_11 : decode cX7_operations 11 = .ok (.ireturn, 1) := by decide +kernel
set_option maxRecDepth 20000 in
theorem ggX7_opKind_X7_needOperation : GoodIn wsX7_opKind wsX7_needOperation := goodIn_ca (goodIn_ca (goodIn_r _ [7, 8, 9, 1, 10, 11, 12, 13, 6, 14, 15, 16, 17, 18, 19, 20, 21, 22, 23, 24, 25, 26, 27, 28, 29, 30, 31, 32, 33, 34, 35, 36] (by decide +kernel) (by decide +kernel)) (goodIn_sub (fun _ h => List.mem_cons_of_mem _ (List.mem_append_left _ (List.mem_append_right _ h))) (by decide +kernel))) (goodIn_sub (fun _ h => List.mem_cons_of_mem _ (List.mem_append_right _ h)) (by decide +kernel))
set_option maxRecDepth 20000 in
theorem gX7_opKind_X7_needOperation : GoodIn wsX7_opKind (wsV RX7 246 RX7 yX7_needOperation wsX7_needOperation) := goodIn_app (goodIn_of _ (by decide +kernel)) ggX7_opKind_X7_needOperation
theorem dX7_opKind_0 : decode cX7_opKind 0 = .ok (.aload_n 0, 1) := by decide +kernel
theorem dX7_opKind_1 : decode cX7_opKind 1 = .ok (.iload_n 1, 1) := by decide +kernel
theorem dX7_opKind_2 : decode cX7_opKind 2 = .ok (.invokevirtual 246, 3) := by decide +kernel
theorem dX7_opKind_5 : decode cX7_opKind 5 = .ok (.aload_n 0, 1) := by decide +kernel
theorem dX7_opKind_6 : decode cX7_opKind 6 = .ok (.getfield 46, 3) := by decide +kernel
theorem dX7_opKind_9 : decode cX7_opKind 9 = .ok (.getfield 123, 3) := by decide +kernel
theorem dX7_opKind_12 : decode cX7_opKind 12 = .ok (.iload_n 1, 1) := by decide +kernel
theorem dX7_opKind_13 : decode cX7_opKind 13 = .ok (.caload, 1) := by decide +kernel
theorem dX7_opKind_14 : decode cX7_opKind 14 = .ok (.ireturn, 1) := by decide +kernel
set_option maxRecDepth 20000 in
theorem ggX7_opNode_X7_needOperation : GoodIn wsX7_opNode wsX7_needOperation := goodIn_ca (goodIn_ca (goodIn_r _ [6, 7, 8, 1, 9, 10, 11, 12, 5, 13, 14, 15, 16, 25, 26, 27, 28, 29, 30, 31, 32, 33, 34, 35, 36, 37, 38, 39, 40, 41, 42, 43] (by decide +kernel) (by decide +kernel)) (goodIn_sub (fun _ h => List.mem_cons_of_mem _ (List.mem_append_left _ (List.mem_append_right _ h))) (by decide +kernel))) (goodIn_sub (fun _ h => List.mem_cons_of_mem _ (List.mem_append_right _ h)) (by decide +kernel))
set_option maxRecDepth 20000 in
theorem gX7_opNode_X7_needOperation : GoodIn wsX7_opNode (wsV RX7 246 RX7 yX7_needOperation wsX7_needOperation) := goodIn_app (goodIn_of _ (by decide +kernel)) ggX7_opNode_X7_needOperation
set_option maxRecDepth 20000 in
theorem ggX7_opNode_X3_shownNode : GoodIn wsX7_opNode wsX3_shownNode := goodIn_r _ [21, 22, 23, 24, 35, 36, 37, 38, 39, 40, 41, 42, 43] (by decide +kernel) (by decide +kernel)
set_option maxRecDepth 20000 in
theorem gX7_opNode_X3_shownNode : GoodIn wsX7_opNode (wsV RX7 130 RX3 yX3_shownNode wsX3_shownNode) := goodIn_app (goodIn_of _ (by decide +kernel)) ggX7_opNode_X3_shownNode
theorem dX7_opNode_0 : decode cX7_opNode 0 = .ok (.aload_n 0, 1) := by decide +kernel
theorem dX7_opNode_1 : decode cX7_opNode 1 = .ok (.iload_n 1, 1) := by decide +kernel
theorem dX7_opNode_2 : decode cX7_opNode 2 = .ok (.invokevirtual 246, 3) := by decide +kernel
theorem dX7_opNode_5 : decode cX7_opNode 5 = .ok (.aload_n 0, 1) := by decide +kernel
theorem dX7_opNode_6 : decode cX7_opNode 6 = .ok (.getfield 46, 3) := by decide +kernel
theorem dX7_opNode_9 : decode cX7_opNode 9 = .ok (.iload_n 1, 1) := by decide +kernel
theorem dX7_opNode_10 : decode cX7_opNode 10 = .ok (.invokevirtual 130, 3) := by decide +kernel
theorem dX7_opNode_13 : decode cX7_opNode 13 = .ok (.ireturn, 1) := by decide +kernel
set_option maxRecDepth 20000 in
theorem ggX7_opTarget_X7_needOperation : GoodIn wsX7_opTarget wsX7_needOperation := goodIn_ca (goodIn_ca (goodIn_r _ [10, 11, 12, 3, 13, 14, 15, 16, 9, 17, 18, 19, 20, 21, 22, 23, 24, 25, 26, 27, 28, 29, 30, 31, 32, 33, 34, 35, 36, 37, 38, 39] (by decide +kernel) (by decide +kernel)) (goodIn_sub (fun _ h => List.mem_cons_of_mem _ (List.mem_append_left _ (List.mem_append_right _ h))) (by decide +kernel))) (goodIn_sub (fun _ h => List.mem_cons_of_mem _ (List.mem_append_right _ h)) (by decide +kernel))
set_option maxRecDepth 20000 in
theorem gX7_opTarget_X7_needOperation : GoodIn wsX7_opTarget (wsV RX7 246 RX7 yX7_needOperation wsX7_needOperation) := goodIn_app (goodIn_of _ (by decide +kernel)) ggX7_opTarget_X7_needOperation
theorem dX7_opTarget_0 : decode cX7_opTarget 0 = .ok (.aload_n 0, 1) := by decide +kernel
theorem dX7_opTarget_1 : decode cX7_opTarget 1 = .ok (.iload_n 1, 1) := by decide +kernel
theorem dX7_opTarget_2 : decode cX7_opTarget 2 = .ok (.invokevirtual 246, 3) := by decide +kernel
theorem dX7_opTarget_5 : decode cX7_opTarget 5 = .ok (.aload_n 0, 1) := by decide +kernel
theorem dX7_opTarget_6 : decode cX7_opTarget 6 = .ok (.getfield 46, 3) := by decide +kernel
theorem dX7_opTarget_9 : decode cX7_opTarget 9 = .ok (.getfield 123, 3) := by decide +kernel
theorem dX7_opTarget_12 : decode cX7_opTarget 12 = .ok (.iload_n 1, 1) := by decide +kernel
theorem dX7_opTarget_13 : decode cX7_opTarget 13 = .ok (.caload, 1) := by decide +kernel
theorem dX7_opTarget_14 : decode cX7_opTarget 14 = .ok (.bipush 100, 2) := by decide +kernel
theorem dX7_opTarget_16 : decode cX7_opTarget 16 = .ok (.if_icmp .ne 13, 3) := by decide +kernel
theorem dX7_opTarget_19 : decode cX7_opTarget 19 = .ok (.new 110, 3) := by decide +kernel
theorem dX7_opTarget_22 : decode cX7_opTarget 22 = .ok (.dup, 1) := by decide +kernel
theorem dX7_opTarget_23 : decode cX7_opTarget 23 = .ok (.ldc 249, 2) := by decide +kernel
theorem dX7_opTarget_25 : decode cX7_opTarget 25 = .ok (.invokespecial 114, 3) := by decide +kernel
theorem dX7_opTarget_28 : decode cX7_opTarget 28 = .ok (.athrow, 1) := by decide +kernel
theorem dX7_opTarget_29 : decode cX7_opTarget 29 = .ok (.aload_n 0, 1) := by decide +kernel
theorem dX7_opTarget_30 : decode cX7_opTarget 30 = .ok (.getfield 46, 3) := by decide +kernel
theorem dX7_opTarget_33 : decode cX7_opTarget 33 = .ok (.getfield 251, 3) := by decide +kernel
theorem dX7_opTarget_36 : decode cX7_opTarget 36 = .ok (.iload_n 1, 1) := by decide +kernel
theorem dX7_opTarget_37 : decode cX7_opTarget 37 = .ok (.iaload, 1) := by decide +kernel
theorem dX7_opTarget_38 : decode cX7_opTarget 38 = .ok (.ireturn, 1) := by decide +kernel
set_option maxRecDepth 20000 in
theorem ggX7_partner_X7_needScript : GoodIn wsX7_partner wsX7_needScript := goodIn_ca (goodIn_r _ [12, 13, 14, 5, 15, 22, 23, 24, 25, 26, 27, 28, 29, 30, 31, 32, 33, 34, 35, 36, 37, 38, 39, 40] (by decide +kernel) (by decide +kernel)) (goodIn_sub (fun _ h => List.mem_cons_of_mem _ (List.mem_append_right _ h)) (by decide +kernel))
set_option maxRecDepth 20000 in
theorem gX7_partner_X7_needScript : GoodIn wsX7_partner (wsV RX7 119 RX7 yX7_needScript wsX7_needScript) := goodIn_app (goodIn_of _ (by decide +kernel)) ggX7_partner_X7_needScript
set_option maxRecDepth 20000 in
theorem ggX7_partner_X5_holds : GoodIn wsX7_partner wsX5_holds := goodIn_r _ [20, 21, 41, 42, 43, 44, 45, 46, 47] (by decide +kernel) (by decide +kernel)
set_option maxRecDepth 20000 in
theorem gX7_partner_X5_holds : GoodIn wsX7_partner (wsV RX7 257 RX5 yX5_holds wsX5_holds) := goodIn_app (goodIn_of _ (by decide +kernel)) ggX7_partner_X5_holds
theorem dX7_partner_0 : decode cX7_partner 0 = .ok (.aload_n 0, 1) := by decide +kernel
theorem dX7_partner_1 : decode cX7_partner 1 = .ok (.invokevirtual 119, 3) := by decide +kernel
theorem dX7_partner_4 : decode cX7_partner 4 = .ok (.aload_n 0, 1) := by decide +kernel
theorem dX7_partner_5 : decode cX7_partner 5 = .ok (.getfield 46, 3) := by decide +kernel
theorem dX7_partner_8 : decode cX7_partner 8 = .ok (.getfield 254, 3) := by decide +kernel
theorem dX7_partner_11 : decode cX7_partner 11 = .ok (.iload_n 1, 1) := by decide +kernel
theorem dX7_partner_12 : decode cX7_partner 12 = .ok (.invokevirtual 257, 3) := by decide +kernel
theorem dX7_partner_15 : decode cX7_partner 15 = .ok (.ifCond .ne 14, 3) := by decide +kernel
theorem dX7_partner_18 : decode cX7_partner 18 = .ok (.new 138, 3) := by decide +kernel
theorem dX7_partner_21 : decode cX7_partner 21 = .ok (.dup, 1) := by decide +kernel
theorem dX7_partner_22 : decode cX7_partner 22 = .ok (.ldc_w 260, 3) := by decide +kernel
theorem dX7_partner_25 : decode cX7_partner 25 = .ok (.invokespecial 142, 3) := by decide +kernel
theorem dX7_partner_28 : decode cX7_partner 28 = .ok (.athrow, 1) := by decide +kernel
theorem dX7_partner_29 : decode cX7_partner 29 = .ok (.aload_n 0, 1) := by decide +kernel
theorem dX7_partner_30 : decode cX7_partner 30 = .ok (.getfield 46, 3) := by decide +kernel
theorem dX7_partner_33 : decode cX7_partner 33 = .ok (.getfield 262, 3) := by decide +kernel
theorem dX7_partner_36 : decode cX7_partner 36 = .ok (.iload_n 1, 1) := by decide +kernel
theorem dX7_partner_37 : decode cX7_partner 37 = .ok (.iaload, 1) := by decide +kernel
theorem dX7_partner_38 : decode cX7_partner 38 = .ok (.iconst (-1), 1) := by decide +kernel
theorem dX7_partner_39 : decode cX7_partner 39 = .ok (.if_icmp .ne 14, 3) := by decide +kernel
theorem dX7_partner_42 : decode cX7_partner 42 = .ok (.new 110, 3) := by decide +kernel
theorem dX7_partner_45 : decode cX7_partner 45 = .ok (.dup, 1) := by decide +kernel
theorem dX7_partner_46 : decode cX7_partner 46 = .ok (.ldc_w 265, 3) := by decide +kernel
theorem dX7_partner_49 : decode cX7_partner 49 = .ok (.invokespecial 114, 3) := by decide +kernel
theorem dX7_partner_52 : decode cX7_partner 52 = .ok (.athrow, 1) := by decide +kernel
theorem dX7_partner_53 : decode cX7_partner 53 = .ok (.aload_n 0, 1) := by decide +kernel
theorem dX7_partner_54 : decode cX7_partner 54 = .ok (.getfield 46, 3) := by decide +kernel
theorem dX7_partner_57 : decode cX7_partner 57 = .ok (.getfield 262, 3) := by decide +kernel
theorem dX7_partner_60 : decode cX7_partner 60 = .ok (.iload_n 1, 1) := by decide +kernel
theorem dX7_partner_61 : decode cX7_partner 61 = .ok (.iaload, 1) := by decide +kernel
theorem dX7_partner_62 : decode cX7_partner 62 = .ok (.ireturn, 1) := by decide +kernel
set_option maxRecDepth 20000 in
theorem ggX7_moves_X7_needScript : GoodIn wsX7_moves wsX7_needScript := goodIn_ca (goodIn_r _ [6, 7, 8, 1, 9, 17, 18, 19, 20, 21, 22, 23, 24, 25, 26, 27, 28, 29, 30, 31, 32, 33, 34, 35] (by decide +kernel) (by decide +kernel)) (goodIn_sub (fun _ h => List.mem_cons_of_mem _ (List.mem_append_right _ h)) (by decide +kernel))
set_option maxRecDepth 20000 in
theorem gX7_moves_X7_needScript : GoodIn wsX7_moves (wsV RX7 119 RX7 yX7_needScript wsX7_needScript) := goodIn_app (goodIn_of _ (by decide +kernel)) ggX7_moves_X7_needScript
set_option maxRecDepth 20000 in
theorem ggX7_moves_X3_countMoves : GoodIn wsX7_moves wsX3_countMoves := goodIn_r _ [14, 15, 16, 27, 28, 29, 30, 31, 32, 33, 34, 35] (by decide +kernel) (by decide +kernel)
set_option maxRecDepth 20000 in
theorem gX7_moves_X3_countMoves : GoodIn wsX7_moves (wsV RX7 267 RX3 yX3_countMoves wsX3_countMoves) := goodIn_app (goodIn_of _ (by decide +kernel)) ggX7_moves_X3_countMoves
theorem dX7_moves_0 : decode cX7_moves 0 = .ok (.aload_n 0, 1) := by decide +kernel
theorem dX7_moves_1 : decode cX7_moves 1 = .ok (.invokevirtual 119, 3) := by decide +kernel
theorem dX7_moves_4 : decode cX7_moves 4 = .ok (.aload_n 0, 1) := by decide +kernel
theorem dX7_moves_5 : decode cX7_moves 5 = .ok (.getfield 46, 3) := by decide +kernel
theorem dX7_moves_8 : decode cX7_moves 8 = .ok (.invokevirtual 267, 3) := by decide +kernel
theorem dX7_moves_11 : decode cX7_moves 11 = .ok (.ireturn, 1) := by decide +kernel
set_option maxRecDepth 20000 in
theorem ggX7_scriptCost_X7_needScript : GoodIn wsX7_scriptCost wsX7_needScript := goodIn_ca (goodIn_r _ [6, 7, 8, 1, 9, 36, 37, 38, 39, 40, 41, 42, 43, 44, 45, 46, 47, 48, 49, 50, 51, 52, 53, 54] (by decide +kernel) (by decide +kernel)) (goodIn_sub (fun _ h => List.mem_cons_of_mem _ (List.mem_append_right _ h)) (by decide +kernel))
set_option maxRecDepth 20000 in
theorem gX7_scriptCost_X7_needScript : GoodIn wsX7_scriptCost (wsV RX7 119 RX7 yX7_needScript wsX7_needScript) := goodIn_app (goodIn_of _ (by decide +kernel)) ggX7_scriptCost_X7_needScript
set_option maxRecDepth 20000 in
theorem ggX7_scriptCost_X3_totalCost : GoodIn wsX7_scriptCost wsX3_totalCost := goodIn_r _ [14, 15, 16, 17, 18, 13, 19, 20, 21, 22, 23, 24, 25, 26, 27, 28, 29, 30, 31, 32, 33, 34, 35, 46, 47, 48, 49, 50, 51, 52, 53, 54, 55, 56, 57, 58, 59, 60, 61] (by decide +kernel) (by decide +kernel)
set_option maxRecDepth 20000 in
theorem gX7_scriptCost_X3_totalCost : GoodIn wsX7_scriptCost (wsV RX7 271 RX3 yX3_totalCost wsX3_totalCost) := goodIn_app (goodIn_of _ (by decide +kernel)) ggX7_scriptCost_X3_totalCost
theorem dX7_scriptCost_0 : decode cX7_scriptCost 0 = .ok (.aload_n 0, 1) := by decide +kernel
theorem dX7_scriptCost_1 : decode cX7_scriptCost 1 = .ok (.invokevirtual 119, 3) := by decide +kernel
theorem dX7_scriptCost_4 : decode cX7_scriptCost 4 = .ok (.aload_n 0, 1) := by decide +kernel
theorem dX7_scriptCost_5 : decode cX7_scriptCost 5 = .ok (.getfield 46, 3) := by decide +kernel
theorem dX7_scriptCost_8 : decode cX7_scriptCost 8 = .ok (.invokevirtual 271, 3) := by decide +kernel
theorem dX7_scriptCost_11 : decode cX7_scriptCost 11 = .ok (.ireturn, 1) := by decide +kernel
set_option maxRecDepth 20000 in
theorem ggX7_givesTarget_X7_needScript : GoodIn wsX7_givesTarget wsX7_needScript := goodIn_ca (goodIn_r _ [10, 11, 12, 2, 13, 225, 226, 227, 228, 229, 230, 231, 232, 233, 234, 235, 236, 237, 238, 239, 240, 241, 242, 243] (by decide +kernel) (by decide +kernel)) (goodIn_sub (fun _ h => List.mem_cons_of_mem _ (List.mem_append_right _ h)) (by decide +kernel))
set_option maxRecDepth 20000 in
theorem gX7_givesTarget_X7_needScript : GoodIn wsX7_givesTarget (wsV RX7 119 RX7 yX7_needScript wsX7_needScript) := goodIn_app (goodIn_of _ (by decide +kernel)) ggX7_givesTarget_X7_needScript
set_option maxRecDepth 20000 in
theorem ggX7_givesTarget_X2_apply : GoodIn wsX7_givesTarget wsX2_apply := goodIn_r _ [18, 19, 20, 21, 22, 23, 24, 25, 26, 27, 28, 29, 30, 31, 32, 33, 34, 35, 36, 37, 38, 39, 40, 41, 42, 43, 44, 45, 46, 47, 48, 49, 50, 51, 52, 53, 54, 55, 56, 57, 58, 59, 60, 61, 62, 63, 64, 65, 66, 67, 68, 69, 70, 71, 72, 73, 74, 75, 76, 77, 78, 79, 80, 81, 82, 83, 84, 85, 86, 9, 87, 88, 89, 90, 91, 92, 93, 94, 95, 96, 97, 98, 99, 100, 101, 102, 103, 104, 105, 106, 107, 108, 109, 110, 111, 112, 113, 114, 115, 116, 117, 118, 119, 120, 17, 121, 122, 123, 124, 125, 126, 127, 128, 129, 130, 131, 132, 133, 134, 135, 136, 137, 138, 139, 140, 141, 142, 143, 144, 145, 146, 147, 148, 149, 150, 151, 152, 153, 154, 155, 156, 157, 158, 159, 160, 161, 162, 163, 164, 165, 166, 167, 168, 169, 170, 171, 172, 173, 174, 175, 176, 177, 178, 179, 180, 181, 182, 183, 184, 185, 186, 187, 188, 189, 190, 191, 192, 193, 194, 195, 196, 197, 198, 199, 200, 201, 202, 203, 204, 205, 206, 207, 208, 209, 210, 211, 212, 213, 214, 215, 216, 217, 218, 219, 220, 221, 222, 223, 244, 245, 246, 247, 235, 236, 237, 238, 239, 240, 241, 242, 243, 248, 249, 250, 251, 252, 253, 254, 255, 256, 257, 258, 259, 260, 261, 262, 263, 264] (by decide +kernel) (by decide +kernel)
set_option maxRecDepth 20000 in
theorem gX7_givesTarget_X2_apply : GoodIn wsX7_givesTarget (wsV RX7 274 RX2 yX2_apply wsX2_apply) := goodIn_app (goodIn_of _ (by decide +kernel)) ggX7_givesTarget_X2_apply
set_option maxRecDepth 20000 in
theorem ggX7_givesTarget_X5_equalsAt : GoodIn wsX7_givesTarget wsX5_equalsAt := goodIn_r _ [135, 106, 111, 112, 136, 137, 138, 45, 139, 52, 48, 49, 50, 51, 47, 258, 259, 260, 261, 262, 263, 264] (by decide +kernel) (by decide +kernel)
set_option maxRecDepth 20000 in
theorem gX7_givesTarget_X5_equalsAt : GoodIn wsX7_givesTarget (wsV RX7 224 RX5 yX5_equalsAt wsX5_equalsAt) := goodIn_app (goodIn_of _ (by decide +kernel)) ggX7_givesTarget_X5_equalsAt
theorem dX7_givesTarget_0 : decode cX7_givesTarget 0 = .ok (.aload_n 0, 1) := by decide +kernel
theorem dX7_givesTarget_1 : decode cX7_givesTarget 1 = .ok (.invokevirtual 119, 3) := by decide +kernel
theorem dX7_givesTarget_4 : decode cX7_givesTarget 4 = .ok (.aload_n 0, 1) := by decide +kernel
theorem dX7_givesTarget_5 : decode cX7_givesTarget 5 = .ok (.getfield 53, 3) := by decide +kernel
theorem dX7_givesTarget_8 : decode cX7_givesTarget 8 = .ok (.aload_n 0, 1) := by decide +kernel
theorem dX7_givesTarget_9 : decode cX7_givesTarget 9 = .ok (.getfield 46, 3) := by decide +kernel
theorem dX7_givesTarget_12 : decode cX7_givesTarget 12 = .ok (.aload_n 0, 1) := by decide +kernel
theorem dX7_givesTarget_13 : decode cX7_givesTarget 13 = .ok (.getfield 46, 3) := by decide +kernel
theorem dX7_givesTarget_16 : decode cX7_givesTarget 16 = .ok (.getfield 254, 3) := by decide +kernel
theorem dX7_givesTarget_19 : decode cX7_givesTarget 19 = .ok (.invokevirtual 274, 3) := by decide +kernel
theorem dX7_givesTarget_22 : decode cX7_givesTarget 22 = .ok (.ifCond .eq 29, 3) := by decide +kernel
theorem dX7_givesTarget_25 : decode cX7_givesTarget 25 = .ok (.aload_n 0, 1) := by decide +kernel
theorem dX7_givesTarget_26 : decode cX7_givesTarget 26 = .ok (.getfield 53, 3) := by decide +kernel
theorem dX7_givesTarget_29 : decode cX7_givesTarget 29 = .ok (.getfield 278, 3) := by decide +kernel
theorem dX7_givesTarget_32 : decode cX7_givesTarget 32 = .ok (.iconst 0, 1) := by decide +kernel
theorem dX7_givesTarget_33 : decode cX7_givesTarget 33 = .ok (.aload_n 0, 1) := by decide +kernel
theorem dX7_givesTarget_34 : decode cX7_givesTarget 34 = .ok (.getfield 46, 3) := by decide +kernel
theorem dX7_givesTarget_37 : decode cX7_givesTarget 37 = .ok (.getfield 281, 3) := by decide +kernel
theorem dX7_givesTarget_40 : decode cX7_givesTarget 40 = .ok (.iconst 0, 1) := by decide +kernel
theorem dX7_givesTarget_41 : decode cX7_givesTarget 41 = .ok (.invokevirtual 224, 3) := by decide +kernel
theorem dX7_givesTarget_44 : decode cX7_givesTarget 44 = .ok (.ifCond .eq 7, 3) := by decide +kernel
theorem dX7_givesTarget_47 : decode cX7_givesTarget 47 = .ok (.iconst 1, 1) := by decide +kernel
theorem dX7_givesTarget_48 : decode cX7_givesTarget 48 = .ok (.goto 4, 3) := by decide +kernel
theorem dX7_givesTarget_51 : decode cX7_givesTarget 51 = .ok (.iconst 0, 1) := by decide +kernel
theorem dX7_givesTarget_52 : decode cX7_givesTarget 52 = .ok (.ireturn, 1) := by decide +kernel
set_option maxRecDepth 20000 in
theorem ggX7_patch_X7_treeAt : GoodIn wsX7_patch wsX7_treeAt := goodIn_ca (goodIn_r _ [15, 16, 17, 18, 237, 238, 239, 240, 241, 242, 243, 244, 245, 246] (by decide +kernel) (by decide +kernel)) (goodIn_sub (fun _ h => List.mem_cons_of_mem _ (List.mem_append_left _ (List.mem_append_right _ h))) (by decide +kernel))
set_option maxRecDepth 20000 in
theorem gX7_patch_X7_treeAt : GoodIn wsX7_patch (wsV RX7 83 RX7 yX7_treeAt wsX7_treeAt) := goodIn_app (goodIn_of _ (by decide +kernel)) ggX7_patch_X7_treeAt
set_option maxRecDepth 20000 in
theorem ggX7_patch_X7_needScript : GoodIn wsX7_patch wsX7_needScript := goodIn_ca (goodIn_r _ [22, 23, 24, 4, 25, 237, 238, 239, 240, 241, 242, 243, 244, 245, 246, 258, 259, 260, 261, 262, 263, 264, 265, 266] (by decide +kernel) (by decide +kernel)) (goodIn_sub (fun _ h => List.mem_cons_of_mem _ (List.mem_append_right _ h)) (by decide +kernel))
set_option maxRecDepth 20000 in
theorem gX7_patch_X7_needScript : GoodIn wsX7_patch (wsV RX7 119 RX7 yX7_needScript wsX7_needScript) := goodIn_app (goodIn_of _ (by decide +kernel)) ggX7_patch_X7_needScript
set_option maxRecDepth 20000 in
theorem ggX7_patch_X2_apply : GoodIn wsX7_patch wsX2_apply := goodIn_r _ [30, 31, 32, 33, 34, 35, 36, 37, 38, 39, 40, 41, 42, 43, 44, 45, 46, 47, 48, 49, 50, 51, 52, 53, 54, 55, 56, 57, 58, 59, 60, 61, 62, 63, 64, 65, 66, 67, 68, 69, 70, 71, 72, 73, 74, 75, 76, 77, 78, 79, 80, 81, 82, 83, 84, 85, 86, 87, 88, 89, 90, 91, 92, 93, 94, 95, 96, 97, 98, 14, 99, 100, 101, 102, 103, 104, 105, 106, 107, 108, 109, 110, 111, 112, 113, 114, 115, 116, 117, 118, 119, 120, 121, 122, 123, 124, 125, 126, 127, 128, 129, 130, 131, 132, 29, 133, 134, 135, 136, 137, 138, 139, 140, 141, 142, 143, 144, 145, 146, 147, 148, 149, 150, 151, 152, 153, 154, 155, 156, 157, 158, 159, 160, 161, 162, 163, 164, 165, 166, 167, 168, 169, 170, 171, 172, 173, 174, 175, 176, 177, 178, 179, 180, 181, 182, 183, 184, 185, 186, 187, 188, 189, 190, 191, 192, 193, 194, 195, 196, 197, 198, 199, 200, 201, 202, 203, 204, 205, 206, 207, 208, 209, 210, 211, 212, 213, 214, 215, 216, 217, 218, 219, 220, 221, 222, 223, 224, 225, 226, 227, 228, 229, 230, 231, 232, 233, 234, 235, 247, 248, 249, 250, 258, 259, 260, 261, 262, 263, 264, 265, 266, 267, 268, 269, 270, 271, 272, 273, 274, 275, 276, 251, 252, 253, 254, 255, 256, 257] (by decide +kernel) (by decide +kernel)
set_option maxRecDepth 20000 in
theorem gX7_patch_X2_apply : GoodIn wsX7_patch (wsV RX7 274 RX2 yX2_apply wsX2_apply) := goodIn_app (goodIn_of _ (by decide +kernel)) ggX7_patch_X2_apply
set_option maxRecDepth 20000 in
theorem ggX7_patch_X5_copyFrom : GoodIn wsX7_patch wsX5_copyFrom := goodIn_r _ [117, 118, 119, 120, 121, 122, 123, 124, 64, 59, 251, 252, 253, 254, 255, 256, 257] (by decide +kernel) (by decide +kernel)
set_option maxRecDepth 20000 in
theorem gX7_patch_X5_copyFrom : GoodIn wsX7_patch (wsV RX7 103 RX5 yX5_copyFrom wsX5_copyFrom) := goodIn_app (goodIn_of _ (by decide +kernel)) ggX7_patch_X5_copyFrom
theorem dX7_patch_0 : decode cX7_patch 0 = .ok (.aload_n 0, 1) := by decide +kernel
theorem dX7_patch_1 : decode cX7_patch 1 = .ok (.iload_n 1, 1) := by decide +kernel
theorem dX7_patch_2 : decode cX7_patch 2 = .ok (.invokevirtual 83, 3) := by decide +kernel
theorem dX7_patch_5 : decode cX7_patch 5 = .ok (.astore_n 2, 1) := by decide +kernel
theorem dX7_patch_6 : decode cX7_patch 6 = .ok (.aload_n 0, 1) := by decide +kernel
theorem dX7_patch_7 : decode cX7_patch 7 = .ok (.invokevirtual 119, 3) := by decide +kernel
theorem dX7_patch_10 : decode cX7_patch 10 = .ok (.aload_n 0, 1) := by decide +kernel
theorem dX7_patch_11 : decode cX7_patch 11 = .ok (.getfield 53, 3) := by decide +kernel
theorem dX7_patch_14 : decode cX7_patch 14 = .ok (.aload_n 0, 1) := by decide +kernel
theorem dX7_patch_15 : decode cX7_patch 15 = .ok (.getfield 46, 3) := by decide +kernel
theorem dX7_patch_18 : decode cX7_patch 18 = .ok (.aload_n 2, 1) := by decide +kernel
theorem dX7_patch_19 : decode cX7_patch 19 = .ok (.invokevirtual 274, 3) := by decide +kernel
theorem dX7_patch_22 : decode cX7_patch 22 = .ok (.ifCond .ne 36, 3) := by decide +kernel
theorem dX7_patch_25 : decode cX7_patch 25 = .ok (.aload_n 0, 1) := by decide +kernel
theorem dX7_patch_26 : decode cX7_patch 26 = .ok (.aload_n 0, 1) := by decide +kernel
theorem dX7_patch_27 : decode cX7_patch 27 = .ok (.getfield 53, 3) := by decide +kernel
theorem dX7_patch_30 : decode cX7_patch 30 = .ok (.getfield 284, 3) := by decide +kernel
theorem dX7_patch_33 : decode cX7_patch 33 = .ok (.putfield 61, 3) := by decide +kernel
theorem dX7_patch_36 : decode cX7_patch 36 = .ok (.aload_n 0, 1) := by decide +kernel
theorem dX7_patch_37 : decode cX7_patch 37 = .ok (.aload_n 0, 1) := by decide +kernel
theorem dX7_patch_38 : decode cX7_patch 38 = .ok (.getfield 53, 3) := by decide +kernel
theorem dX7_patch_41 : decode cX7_patch 41 = .ok (.getfield 287, 3) := by decide +kernel
theorem dX7_patch_44 : decode cX7_patch 44 = .ok (.putfield 64, 3) := by decide +kernel
theorem dX7_patch_47 : decode cX7_patch 47 = .ok (.new 172, 3) := by decide +kernel
theorem dX7_patch_50 : decode cX7_patch 50 = .ok (.dup, 1) := by decide +kernel
theorem dX7_patch_51 : decode cX7_patch 51 = .ok (.ldc_w 290, 3) := by decide +kernel
theorem dX7_patch_54 : decode cX7_patch 54 = .ok (.invokespecial 176, 3) := by decide +kernel
theorem dX7_patch_57 : decode cX7_patch 57 = .ok (.athrow, 1) := by decide +kernel
theorem dX7_patch_58 : decode cX7_patch 58 = .ok (.aload_n 2, 1) := by decide +kernel
theorem dX7_patch_59 : decode cX7_patch 59 = .ok (.aload_n 0, 1) := by decide +kernel
theorem dX7_patch_60 : decode cX7_patch 60 = .ok (.getfield 53, 3) := by decide +kernel
theorem dX7_patch_63 : decode cX7_patch 63 = .ok (.getfield 278, 3) := by decide +kernel
theorem dX7_patch_66 : decode cX7_patch 66 = .ok (.invokevirtual 103, 3) := by decide +kernel
theorem dX7_patch_69 : decode cX7_patch 69 = .ok (.aload_n 2, 1) := by decide +kernel
theorem dX7_patch_70 : decode cX7_patch 70 = .ok (.getfield 107, 3) := by decide +kernel
theorem dX7_patch_73 : decode cX7_patch 73 = .ok (.ireturn, 1) := by decide +kernel
theorem dX7_conflictOperation_0 : decode cX7_conflictOperation 0 = .ok (.aload_n 0, 1) := by decide +kernel
theorem dX7_conflictOperation_1 : decode cX7_conflictOperation 1 = .ok (.getfield 61, 3) := by decide +kernel
theorem dX7_conflictOperation_4 : decode cX7_conflictOperation 4 = .ok (.iconst (-1), 1) := by decide +kernel
theorem dX7_conflictOperation_5 : decode cX7_conflictOperation 5 = .ok (.if_icmp .ne 14, 3) := by decide +kernel
theorem dX7_conflictOperation_8 : decode cX7_conflictOperation 8 = .ok (.new 110, 3) := by decide +kernel
theorem dX7_conflictOperation_11 : decode cX7_conflictOperation 11 = .ok (.dup, 1) := by decide +kernel
theorem dX7_conflictOperation_12 : decode cX7_conflictOperation 12 = .ok (.ldc_w 292, 3) := by decide +kernel
theorem dX7_conflictOperation_15 : decode cX7_conflictOperation 15 = .ok (.invokespecial 114, 3) := by decide +kernel
theorem dX7_conflictOperation_18 : decode cX7_conflictOperation 18 = .ok (.athrow, 1) := by decide +kernel
theorem dX7_conflictOperation_19 : decode cX7_conflictOperation 19 = .ok (.aload_n 0, 1) := by decide +kernel
theorem dX7_conflictOperation_20 : decode cX7_conflictOperation 20 = .ok (.getfield 61, 3) := by decide +kernel
theorem dX7_conflictOperation_23 : decode cX7_conflictOperation 23 = .ok (.ireturn, 1) := by decide +kernel
theorem dX7_conflictReason_0 : decode cX7_conflictReason 0 = .ok (.aload_n 0, 1) := by decide +kernel
theorem dX7_conflictReason_1 : decode cX7_conflictReason 1 = .ok (.getfield 61, 3) := by decide +kernel
theorem dX7_conflictReason_4 : decode cX7_conflictReason 4 = .ok (.iconst (-1), 1) := by decide +kernel
theorem dX7_conflictReason_5 : decode cX7_conflictReason 5 = .ok (.if_icmp .ne 14, 3) := by decide +kernel
theorem dX7_conflictReason_8 : decode cX7_conflictReason 8 = .ok (.new 110, 3) := by decide +kernel
theorem dX7_conflictReason_11 : decode cX7_conflictReason 11 = .ok (.dup, 1) := by decide +kernel
theorem dX7_conflictReason_12 : decode cX7_conflictReason 12 = .ok (.ldc_w 292, 3) := by decide +kernel
theorem dX7_conflictReason_15 : decode cX7_conflictReason 15 = .ok (.invokespecial 114, 3) := by decide +kernel
theorem dX7_conflictReason_18 : decode cX7_conflictReason 18 = .ok (.athrow, 1) := by decide +kernel
theorem dX7_conflictReason_19 : decode cX7_conflictReason 19 = .ok (.aload_n 0, 1) := by decide +kernel
theorem dX7_conflictReason_20 : decode cX7_conflictReason 20 = .ok (.getfield 64, 3) := by decide +kernel
theorem dX7_conflictReason_23 : decode cX7_conflictReason 23 = .ok (.ireturn, 1) := by decide +kernel
set_option maxRecDepth 20000 in
theorem ggX7_isConsistent_X5_isSound : GoodIn wsX7_isConsistent wsX5_isSound := goodIn_r _ [9, 10, 11, 12, 13, 14, 15, 16, 17, 18, 19, 20, 21, 22, 23, 24, 8, 25, 26, 27, 28, 29, 73, 74, 75, 76, 77, 78, 79] (by decide +kernel) (by decide +kernel)
set_option maxRecDepth 20000 in
theorem gX7_isConsistent_X5_isSound : GoodIn wsX7_isConsistent (wsV RX7 294 RX5 yX5_isSound wsX5_isSound) := goodIn_app (goodIn_of _ (by decide +kernel)) ggX7_isConsistent_X5_isSound
set_option maxRecDepth 20000 in
theorem ggX7_isConsistent_X4_isSound : GoodIn wsX7_isConsistent wsX4_isSound := goodIn_r _ [34, 35, 80, 81, 82, 83] (by decide +kernel) (by decide +kernel)
set_option maxRecDepth 20000 in
theorem gX7_isConsistent_X4_isSound : GoodIn wsX7_isConsistent (wsV RX7 297 RX4 yX4_isSound wsX4_isSound) := goodIn_app (goodIn_of _ (by decide +kernel)) ggX7_isConsistent_X4_isSound
set_option maxRecDepth 20000 in
theorem ggX7_isConsistent_X0_isSound : GoodIn wsX7_isConsistent wsX0_isSound := goodIn_r _ [40, 41, 84, 85] (by decide +kernel) (by decide +kernel)
set_option maxRecDepth 20000 in
theorem gX7_isConsistent_X0_isSound : GoodIn wsX7_isConsistent (wsV RX7 298 RX0 yX0_isSound wsX0_isSound) := goodIn_app (goodIn_of _ (by decide +kernel)) ggX7_isConsistent_X0_isSound
set_option maxRecDepth 20000 in
theorem ggX7_isConsistent_X3_isSound : GoodIn wsX7_isConsistent wsX3_isSound := goodIn_r _ [46, 47, 48, 49, 50, 51, 6, 7, 8, 9, 10, 11, 12, 13, 14, 15, 16, 17, 18, 19, 20, 21, 22, 23, 24, 25, 26, 27, 28, 29, 52, 53, 54, 45, 55, 56, 57, 58, 59, 60, 61, 62, 86, 87, 88, 89, 90, 91, 92, 93, 94, 73, 74, 75, 76, 77, 78, 79] (by decide +kernel) (by decide +kernel)
set_option maxRecDepth 20000 in
theorem gX7_isConsistent_X3_isSound : GoodIn wsX7_isConsistent (wsV RX7 299 RX3 yX3_isSound wsX3_isSound) := goodIn_app (goodIn_of _ (by decide +kernel)) ggX7_isConsistent_X3_isSound
theorem dX7_isConsistent_0 : decode cX7_isConsistent 0 = .ok (.iconst 0, 1) := by decide +kernel
theorem dX7_isConsistent_1 : decode cX7_isConsistent 1 = .ok (.istore_n 1, 1) := by decide +kernel
theorem dX7_isConsistent_2 : decode cX7_isConsistent 2 = .ok (.iload_n 1, 1) := by decide +kernel
theorem dX7_isConsistent_3 : decode cX7_isConsistent 3 = .ok (.iconst 3, 1) := by decide +kernel
theorem dX7_isConsistent_4 : decode cX7_isConsistent 4 = .ok (.if_icmp .ge 23, 3) := by decide +kernel
theorem dX7_isConsistent_7 : decode cX7_isConsistent 7 = .ok (.aload_n 0, 1) := by decide +kernel
theorem dX7_isConsistent_8 : decode cX7_isConsistent 8 = .ok (.getfield 11, 3) := by decide +kernel
theorem dX7_isConsistent_11 : decode cX7_isConsistent 11 = .ok (.iload_n 1, 1) := by decide +kernel
theorem dX7_isConsistent_12 : decode cX7_isConsistent 12 = .ok (.aaload, 1) := by decide +kernel
theorem dX7_isConsistent_13 : decode cX7_isConsistent 13 = .ok (.invokevirtual 294, 3) := by decide +kernel
theorem dX7_isConsistent_16 : decode cX7_isConsistent 16 = .ok (.ifCond .ne 5, 3) := by decide +kernel
theorem dX7_isConsistent_19 : decode cX7_isConsistent 19 = .ok (.iconst 0, 1) := by decide +kernel
theorem dX7_isConsistent_20 : decode cX7_isConsistent 20 = .ok (.ireturn, 1) := by decide +kernel
theorem dX7_isConsistent_21 : decode cX7_isConsistent 21 = .ok (.iinc 1 1, 3) := by decide +kernel
theorem dX7_isConsistent_24 : decode cX7_isConsistent 24 = .ok (.goto (-22), 3) := by decide +kernel
theorem dX7_isConsistent_27 : decode cX7_isConsistent 27 = .ok (.aload_n 0, 1) := by decide +kernel
theorem dX7_isConsistent_28 : decode cX7_isConsistent 28 = .ok (.getfield 18, 3) := by decide +kernel
theorem dX7_isConsistent_31 : decode cX7_isConsistent 31 = .ok (.invokevirtual 297, 3) := by decide +kernel
theorem dX7_isConsistent_34 : decode cX7_isConsistent 34 = .ok (.ifCond .eq 27, 3) := by decide +kernel
theorem dX7_isConsistent_37 : decode cX7_isConsistent 37 = .ok (.aload_n 0, 1) := by decide +kernel
theorem dX7_isConsistent_38 : decode cX7_isConsistent 38 = .ok (.getfield 25, 3) := by decide +kernel
theorem dX7_isConsistent_41 : decode cX7_isConsistent 41 = .ok (.invokevirtual 298, 3) := by decide +kernel
theorem dX7_isConsistent_44 : decode cX7_isConsistent 44 = .ok (.ifCond .eq 17, 3) := by decide +kernel
theorem dX7_isConsistent_47 : decode cX7_isConsistent 47 = .ok (.aload_n 0, 1) := by decide +kernel
theorem dX7_isConsistent_48 : decode cX7_isConsistent 48 = .ok (.getfield 46, 3) := by decide +kernel
theorem dX7_isConsistent_51 : decode cX7_isConsistent 51 = .ok (.invokevirtual 299, 3) := by decide +kernel
theorem dX7_isConsistent_54 : decode cX7_isConsistent 54 = .ok (.ifCond .eq 7, 3) := by decide +kernel
theorem dX7_isConsistent_57 : decode cX7_isConsistent 57 = .ok (.iconst 1, 1) := by decide +kernel
theorem dX7_isConsistent_58 : decode cX7_isConsistent 58 = .ok (.goto 4, 3) := by decide +kernel
theorem dX7_isConsistent_61 : decode cX7_isConsistent 61 = .ok (.iconst 0, 1) := by decide +kernel
theorem dX7_isConsistent_62 : decode cX7_isConsistent 62 = .ok (.ireturn, 1) := by decide +kernel
theorem dX7_treeAt_0 : decode cX7_treeAt 0 = .ok (.iload_n 1, 1) := by decide +kernel
theorem dX7_treeAt_1 : decode cX7_treeAt 1 = .ok (.ifCond .lt 8, 3) := by decide +kernel
theorem dX7_treeAt_4 : decode cX7_treeAt 4 = .ok (.iload_n 1, 1) := by decide +kernel
theorem dX7_treeAt_5 : decode cX7_treeAt 5 = .ok (.iconst 3, 1) := by decide +kernel
theorem dX7_treeAt_6 : decode cX7_treeAt 6 = .ok (.if_icmp .lt 14, 3) := by decide +kernel
theorem dX7_treeAt_9 : decode cX7_treeAt 9 = .ok (.new 138, 3) := by decide +kernel
theorem dX7_treeAt_12 : decode cX7_treeAt 12 = .ok (.dup, 1) := by decide +kernel
theorem dX7_treeAt_13 : decode cX7_treeAt 13 = .ok (.ldc_w 300, 3) := by decide +kernel
theorem dX7_treeAt_16 : decode cX7_treeAt 16 = .ok (.invokespecial 142, 3) := by decide +kernel
theorem dX7_treeAt_19 : decode cX7_treeAt 19 = .ok (.athrow, 1) := by decide +kernel
theorem dX7_treeAt_20 : decode cX7_treeAt 20 = .ok (.aload_n 0, 1) := by decide +kernel
theorem dX7_treeAt_21 : decode cX7_treeAt 21 = .ok (.getfield 11, 3) := by decide +kernel
theorem dX7_treeAt_24 : decode cX7_treeAt 24 = .ok (.iload_n 1, 1) := by decide +kernel
theorem dX7_treeAt_25 : decode cX7_treeAt 25 = .ok (.aaload, 1) := by decide +kernel
theorem dX7_treeAt_26 : decode cX7_treeAt 26 = .ok (.areturn, 1) := by decide +kernel
set_option maxRecDepth 20000 in
theorem ggX7_treeWith_X7_treeAt : GoodIn wsX7_treeWith wsX7_treeAt := goodIn_ca (goodIn_r _ [7, 1, 2, 8, 15, 16, 17, 18, 19, 20, 21, 22, 23, 24] (by decide +kernel) (by decide +kernel)) (goodIn_sub (fun _ h => List.mem_cons_of_mem _ (List.mem_append_right _ h)) (by decide +kernel))
set_option maxRecDepth 20000 in
theorem gX7_treeWith_X7_treeAt : GoodIn wsX7_treeWith (wsV RX7 83 RX7 yX7_treeAt wsX7_treeAt) := goodIn_app (goodIn_of _ (by decide +kernel)) ggX7_treeWith_X7_treeAt
set_option maxRecDepth 20000 in
theorem ggX7_treeWith_X5_holds : GoodIn wsX7_treeWith wsX5_holds := goodIn_r _ [13, 14, 25, 26, 27, 28, 29, 30, 31] (by decide +kernel) (by decide +kernel)
set_option maxRecDepth 20000 in
theorem gX7_treeWith_X5_holds : GoodIn wsX7_treeWith (wsV RX7 257 RX5 yX5_holds wsX5_holds) := goodIn_app (goodIn_of _ (by decide +kernel)) ggX7_treeWith_X5_holds
theorem dX7_treeWith_0 : decode cX7_treeWith 0 = .ok (.aload_n 0, 1) := by decide +kernel
theorem dX7_treeWith_1 : decode cX7_treeWith 1 = .ok (.iload_n 1, 1) := by decide +kernel
theorem dX7_treeWith_2 : decode cX7_treeWith 2 = .ok (.invokevirtual 83, 3) := by decide +kernel
theorem dX7_treeWith_5 : decode cX7_treeWith 5 = .ok (.astore_n 3, 1) := by decide +kernel
theorem dX7_treeWith_6 : decode cX7_treeWith 6 = .ok (.aload_n 3, 1) := by decide +kernel
theorem dX7_treeWith_7 : decode cX7_treeWith 7 = .ok (.iload_n 2, 1) := by decide +kernel
theorem dX7_treeWith_8 : decode cX7_treeWith 8 = .ok (.invokevirtual 257, 3) := by decide +kernel
theorem dX7_treeWith_11 : decode cX7_treeWith 11 = .ok (.ifCond .ne 14, 3) := by decide +kernel
theorem dX7_treeWith_14 : decode cX7_treeWith 14 = .ok (.new 138, 3) := by decide +kernel
theorem dX7_treeWith_17 : decode cX7_treeWith 17 = .ok (.dup, 1) := by decide +kernel
theorem dX7_treeWith_18 : decode cX7_treeWith 18 = .ok (.ldc_w 260, 3) := by decide +kernel
theorem dX7_treeWith_21 : decode cX7_treeWith 21 = .ok (.invokespecial 142, 3) := by decide +kernel
theorem dX7_treeWith_24 : decode cX7_treeWith 24 = .ok (.athrow, 1) := by decide +kernel
theorem dX7_treeWith_25 : decode cX7_treeWith 25 = .ok (.aload_n 3, 1) := by decide +kernel
theorem dX7_treeWith_26 : decode cX7_treeWith 26 = .ok (.areturn, 1) := by decide +kernel
set_option maxRecDepth 20000 in
theorem ggX7_needLabel_X7_isLabel : GoodIn wsX7_needLabel wsX7_isLabel := goodIn_r _ [6] (by decide +kernel) (by decide +kernel)
set_option maxRecDepth 20000 in
theorem gX7_needLabel_X7_isLabel : GoodIn wsX7_needLabel (va_wsS RX7 302 yX7_isLabel wsX7_isLabel) := goodIn_app (goodIn_of _ (by decide +kernel)) ggX7_needLabel_X7_isLabel
theorem dX7_needLabel_0 : decode cX7_needLabel 0 = .ok (.iload_n 1, 1) := by decide +kernel
theorem dX7_needLabel_1 : decode cX7_needLabel 1 = .ok (.invokestatic 302, 3) := by decide +kernel
theorem dX7_needLabel_4 : decode cX7_needLabel 4 = .ok (.ifCond .ne 14, 3) := by decide +kernel
theorem dX7_needLabel_7 : decode cX7_needLabel 7 = .ok (.new 94, 3) := by decide +kernel
theorem dX7_needLabel_10 : decode cX7_needLabel 10 = .ok (.dup, 1) := by decide +kernel
theorem dX7_needLabel_11 : decode cX7_needLabel 11 = .ok (.ldc_w 305, 3) := by decide +kernel
theorem dX7_needLabel_14 : decode cX7_needLabel 14 = .ok (.invokespecial 98, 3) := by decide +kernel
theorem dX7_needLabel_17 : decode cX7_needLabel 17 = .ok (.athrow, 1) := by decide +kernel
theorem dX7_needLabel_18 : decode cX7_needLabel 18 = .ok (.return_, 1) := by decide +kernel
theorem dX7_needScript_0 : decode cX7_needScript 0 = .ok (.aload_n 0, 1) := by decide +kernel
theorem dX7_needScript_1 : decode cX7_needScript 1 = .ok (.getfield 46, 3) := by decide +kernel
theorem dX7_needScript_4 : decode cX7_needScript 4 = .ok (.getfield 307, 3) := by decide +kernel
theorem dX7_needScript_7 : decode cX7_needScript 7 = .ok (.ifCond .ne 14, 3) := by decide +kernel
theorem dX7_needScript_10 : decode cX7_needScript 10 = .ok (.new 73, 3) := by decide +kernel
theorem dX7_needScript_13 : decode cX7_needScript 13 = .ok (.dup, 1) := by decide +kernel
theorem dX7_needScript_14 : decode cX7_needScript 14 = .ok (.ldc_w 311, 3) := by decide +kernel
theorem dX7_needScript_17 : decode cX7_needScript 17 = .ok (.invokespecial 77, 3) := by decide +kernel
theorem dX7_needScript_20 : decode cX7_needScript 20 = .ok (.athrow, 1) := by decide +kernel
theorem dX7_needScript_21 : decode cX7_needScript 21 = .ok (.return_, 1) := by decide +kernel
set_option maxRecDepth 20000 in
theorem ggX7_needOperation_X7_needScript : GoodIn wsX7_needOperation wsX7_needScript := goodIn_ca (goodIn_r _ [9, 10, 11, 3, 12, 13, 14, 15, 16, 17, 18, 19, 20, 21, 22, 23, 24, 25, 26, 27, 28, 29, 30, 31] (by decide +kernel) (by decide +kernel)) (goodIn_sub (fun _ h => List.mem_cons_of_mem _ (List.mem_append_right _ h)) (by decide +kernel))
set_option maxRecDepth 20000 in
theorem gX7_needOperation_X7_needScript : GoodIn wsX7_needOperation (wsV RX7 119 RX7 yX7_needScript wsX7_needScript) := goodIn_app (goodIn_of _ (by decide +kernel)) ggX7_needOperation_X7_needScript
theorem dX7_needOperation_0 : decode cX7_needOperation 0 = .ok (.aload_n 0, 1) := by decide +kernel
theorem dX7_needOperation_1 : decode cX7_needOperation 1 = .ok (.invokevirtual 119, 3) := by decide +kernel
theorem dX7_needOperation_4 : decode cX7_needOperation 4 = .ok (.iload_n 1, 1) := by decide +kernel
theorem dX7_needOperation_5 : decode cX7_needOperation 5 = .ok (.ifCond .lt 14, 3) := by decide +kernel
theorem dX7_needOperation_8 : decode cX7_needOperation 8 = .ok (.iload_n 1, 1) := by decide +kernel
theorem dX7_needOperation_9 : decode cX7_needOperation 9 = .ok (.aload_n 0, 1) := by decide +kernel
theorem dX7_needOperation_10 : decode cX7_needOperation 10 = .ok (.getfield 46, 3) := by decide +kernel
theorem dX7_needOperation_13 : decode cX7_needOperation 13 = .ok (.getfield 122, 3) := by decide +kernel
theorem dX7_needOperation_16 : decode cX7_needOperation 16 = .ok (.if_icmp .lt 14, 3) := by decide +kernel
theorem dX7_needOperation_19 : decode cX7_needOperation 19 = .ok (.new 138, 3) := by decide +kernel
theorem dX7_needOperation_22 : decode cX7_needOperation 22 = .ok (.dup, 1) := by decide +kernel
theorem dX7_needOperation_23 : decode cX7_needOperation 23 = .ok (.ldc_w 313, 3) := by decide +kernel
theorem dX7_needOperation_26 : decode cX7_needOperation 26 = .ok (.invokespecial 142, 3) := by decide +kernel
theorem dX7_needOperation_29 : decode cX7_needOperation 29 = .ok (.athrow, 1) := by decide +kernel
theorem dX7_needOperation_30 : decode cX7_needOperation 30 = .ok (.return_, 1) := by decide +kernel
theorem dX7_isLabel_0 : decode cX7_isLabel 0 = .ok (.iload_n 0, 1) := by decide +kernel
theorem dX7_isLabel_1 : decode cX7_isLabel 1 = .ok (.bipush 97, 2) := by decide +kernel
theorem dX7_isLabel_3 : decode cX7_isLabel 3 = .ok (.if_icmp .lt 13, 3) := by decide +kernel
theorem dX7_isLabel_6 : decode cX7_isLabel 6 = .ok (.iload_n 0, 1) := by decide +kernel
theorem dX7_isLabel_7 : decode cX7_isLabel 7 = .ok (.bipush 122, 2) := by decide +kernel
theorem dX7_isLabel_9 : decode cX7_isLabel 9 = .ok (.if_icmp .gt 7, 3) := by decide +kernel
theorem dX7_isLabel_12 : decode cX7_isLabel 12 = .ok (.iconst 1, 1) := by decide +kernel
theorem dX7_isLabel_13 : decode cX7_isLabel 13 = .ok (.goto 4, 3) := by decide +kernel
theorem dX7_isLabel_16 : decode cX7_isLabel 16 = .ok (.iconst 0, 1) := by decide +kernel
theorem dX7_isLabel_17 : decode cX7_isLabel 17 = .ok (.ireturn, 1) := by decide +kernel
theorem dX7_isDigit_0 : decode cX7_isDigit 0 = .ok (.iload_n 0, 1) := by decide +kernel
theorem dX7_isDigit_1 : decode cX7_isDigit 1 = .ok (.bipush 48, 2) := by decide +kernel
theorem dX7_isDigit_3 : decode cX7_isDigit 3 = .ok (.if_icmp .lt 13, 3) := by decide +kernel
theorem dX7_isDigit_6 : decode cX7_isDigit 6 = .ok (.iload_n 0, 1) := by decide +kernel
theorem dX7_isDigit_7 : decode cX7_isDigit 7 = .ok (.bipush 57, 2) := by decide +kernel
theorem dX7_isDigit_9 : decode cX7_isDigit 9 = .ok (.if_icmp .gt 7, 3) := by decide +kernel
theorem dX7_isDigit_12 : decode cX7_isDigit 12 = .ok (.iconst 1, 1) := by decide +kernel
theorem dX7_isDigit_13 : decode cX7_isDigit 13 = .ok (.goto 4, 3) := by decide +kernel
theorem dX7_isDigit_16 : decode cX7_isDigit 16 = .ok (.iconst 0, 1) := by decide +kernel
theorem dX7_isDigit_17 : decode cX7_isDigit 17 = .ok (.ireturn, 1) := by decide +kernel
theorem dX7_isKey_0 : decode cX7_isKey 0 = .ok (.iload_n 0, 1) := by decide +kernel
theorem dX7_isKey_1 : decode cX7_isKey 1 = .ok (.ifCond .lt 13, 3) := by decide +kernel
theorem dX7_isKey_4 : decode cX7_isKey 4 = .ok (.iload_n 0, 1) := by decide +kernel
theorem dX7_isKey_5 : decode cX7_isKey 5 = .ok (.bipush 9, 2) := by decide +kernel
theorem dX7_isKey_7 : decode cX7_isKey 7 = .ok (.if_icmp .gt 7, 3) := by decide +kernel
theorem dX7_isKey_10 : decode cX7_isKey 10 = .ok (.iconst 1, 1) := by decide +kernel
theorem dX7_isKey_11 : decode cX7_isKey 11 = .ok (.goto 4, 3) := by decide +kernel
theorem dX7_isKey_14 : decode cX7_isKey 14 = .ok (.iconst 0, 1) := by decide +kernel
theorem dX7_isKey_15 : decode cX7_isKey 15 = .ok (.ireturn, 1) := by decide +kernel
theorem dX7_isValue_0 : decode cX7_isValue 0 = .ok (.iload_n 0, 1) := by decide +kernel
theorem dX7_isValue_1 : decode cX7_isValue 1 = .ok (.ifCond .lt 13, 3) := by decide +kernel
theorem dX7_isValue_4 : decode cX7_isValue 4 = .ok (.iload_n 0, 1) := by decide +kernel
theorem dX7_isValue_5 : decode cX7_isValue 5 = .ok (.bipush 99, 2) := by decide +kernel
theorem dX7_isValue_7 : decode cX7_isValue 7 = .ok (.if_icmp .gt 7, 3) := by decide +kernel
theorem dX7_isValue_10 : decode cX7_isValue 10 = .ok (.iconst 1, 1) := by decide +kernel
theorem dX7_isValue_11 : decode cX7_isValue 11 = .ok (.goto 4, 3) := by decide +kernel
theorem dX7_isValue_14 : decode cX7_isValue 14 = .ok (.iconst 0, 1) := by decide +kernel
theorem dX7_isValue_15 : decode cX7_isValue 15 = .ok (.ireturn, 1) := by decide +kernel
theorem dX7_entry_0 : decode cX7_entry 0 = .ok (.iload_n 1, 1) := by decide +kernel
theorem dX7_entry_1 : decode cX7_entry 1 = .ok (.ifCond .lt 9, 3) := by decide +kernel
theorem dX7_entry_4 : decode cX7_entry 4 = .ok (.iload_n 1, 1) := by decide +kernel
theorem dX7_entry_5 : decode cX7_entry 5 = .ok (.aload_n 0, 1) := by decide +kernel
theorem dX7_entry_6 : decode cX7_entry 6 = .ok (.arraylength, 1) := by decide +kernel
theorem dX7_entry_7 : decode cX7_entry 7 = .ok (.if_icmp .lt 7, 3) := by decide +kernel
theorem dX7_entry_10 : decode cX7_entry 10 = .ok (.iconst (-1), 1) := by decide +kernel
theorem dX7_entry_11 : decode cX7_entry 11 = .ok (.goto 6, 3) := by decide +kernel
theorem dX7_entry_14 : decode cX7_entry 14 = .ok (.aload_n 0, 1) := by decide +kernel
theorem dX7_entry_15 : decode cX7_entry 15 = .ok (.iload_n 1, 1) := by decide +kernel
theorem dX7_entry_16 : decode cX7_entry 16 = .ok (.iaload, 1) := by decide +kernel
theorem dX7_entry_17 : decode cX7_entry 17 = .ok (.ireturn, 1) := by decide +kernel
theorem dX7_changeCost_0 : decode cX7_changeCost 0 = .ok (.iconst 0, 1) := by decide +kernel
theorem dX7_changeCost_1 : decode cX7_changeCost 1 = .ok (.istore 4, 2) := by decide +kernel
theorem dX7_changeCost_3 : decode cX7_changeCost 3 = .ok (.aload_n 0, 1) := by decide +kernel
theorem dX7_changeCost_4 : decode cX7_changeCost 4 = .ok (.getfield 180, 3) := by decide +kernel
theorem dX7_changeCost_7 : decode cX7_changeCost 7 = .ok (.iload_n 1, 1) := by decide +kernel
theorem dX7_changeCost_8 : decode cX7_changeCost 8 = .ok (.caload, 1) := by decide +kernel
theorem dX7_changeCost_9 : decode cX7_changeCost 9 = .ok (.aload_n 2, 1) := by decide +kernel
theorem dX7_changeCost_10 : decode cX7_changeCost 10 = .ok (.getfield 180, 3) := by decide +kernel
theorem dX7_changeCost_13 : decode cX7_changeCost 13 = .ok (.iload_n 3, 1) := by decide +kernel
theorem dX7_changeCost_14 : decode cX7_changeCost 14 = .ok (.caload, 1) := by decide +kernel
theorem dX7_changeCost_15 : decode cX7_changeCost 15 = .ok (.if_icmp .eq 6, 3) := by decide +kernel
theorem dX7_changeCost_18 : decode cX7_changeCost 18 = .ok (.iinc 4 3, 3) := by decide +kernel
theorem dX7_changeCost_21 : decode cX7_changeCost 21 = .ok (.aload_n 0, 1) := by decide +kernel
theorem dX7_changeCost_22 : decode cX7_changeCost 22 = .ok (.getfield 213, 3) := by decide +kernel
theorem dX7_changeCost_25 : decode cX7_changeCost 25 = .ok (.iload_n 1, 1) := by decide +kernel
theorem dX7_changeCost_26 : decode cX7_changeCost 26 = .ok (.iaload, 1) := by decide +kernel
theorem dX7_changeCost_27 : decode cX7_changeCost 27 = .ok (.aload_n 2, 1) := by decide +kernel
theorem dX7_changeCost_28 : decode cX7_changeCost 28 = .ok (.getfield 213, 3) := by decide +kernel
theorem dX7_changeCost_31 : decode cX7_changeCost 31 = .ok (.iload_n 3, 1) := by decide +kernel
theorem dX7_changeCost_32 : decode cX7_changeCost 32 = .ok (.iaload, 1) := by decide +kernel
theorem dX7_changeCost_33 : decode cX7_changeCost 33 = .ok (.if_icmp .eq 6, 3) := by decide +kernel
theorem dX7_changeCost_36 : decode cX7_changeCost 36 = .ok (.iinc 4 1, 3) := by decide +kernel
theorem dX7_changeCost_39 : decode cX7_changeCost 39 = .ok (.iload 4, 2) := by decide +kernel
theorem dX7_changeCost_41 : decode cX7_changeCost 41 = .ok (.ireturn, 1) := by decide +kernel
theorem dX8_init_0 : decode cX8_init 0 = .ok (.aload_n 0, 1) := by decide +kernel
theorem dX8_init_1 : decode cX8_init 1 = .ok (.invokespecial 3, 3) := by decide +kernel
theorem dX8_init_4 : decode cX8_init 4 = .ok (.aload_n 0, 1) := by decide +kernel
theorem dX8_init_5 : decode cX8_init 5 = .ok (.bipush 20, 2) := by decide +kernel
theorem dX8_init_7 : decode cX8_init 7 = .ok (.anewarray 9, 3) := by decide +kernel
theorem dX8_init_10 : decode cX8_init 10 = .ok (.putfield 11, 3) := by decide +kernel
theorem dX8_init_13 : decode cX8_init 13 = .ok (.return_, 1) := by decide +kernel
theorem dX8_puts_0 : decode cX8_puts 0 = .ok (.aload_n 0, 1) := by decide +kernel
theorem dX8_puts_1 : decode cX8_puts 1 = .ok (.getfield 15, 3) := by decide +kernel
theorem dX8_puts_4 : decode cX8_puts 4 = .ok (.istore_n 3, 1) := by decide +kernel
theorem dX8_puts_5 : decode cX8_puts 5 = .ok (.iload_n 3, 1) := by decide +kernel
theorem dX8_puts_6 : decode cX8_puts 6 = .ok (.iload_n 2, 1) := by decide +kernel
theorem dX8_puts_7 : decode cX8_puts 7 = .ok (.if_icmp .le 23, 3) := by decide +kernel
theorem dX8_puts_10 : decode cX8_puts 10 = .ok (.aload_n 0, 1) := by decide +kernel
theorem dX8_puts_11 : decode cX8_puts 11 = .ok (.getfield 11, 3) := by decide +kernel
theorem dX8_puts_14 : decode cX8_puts 14 = .ok (.iload_n 3, 1) := by decide +kernel
theorem dX8_puts_15 : decode cX8_puts 15 = .ok (.aload_n 0, 1) := by decide +kernel
theorem dX8_puts_16 : decode cX8_puts 16 = .ok (.getfield 11, 3) := by decide +kernel
theorem dX8_puts_19 : decode cX8_puts 19 = .ok (.iload_n 3, 1) := by decide +kernel
theorem dX8_puts_20 : decode cX8_puts 20 = .ok (.iconst 1, 1) := by decide +kernel
theorem dX8_puts_21 : decode cX8_puts 21 = .ok (.isub, 1) := by decide +kernel
theorem dX8_puts_22 : decode cX8_puts 22 = .ok (.aaload, 1) := by decide +kernel
theorem dX8_puts_23 : decode cX8_puts 23 = .ok (.aastore, 1) := by decide +kernel
theorem dX8_puts_24 : decode cX8_puts 24 = .ok (.iinc 3 (-1), 3) := by decide +kernel
theorem dX8_puts_27 : decode cX8_puts 27 = .ok (.goto (-22), 3) := by decide +kernel
theorem dX8_puts_30 : decode cX8_puts 30 = .ok (.aload_n 0, 1) := by decide +kernel
theorem dX8_puts_31 : decode cX8_puts 31 = .ok (.getfield 11, 3) := by decide +kernel
theorem dX8_puts_34 : decode cX8_puts 34 = .ok (.iload_n 2, 1) := by decide +kernel
theorem dX8_puts_35 : decode cX8_puts 35 = .ok (.aload_n 1, 1) := by decide +kernel
theorem dX8_puts_36 : decode cX8_puts 36 = .ok (.aastore, 1) := by decide +kernel
theorem dX8_puts_37 : decode cX8_puts 37 = .ok (.aload_n 1, 1) := by decide +kernel
theorem dX8_puts_38 : decode cX8_puts 38 = .ok (.aload_n 0, 1) := by decide +kernel
theorem dX8_puts_39 : decode cX8_puts 39 = .ok (.putfield 19, 3) := by decide +kernel
theorem dX8_puts_42 : decode cX8_puts 42 = .ok (.aload_n 0, 1) := by decide +kernel
theorem dX8_puts_43 : decode cX8_puts 43 = .ok (.dup, 1) := by decide +kernel
theorem dX8_puts_44 : decode cX8_puts 44 = .ok (.getfield 15, 3) := by decide +kernel
theorem dX8_puts_47 : decode cX8_puts 47 = .ok (.iconst 1, 1) := by decide +kernel
theorem dX8_puts_48 : decode cX8_puts 48 = .ok (.iadd, 1) := by decide +kernel
theorem dX8_puts_49 : decode cX8_puts 49 = .ok (.putfield 15, 3) := by decide +kernel
theorem dX8_puts_52 : decode cX8_puts 52 = .ok (.return_, 1) := by decide +kernel
theorem dX8_placeOf_0 : decode cX8_placeOf 0 = .ok (.iconst 0, 1) := by decide +kernel
theorem dX8_placeOf_1 : decode cX8_placeOf 1 = .ok (.istore_n 2, 1) := by decide +kernel
theorem dX8_placeOf_2 : decode cX8_placeOf 2 = .ok (.aload_n 0, 1) := by decide +kernel
theorem dX8_placeOf_3 : decode cX8_placeOf 3 = .ok (.getfield 11, 3) := by decide +kernel
theorem dX8_placeOf_6 : decode cX8_placeOf 6 = .ok (.iload_n 2, 1) := by decide +kernel
theorem dX8_placeOf_7 : decode cX8_placeOf 7 = .ok (.aaload, 1) := by decide +kernel
theorem dX8_placeOf_8 : decode cX8_placeOf 8 = .ok (.aload_n 1, 1) := by decide +kernel
theorem dX8_placeOf_9 : decode cX8_placeOf 9 = .ok (.if_acmp .eq 9, 3) := by decide +kernel
theorem dX8_placeOf_12 : decode cX8_placeOf 12 = .ok (.iinc 2 1, 3) := by decide +kernel
theorem dX8_placeOf_15 : decode cX8_placeOf 15 = .ok (.goto (-13), 3) := by decide +kernel
theorem dX8_placeOf_18 : decode cX8_placeOf 18 = .ok (.iload_n 2, 1) := by decide +kernel
theorem dX8_placeOf_19 : decode cX8_placeOf 19 = .ok (.ireturn, 1) := by decide +kernel
set_option maxRecDepth 20000 in
theorem ggX8_leaves_X8_placeOf : GoodIn wsX8_leaves wsX8_placeOf := goodIn_r _ [8, 3, 9, 10, 11, 12, 13, 14] (by decide +kernel) (by decide +kernel)
set_option maxRecDepth 20000 in
theorem gX8_leaves_X8_placeOf : GoodIn wsX8_leaves (wsV RX8 23 RX8 yX8_placeOf wsX8_placeOf) := goodIn_app (goodIn_of _ (by decide +kernel)) ggX8_leaves_X8_placeOf
theorem dX8_leaves_0 : decode cX8_leaves 0 = .ok (.aload_n 0, 1) := by decide +kernel
theorem dX8_leaves_1 : decode cX8_leaves 1 = .ok (.getfield 19, 3) := by decide +kernel
theorem dX8_leaves_4 : decode cX8_leaves 4 = .ok (.aload_n 0, 1) := by decide +kernel
theorem dX8_leaves_5 : decode cX8_leaves 5 = .ok (.invokevirtual 23, 3) := by decide +kernel
theorem dX8_leaves_8 : decode cX8_leaves 8 = .ok (.istore_n 1, 1) := by decide +kernel
theorem dX8_leaves_9 : decode cX8_leaves 9 = .ok (.aload_n 0, 1) := by decide +kernel
theorem dX8_leaves_10 : decode cX8_leaves 10 = .ok (.getfield 19, 3) := by decide +kernel
theorem dX8_leaves_13 : decode cX8_leaves 13 = .ok (.dup, 1) := by decide +kernel
theorem dX8_leaves_14 : decode cX8_leaves 14 = .ok (.getfield 15, 3) := by decide +kernel
theorem dX8_leaves_17 : decode cX8_leaves 17 = .ok (.iconst 1, 1) := by decide +kernel
theorem dX8_leaves_18 : decode cX8_leaves 18 = .ok (.isub, 1) := by decide +kernel
theorem dX8_leaves_19 : decode cX8_leaves 19 = .ok (.putfield 15, 3) := by decide +kernel
theorem dX8_leaves_22 : decode cX8_leaves 22 = .ok (.iload_n 1, 1) := by decide +kernel
theorem dX8_leaves_23 : decode cX8_leaves 23 = .ok (.istore_n 2, 1) := by decide +kernel
theorem dX8_leaves_24 : decode cX8_leaves 24 = .ok (.iload_n 2, 1) := by decide +kernel
theorem dX8_leaves_25 : decode cX8_leaves 25 = .ok (.aload_n 0, 1) := by decide +kernel
theorem dX8_leaves_26 : decode cX8_leaves 26 = .ok (.getfield 19, 3) := by decide +kernel
theorem dX8_leaves_29 : decode cX8_leaves 29 = .ok (.getfield 15, 3) := by decide +kernel
theorem dX8_leaves_32 : decode cX8_leaves 32 = .ok (.if_icmp .ge 29, 3) := by decide +kernel
theorem dX8_leaves_35 : decode cX8_leaves 35 = .ok (.aload_n 0, 1) := by decide +kernel
theorem dX8_leaves_36 : decode cX8_leaves 36 = .ok (.getfield 19, 3) := by decide +kernel
theorem dX8_leaves_39 : decode cX8_leaves 39 = .ok (.getfield 11, 3) := by decide +kernel
theorem dX8_leaves_42 : decode cX8_leaves 42 = .ok (.iload_n 2, 1) := by decide +kernel
theorem dX8_leaves_43 : decode cX8_leaves 43 = .ok (.aload_n 0, 1) := by decide +kernel
theorem dX8_leaves_44 : decode cX8_leaves 44 = .ok (.getfield 19, 3) := by decide +kernel
theorem dX8_leaves_47 : decode cX8_leaves 47 = .ok (.getfield 11, 3) := by decide +kernel
theorem dX8_leaves_50 : decode cX8_leaves 50 = .ok (.iload_n 2, 1) := by decide +kernel
theorem dX8_leaves_51 : decode cX8_leaves 51 = .ok (.iconst 1, 1) := by decide +kernel
theorem dX8_leaves_52 : decode cX8_leaves 52 = .ok (.iadd, 1) := by decide +kernel
theorem dX8_leaves_53 : decode cX8_leaves 53 = .ok (.aaload, 1) := by decide +kernel
theorem dX8_leaves_54 : decode cX8_leaves 54 = .ok (.aastore, 1) := by decide +kernel
theorem dX8_leaves_55 : decode cX8_leaves 55 = .ok (.iinc 2 1, 3) := by decide +kernel
theorem dX8_leaves_58 : decode cX8_leaves 58 = .ok (.goto (-34), 3) := by decide +kernel
theorem dX8_leaves_61 : decode cX8_leaves 61 = .ok (.aload_n 0, 1) := by decide +kernel
theorem dX8_leaves_62 : decode cX8_leaves 62 = .ok (.aconst_null, 1) := by decide +kernel
theorem dX8_leaves_63 : decode cX8_leaves 63 = .ok (.putfield 19, 3) := by decide +kernel
theorem dX8_leaves_66 : decode cX8_leaves 66 = .ok (.return_, 1) := by decide +kernel
theorem dX8_hasKey_0 : decode cX8_hasKey 0 = .ok (.iconst 0, 1) := by decide +kernel
theorem dX8_hasKey_1 : decode cX8_hasKey 1 = .ok (.istore_n 2, 1) := by decide +kernel
theorem dX8_hasKey_2 : decode cX8_hasKey 2 = .ok (.iload_n 2, 1) := by decide +kernel
theorem dX8_hasKey_3 : decode cX8_hasKey 3 = .ok (.aload_n 0, 1) := by decide +kernel
theorem dX8_hasKey_4 : decode cX8_hasKey 4 = .ok (.getfield 15, 3) := by decide +kernel
theorem dX8_hasKey_7 : decode cX8_hasKey 7 = .ok (.if_icmp .ge 28, 3) := by decide +kernel
theorem dX8_hasKey_10 : decode cX8_hasKey 10 = .ok (.aload_n 0, 1) := by decide +kernel
theorem dX8_hasKey_11 : decode cX8_hasKey 11 = .ok (.getfield 11, 3) := by decide +kernel
theorem dX8_hasKey_14 : decode cX8_hasKey 14 = .ok (.iload_n 2, 1) := by decide +kernel
theorem dX8_hasKey_15 : decode cX8_hasKey 15 = .ok (.aaload, 1) := by decide +kernel
theorem dX8_hasKey_16 : decode cX8_hasKey 16 = .ok (.getfield 27, 3) := by decide +kernel
theorem dX8_hasKey_19 : decode cX8_hasKey 19 = .ok (.iload_n 1, 1) := by decide +kernel
theorem dX8_hasKey_20 : decode cX8_hasKey 20 = .ok (.if_icmp .ne 9, 3) := by decide +kernel
theorem dX8_hasKey_23 : decode cX8_hasKey 23 = .ok (.iload_n 1, 1) := by decide +kernel
theorem dX8_hasKey_24 : decode cX8_hasKey 24 = .ok (.ifCond .eq 5, 3) := by decide +kernel
theorem dX8_hasKey_27 : decode cX8_hasKey 27 = .ok (.iconst 1, 1) := by decide +kernel
theorem dX8_hasKey_28 : decode cX8_hasKey 28 = .ok (.ireturn, 1) := by decide +kernel
theorem dX8_hasKey_29 : decode cX8_hasKey 29 = .ok (.iinc 2 1, 3) := by decide +kernel
theorem dX8_hasKey_32 : decode cX8_hasKey 32 = .ok (.goto (-30), 3) := by decide +kernel
theorem dX8_hasKey_35 : decode cX8_hasKey 35 = .ok (.iconst 0, 1) := by decide +kernel
theorem dX8_hasKey_36 : decode cX8_hasKey 36 = .ok (.ireturn, 1) := by decide +kernel
theorem dX9_init_0 : decode cX9_init 0 = .ok (.aload_n 0, 1) := by decide +kernel
theorem dX9_init_1 : decode cX9_init 1 = .ok (.invokespecial 3, 3) := by decide +kernel
theorem dX9_init_4 : decode cX9_init 4 = .ok (.aload_n 0, 1) := by decide +kernel
theorem dX9_init_5 : decode cX9_init 5 = .ok (.bipush 20, 2) := by decide +kernel
theorem dX9_init_7 : decode cX9_init 7 = .ok (.newarray .int, 2) := by decide +kernel
theorem dX9_init_9 : decode cX9_init 9 = .ok (.putfield 9, 3) := by decide +kernel
theorem dX9_init_12 : decode cX9_init 12 = .ok (.aload_n 0, 1) := by decide +kernel
theorem dX9_init_13 : decode cX9_init 13 = .ok (.bipush 20, 2) := by decide +kernel
theorem dX9_init_15 : decode cX9_init 15 = .ok (.newarray .int, 2) := by decide +kernel
theorem dX9_init_17 : decode cX9_init 17 = .ok (.putfield 15, 3) := by decide +kernel
theorem dX9_init_20 : decode cX9_init 20 = .ok (.aload_n 0, 1) := by decide +kernel
theorem dX9_init_21 : decode cX9_init 21 = .ok (.bipush 20, 2) := by decide +kernel
theorem dX9_init_23 : decode cX9_init 23 = .ok (.newarray .int, 2) := by decide +kernel
theorem dX9_init_25 : decode cX9_init 25 = .ok (.putfield 18, 3) := by decide +kernel
theorem dX9_init_28 : decode cX9_init 28 = .ok (.aload_n 0, 1) := by decide +kernel
theorem dX9_init_29 : decode cX9_init 29 = .ok (.bipush 20, 2) := by decide +kernel
theorem dX9_init_31 : decode cX9_init 31 = .ok (.newarray .int, 2) := by decide +kernel
theorem dX9_init_33 : decode cX9_init 33 = .ok (.putfield 21, 3) := by decide +kernel
theorem dX9_init_36 : decode cX9_init 36 = .ok (.return_, 1) := by decide +kernel
set_option maxRecDepth 20000 in
theorem ggX9_copies_X9_sets : GoodIn wsX9_copies wsX9_sets := goodIn_r _ [10, 2, 3, 4, 5, 11, 12, 13, 14, 15] (by decide +kernel) (by decide +kernel)
set_option maxRecDepth 20000 in
theorem gX9_copies_X9_sets : GoodIn wsX9_copies (wsV RX9 28 RX9 yX9_sets wsX9_sets) := goodIn_app (goodIn_of _ (by decide +kernel)) ggX9_copies_X9_sets
theorem dX9_copies_0 : decode cX9_copies 0 = .ok (.aload_n 0, 1) := by decide +kernel
theorem dX9_copies_1 : decode cX9_copies 1 = .ok (.aload_n 1, 1) := by decide +kernel
theorem dX9_copies_2 : decode cX9_copies 2 = .ok (.getfield 24, 3) := by decide +kernel
theorem dX9_copies_5 : decode cX9_copies 5 = .ok (.putfield 24, 3) := by decide +kernel
theorem dX9_copies_8 : decode cX9_copies 8 = .ok (.iconst 0, 1) := by decide +kernel
theorem dX9_copies_9 : decode cX9_copies 9 = .ok (.istore_n 2, 1) := by decide +kernel
theorem dX9_copies_10 : decode cX9_copies 10 = .ok (.iload_n 2, 1) := by decide +kernel
theorem dX9_copies_11 : decode cX9_copies 11 = .ok (.aload_n 0, 1) := by decide +kernel
theorem dX9_copies_12 : decode cX9_copies 12 = .ok (.getfield 24, 3) := by decide +kernel
theorem dX9_copies_15 : decode cX9_copies 15 = .ok (.if_icmp .ge 38, 3) := by decide +kernel
theorem dX9_copies_18 : decode cX9_copies 18 = .ok (.aload_n 0, 1) := by decide +kernel
theorem dX9_copies_19 : decode cX9_copies 19 = .ok (.iload_n 2, 1) := by decide +kernel
theorem dX9_copies_20 : decode cX9_copies 20 = .ok (.aload_n 1, 1) := by decide +kernel
theorem dX9_copies_21 : decode cX9_copies 21 = .ok (.getfield 9, 3) := by decide +kernel
theorem dX9_copies_24 : decode cX9_copies 24 = .ok (.iload_n 2, 1) := by decide +kernel
theorem dX9_copies_25 : decode cX9_copies 25 = .ok (.iaload, 1) := by decide +kernel
theorem dX9_copies_26 : decode cX9_copies 26 = .ok (.aload_n 1, 1) := by decide +kernel
theorem dX9_copies_27 : decode cX9_copies 27 = .ok (.getfield 15, 3) := by decide +kernel
theorem dX9_copies_30 : decode cX9_copies 30 = .ok (.iload_n 2, 1) := by decide +kernel
theorem dX9_copies_31 : decode cX9_copies 31 = .ok (.iaload, 1) := by decide +kernel
theorem dX9_copies_32 : decode cX9_copies 32 = .ok (.aload_n 1, 1) := by decide +kernel
theorem dX9_copies_33 : decode cX9_copies 33 = .ok (.getfield 18, 3) := by decide +kernel
theorem dX9_copies_36 : decode cX9_copies 36 = .ok (.iload_n 2, 1) := by decide +kernel
theorem dX9_copies_37 : decode cX9_copies 37 = .ok (.iaload, 1) := by decide +kernel
theorem dX9_copies_38 : decode cX9_copies 38 = .ok (.aload_n 1, 1) := by decide +kernel
theorem dX9_copies_39 : decode cX9_copies 39 = .ok (.getfield 21, 3) := by decide +kernel
theorem dX9_copies_42 : decode cX9_copies 42 = .ok (.iload_n 2, 1) := by decide +kernel
theorem dX9_copies_43 : decode cX9_copies 43 = .ok (.iaload, 1) := by decide +kernel
theorem dX9_copies_44 : decode cX9_copies 44 = .ok (.invokevirtual 28, 3) := by decide +kernel
theorem dX9_copies_47 : decode cX9_copies 47 = .ok (.iinc 2 1, 3) := by decide +kernel
theorem dX9_copies_50 : decode cX9_copies 50 = .ok (.goto (-40), 3) := by decide +kernel
theorem dX9_copies_53 : decode cX9_copies 53 = .ok (.return_, 1) := by decide +kernel
theorem dX9_sets_0 : decode cX9_sets 0 = .ok (.aload_n 0, 1) := by decide +kernel
theorem dX9_sets_1 : decode cX9_sets 1 = .ok (.getfield 9, 3) := by decide +kernel
theorem dX9_sets_4 : decode cX9_sets 4 = .ok (.iload_n 1, 1) := by decide +kernel
theorem dX9_sets_5 : decode cX9_sets 5 = .ok (.iload_n 2, 1) := by decide +kernel
theorem dX9_sets_6 : decode cX9_sets 6 = .ok (.iastore, 1) := by decide +kernel
theorem dX9_sets_7 : decode cX9_sets 7 = .ok (.aload_n 0, 1) := by decide +kernel
theorem dX9_sets_8 : decode cX9_sets 8 = .ok (.getfield 15, 3) := by decide +kernel
theorem dX9_sets_11 : decode cX9_sets 11 = .ok (.iload_n 1, 1) := by decide +kernel
theorem dX9_sets_12 : decode cX9_sets 12 = .ok (.iload_n 3, 1) := by decide +kernel
theorem dX9_sets_13 : decode cX9_sets 13 = .ok (.iastore, 1) := by decide +kernel
theorem dX9_sets_14 : decode cX9_sets 14 = .ok (.aload_n 0, 1) := by decide +kernel
theorem dX9_sets_15 : decode cX9_sets 15 = .ok (.getfield 18, 3) := by decide +kernel
theorem dX9_sets_18 : decode cX9_sets 18 = .ok (.iload_n 1, 1) := by decide +kernel
theorem dX9_sets_19 : decode cX9_sets 19 = .ok (.iload 4, 2) := by decide +kernel
theorem dX9_sets_21 : decode cX9_sets 21 = .ok (.iastore, 1) := by decide +kernel
theorem dX9_sets_22 : decode cX9_sets 22 = .ok (.aload_n 0, 1) := by decide +kernel
theorem dX9_sets_23 : decode cX9_sets 23 = .ok (.getfield 21, 3) := by decide +kernel
theorem dX9_sets_26 : decode cX9_sets 26 = .ok (.iload_n 1, 1) := by decide +kernel
theorem dX9_sets_27 : decode cX9_sets 27 = .ok (.iload 5, 2) := by decide +kernel
theorem dX9_sets_29 : decode cX9_sets 29 = .ok (.iastore, 1) := by decide +kernel
theorem dX9_sets_30 : decode cX9_sets 30 = .ok (.return_, 1) := by decide +kernel
set_option maxRecDepth 20000 in
theorem ggX9_adds_X9_sets : GoodIn wsX9_adds wsX9_sets := goodIn_r _ [6, 7, 8, 9, 10, 11, 12, 13, 14, 15] (by decide +kernel) (by decide +kernel)
set_option maxRecDepth 20000 in
theorem gX9_adds_X9_sets : GoodIn wsX9_adds (wsV RX9 28 RX9 yX9_sets wsX9_sets) := goodIn_app (goodIn_of _ (by decide +kernel)) ggX9_adds_X9_sets
theorem dX9_adds_0 : decode cX9_adds 0 = .ok (.aload_n 0, 1) := by decide +kernel
theorem dX9_adds_1 : decode cX9_adds 1 = .ok (.aload_n 0, 1) := by decide +kernel
theorem dX9_adds_2 : decode cX9_adds 2 = .ok (.getfield 24, 3) := by decide +kernel
theorem dX9_adds_5 : decode cX9_adds 5 = .ok (.iload_n 1, 1) := by decide +kernel
theorem dX9_adds_6 : decode cX9_adds 6 = .ok (.iload_n 2, 1) := by decide +kernel
theorem dX9_adds_7 : decode cX9_adds 7 = .ok (.iload_n 3, 1) := by decide +kernel
theorem dX9_adds_8 : decode cX9_adds 8 = .ok (.iload 4, 2) := by decide +kernel
theorem dX9_adds_10 : decode cX9_adds 10 = .ok (.invokevirtual 28, 3) := by decide +kernel
theorem dX9_adds_13 : decode cX9_adds 13 = .ok (.aload_n 0, 1) := by decide +kernel
theorem dX9_adds_14 : decode cX9_adds 14 = .ok (.dup, 1) := by decide +kernel
theorem dX9_adds_15 : decode cX9_adds 15 = .ok (.getfield 24, 3) := by decide +kernel
theorem dX9_adds_18 : decode cX9_adds 18 = .ok (.iconst 1, 1) := by decide +kernel
theorem dX9_adds_19 : decode cX9_adds 19 = .ok (.iadd, 1) := by decide +kernel
theorem dX9_adds_20 : decode cX9_adds 20 = .ok (.putfield 24, 3) := by decide +kernel
theorem dX9_adds_23 : decode cX9_adds 23 = .ok (.return_, 1) := by decide +kernel
theorem dX9_end_0 : decode cX9_end 0 = .ok (.iload_n 1, 1) := by decide +kernel
theorem dX9_end_1 : decode cX9_end 1 = .ok (.iconst 1, 1) := by decide +kernel
theorem dX9_end_2 : decode cX9_end 2 = .ok (.iadd, 1) := by decide +kernel
theorem dX9_end_3 : decode cX9_end 3 = .ok (.istore_n 2, 1) := by decide +kernel
theorem dX9_end_4 : decode cX9_end 4 = .ok (.iload_n 2, 1) := by decide +kernel
theorem dX9_end_5 : decode cX9_end 5 = .ok (.aload_n 0, 1) := by decide +kernel
theorem dX9_end_6 : decode cX9_end 6 = .ok (.getfield 24, 3) := by decide +kernel
theorem dX9_end_9 : decode cX9_end 9 = .ok (.if_icmp .ge 19, 3) := by decide +kernel
theorem dX9_end_12 : decode cX9_end 12 = .ok (.aload_n 0, 1) := by decide +kernel
theorem dX9_end_13 : decode cX9_end 13 = .ok (.getfield 21, 3) := by decide +kernel
theorem dX9_end_16 : decode cX9_end 16 = .ok (.iload_n 2, 1) := by decide +kernel
theorem dX9_end_17 : decode cX9_end 17 = .ok (.iaload, 1) := by decide +kernel
theorem dX9_end_18 : decode cX9_end 18 = .ok (.iload_n 1, 1) := by decide +kernel
theorem dX9_end_19 : decode cX9_end 19 = .ok (.if_icmp .lt 9, 3) := by decide +kernel
theorem dX9_end_22 : decode cX9_end 22 = .ok (.iinc 2 1, 3) := by decide +kernel
theorem dX9_end_25 : decode cX9_end 25 = .ok (.goto (-21), 3) := by decide +kernel
theorem dX9_end_28 : decode cX9_end 28 = .ok (.iload_n 2, 1) := by decide +kernel
theorem dX9_end_29 : decode cX9_end 29 = .ok (.ireturn, 1) := by decide +kernel
theorem dX9_many_0 : decode cX9_many 0 = .ok (.iconst 0, 1) := by decide +kernel
theorem dX9_many_1 : decode cX9_many 1 = .ok (.istore_n 2, 1) := by decide +kernel
theorem dX9_many_2 : decode cX9_many 2 = .ok (.iload_n 1, 1) := by decide +kernel
theorem dX9_many_3 : decode cX9_many 3 = .ok (.iconst 1, 1) := by decide +kernel
theorem dX9_many_4 : decode cX9_many 4 = .ok (.iadd, 1) := by decide +kernel
theorem dX9_many_5 : decode cX9_many 5 = .ok (.istore_n 3, 1) := by decide +kernel
theorem dX9_many_6 : decode cX9_many 6 = .ok (.iload_n 3, 1) := by decide +kernel
theorem dX9_many_7 : decode cX9_many 7 = .ok (.aload_n 0, 1) := by decide +kernel
theorem dX9_many_8 : decode cX9_many 8 = .ok (.getfield 24, 3) := by decide +kernel
theorem dX9_many_11 : decode cX9_many 11 = .ok (.if_icmp .ge 27, 3) := by decide +kernel
theorem dX9_many_14 : decode cX9_many 14 = .ok (.iload_n 2, 1) := by decide +kernel
theorem dX9_many_15 : decode cX9_many 15 = .ok (.aload_n 0, 1) := by decide +kernel
theorem dX9_many_16 : decode cX9_many 16 = .ok (.getfield 21, 3) := by decide +kernel
theorem dX9_many_19 : decode cX9_many 19 = .ok (.iload_n 3, 1) := by decide +kernel
theorem dX9_many_20 : decode cX9_many 20 = .ok (.iaload, 1) := by decide +kernel
theorem dX9_many_21 : decode cX9_many 21 = .ok (.iload_n 1, 1) := by decide +kernel
theorem dX9_many_22 : decode cX9_many 22 = .ok (.if_icmp .ne 7, 3) := by decide +kernel
theorem dX9_many_25 : decode cX9_many 25 = .ok (.iconst 1, 1) := by decide +kernel
theorem dX9_many_26 : decode cX9_many 26 = .ok (.goto 4, 3) := by decide +kernel
theorem dX9_many_29 : decode cX9_many 29 = .ok (.iconst 0, 1) := by decide +kernel
theorem dX9_many_30 : decode cX9_many 30 = .ok (.iadd, 1) := by decide +kernel
theorem dX9_many_31 : decode cX9_many 31 = .ok (.istore_n 2, 1) := by decide +kernel
theorem dX9_many_32 : decode cX9_many 32 = .ok (.iinc 3 1, 3) := by decide +kernel
theorem dX9_many_35 : decode cX9_many 35 = .ok (.goto (-29), 3) := by decide +kernel
theorem dX9_many_38 : decode cX9_many 38 = .ok (.iload_n 2, 1) := by decide +kernel
theorem dX9_many_39 : decode cX9_many 39 = .ok (.ireturn, 1) := by decide +kernel
set_option maxRecDepth 20000 in
theorem ggX9_kids_X9_many : GoodIn wsX9_kids wsX9_many := goodIn_r _ [8, 2, 3, 9, 10, 11, 12, 13] (by decide +kernel) (by decide +kernel)
set_option maxRecDepth 20000 in
theorem gX9_kids_X9_many : GoodIn wsX9_kids (wsV RX9 32 RX9 yX9_many wsX9_many) := goodIn_app (goodIn_of _ (by decide +kernel)) ggX9_kids_X9_many
theorem dX9_kids_0 : decode cX9_kids 0 = .ok (.aload_n 0, 1) := by decide +kernel
theorem dX9_kids_1 : decode cX9_kids 1 = .ok (.iload_n 1, 1) := by decide +kernel
theorem dX9_kids_2 : decode cX9_kids 2 = .ok (.invokevirtual 32, 3) := by decide +kernel
theorem dX9_kids_5 : decode cX9_kids 5 = .ok (.newarray .int, 2) := by decide +kernel
theorem dX9_kids_7 : decode cX9_kids 7 = .ok (.astore_n 2, 1) := by decide +kernel
theorem dX9_kids_8 : decode cX9_kids 8 = .ok (.iconst 0, 1) := by decide +kernel
theorem dX9_kids_9 : decode cX9_kids 9 = .ok (.istore_n 3, 1) := by decide +kernel
theorem dX9_kids_10 : decode cX9_kids 10 = .ok (.iload_n 1, 1) := by decide +kernel
theorem dX9_kids_11 : decode cX9_kids 11 = .ok (.iconst 1, 1) := by decide +kernel
theorem dX9_kids_12 : decode cX9_kids 12 = .ok (.iadd, 1) := by decide +kernel
theorem dX9_kids_13 : decode cX9_kids 13 = .ok (.istore 4, 2) := by decide +kernel
theorem dX9_kids_15 : decode cX9_kids 15 = .ok (.iload 4, 2) := by decide +kernel
theorem dX9_kids_17 : decode cX9_kids 17 = .ok (.aload_n 0, 1) := by decide +kernel
theorem dX9_kids_18 : decode cX9_kids 18 = .ok (.getfield 24, 3) := by decide +kernel
theorem dX9_kids_21 : decode cX9_kids 21 = .ok (.if_icmp .ge 31, 3) := by decide +kernel
theorem dX9_kids_24 : decode cX9_kids 24 = .ok (.aload_n 0, 1) := by decide +kernel
theorem dX9_kids_25 : decode cX9_kids 25 = .ok (.getfield 21, 3) := by decide +kernel
theorem dX9_kids_28 : decode cX9_kids 28 = .ok (.iload 4, 2) := by decide +kernel
theorem dX9_kids_30 : decode cX9_kids 30 = .ok (.iaload, 1) := by decide +kernel
theorem dX9_kids_31 : decode cX9_kids 31 = .ok (.iload_n 1, 1) := by decide +kernel
theorem dX9_kids_32 : decode cX9_kids 32 = .ok (.if_icmp .eq 6, 3) := by decide +kernel
theorem dX9_kids_35 : decode cX9_kids 35 = .ok (.goto 11, 3) := by decide +kernel
theorem dX9_kids_38 : decode cX9_kids 38 = .ok (.aload_n 2, 1) := by decide +kernel
theorem dX9_kids_39 : decode cX9_kids 39 = .ok (.iload_n 3, 1) := by decide +kernel
theorem dX9_kids_40 : decode cX9_kids 40 = .ok (.iload 4, 2) := by decide +kernel
theorem dX9_kids_42 : decode cX9_kids 42 = .ok (.iastore, 1) := by decide +kernel
theorem dX9_kids_43 : decode cX9_kids 43 = .ok (.iinc 3 1, 3) := by decide +kernel
theorem dX9_kids_46 : decode cX9_kids 46 = .ok (.iinc 4 1, 3) := by decide +kernel
theorem dX9_kids_49 : decode cX9_kids 49 = .ok (.goto (-34), 3) := by decide +kernel
theorem dX9_kids_52 : decode cX9_kids 52 = .ok (.aload_n 2, 1) := by decide +kernel
theorem dX9_kids_53 : decode cX9_kids 53 = .ok (.areturn, 1) := by decide +kernel
set_option maxRecDepth 20000 in
theorem ggX9_moves_X9_sets : GoodIn wsX9_moves wsX9_sets := goodIn_r _ [10, 2, 3, 4, 5, 11, 12, 13, 14, 15] (by decide +kernel) (by decide +kernel)
set_option maxRecDepth 20000 in
theorem gX9_moves_X9_sets : GoodIn wsX9_moves (wsV RX9 28 RX9 yX9_sets wsX9_sets) := goodIn_app (goodIn_of _ (by decide +kernel)) ggX9_moves_X9_sets
theorem dX9_moves_0 : decode cX9_moves 0 = .ok (.iload_n 2, 1) := by decide +kernel
theorem dX9_moves_1 : decode cX9_moves 1 = .ok (.ifCond .le 76, 3) := by decide +kernel
theorem dX9_moves_4 : decode cX9_moves 4 = .ok (.aload_n 0, 1) := by decide +kernel
theorem dX9_moves_5 : decode cX9_moves 5 = .ok (.getfield 24, 3) := by decide +kernel
theorem dX9_moves_8 : decode cX9_moves 8 = .ok (.iconst 1, 1) := by decide +kernel
theorem dX9_moves_9 : decode cX9_moves 9 = .ok (.isub, 1) := by decide +kernel
theorem dX9_moves_10 : decode cX9_moves 10 = .ok (.istore_n 3, 1) := by decide +kernel
theorem dX9_moves_11 : decode cX9_moves 11 = .ok (.iload_n 3, 1) := by decide +kernel
theorem dX9_moves_12 : decode cX9_moves 12 = .ok (.iload_n 1, 1) := by decide +kernel
theorem dX9_moves_13 : decode cX9_moves 13 = .ok (.if_icmp .lt 61, 3) := by decide +kernel
theorem dX9_moves_16 : decode cX9_moves 16 = .ok (.aload_n 0, 1) := by decide +kernel
theorem dX9_moves_17 : decode cX9_moves 17 = .ok (.iload_n 3, 1) := by decide +kernel
theorem dX9_moves_18 : decode cX9_moves 18 = .ok (.iload_n 2, 1) := by decide +kernel
theorem dX9_moves_19 : decode cX9_moves 19 = .ok (.iadd, 1) := by decide +kernel
theorem dX9_moves_20 : decode cX9_moves 20 = .ok (.aload_n 0, 1) := by decide +kernel
theorem dX9_moves_21 : decode cX9_moves 21 = .ok (.getfield 9, 3) := by decide +kernel
theorem dX9_moves_24 : decode cX9_moves 24 = .ok (.iload_n 3, 1) := by decide +kernel
theorem dX9_moves_25 : decode cX9_moves 25 = .ok (.iaload, 1) := by decide +kernel
theorem dX9_moves_26 : decode cX9_moves 26 = .ok (.aload_n 0, 1) := by decide +kernel
theorem dX9_moves_27 : decode cX9_moves 27 = .ok (.getfield 15, 3) := by decide +kernel
theorem dX9_moves_30 : decode cX9_moves 30 = .ok (.iload_n 3, 1) := by decide +kernel
theorem dX9_moves_31 : decode cX9_moves 31 = .ok (.iaload, 1) := by decide +kernel
theorem dX9_moves_32 : decode cX9_moves 32 = .ok (.aload_n 0, 1) := by decide +kernel
theorem dX9_moves_33 : decode cX9_moves 33 = .ok (.getfield 18, 3) := by decide +kernel
theorem dX9_moves_36 : decode cX9_moves 36 = .ok (.iload_n 3, 1) := by decide +kernel
theorem dX9_moves_37 : decode cX9_moves 37 = .ok (.iaload, 1) := by decide +kernel
theorem dX9_moves_38 : decode cX9_moves 38 = .ok (.aload_n 0, 1) := by decide +kernel
theorem dX9_moves_39 : decode cX9_moves 39 = .ok (.getfield 21, 3) := by decide +kernel
theorem dX9_moves_42 : decode cX9_moves 42 = .ok (.iload_n 3, 1) := by decide +kernel
theorem dX9_moves_43 : decode cX9_moves 43 = .ok (.iaload, 1) := by decide +kernel
theorem dX9_moves_44 : decode cX9_moves 44 = .ok (.iload_n 1, 1) := by decide +kernel
theorem dX9_moves_45 : decode cX9_moves 45 = .ok (.if_icmp .lt 14, 3) := by decide +kernel
theorem dX9_moves_48 : decode cX9_moves 48 = .ok (.aload_n 0, 1) := by decide +kernel
theorem dX9_moves_49 : decode cX9_moves 49 = .ok (.getfield 21, 3) := by decide +kernel
theorem dX9_moves_52 : decode cX9_moves 52 = .ok (.iload_n 3, 1) := by decide +kernel
theorem dX9_moves_53 : decode cX9_moves 53 = .ok (.iaload, 1) := by decide +kernel
theorem dX9_moves_54 : decode cX9_moves 54 = .ok (.iload_n 2, 1) := by decide +kernel
theorem dX9_moves_55 : decode cX9_moves 55 = .ok (.iadd, 1) := by decide +kernel
theorem dX9_moves_56 : decode cX9_moves 56 = .ok (.goto 9, 3) := by decide +kernel
theorem dX9_moves_59 : decode cX9_moves 59 = .ok (.aload_n 0, 1) := by decide +kernel
theorem dX9_moves_60 : decode cX9_moves 60 = .ok (.getfield 21, 3) := by decide +kernel
theorem dX9_moves_63 : decode cX9_moves 63 = .ok (.iload_n 3, 1) := by decide +kernel
theorem dX9_moves_64 : decode cX9_moves 64 = .ok (.iaload, 1) := by decide +kernel
theorem dX9_moves_65 : decode cX9_moves 65 = .ok (.invokevirtual 28, 3) := by decide +kernel
theorem dX9_moves_68 : decode cX9_moves 68 = .ok (.iinc 3 (-1), 3) := by decide +kernel
theorem dX9_moves_71 : decode cX9_moves 71 = .ok (.goto (-60), 3) := by decide +kernel
theorem dX9_moves_74 : decode cX9_moves 74 = .ok (.goto 73, 3) := by decide +kernel
theorem dX9_moves_77 : decode cX9_moves 77 = .ok (.iload_n 1, 1) := by decide +kernel
theorem dX9_moves_78 : decode cX9_moves 78 = .ok (.iload_n 2, 1) := by decide +kernel
theorem dX9_moves_79 : decode cX9_moves 79 = .ok (.isub, 1) := by decide +kernel
theorem dX9_moves_80 : decode cX9_moves 80 = .ok (.istore_n 3, 1) := by decide +kernel
theorem dX9_moves_81 : decode cX9_moves 81 = .ok (.iload_n 3, 1) := by decide +kernel
theorem dX9_moves_82 : decode cX9_moves 82 = .ok (.aload_n 0, 1) := by decide +kernel
theorem dX9_moves_83 : decode cX9_moves 83 = .ok (.getfield 24, 3) := by decide +kernel
theorem dX9_moves_86 : decode cX9_moves 86 = .ok (.if_icmp .ge 61, 3) := by decide +kernel
theorem dX9_moves_89 : decode cX9_moves 89 = .ok (.aload_n 0, 1) := by decide +kernel
theorem dX9_moves_90 : decode cX9_moves 90 = .ok (.iload_n 3, 1) := by decide +kernel
theorem dX9_moves_91 : decode cX9_moves 91 = .ok (.iload_n 2, 1) := by decide +kernel
theorem dX9_moves_92 : decode cX9_moves 92 = .ok (.iadd, 1) := by decide +kernel
theorem dX9_moves_93 : decode cX9_moves 93 = .ok (.aload_n 0, 1) := by decide +kernel
theorem dX9_moves_94 : decode cX9_moves 94 = .ok (.getfield 9, 3) := by decide +kernel
theorem dX9_moves_97 : decode cX9_moves 97 = .ok (.iload_n 3, 1) := by decide +kernel
theorem dX9_moves_98 : decode cX9_moves 98 = .ok (.iaload, 1) := by decide +kernel
theorem dX9_moves_99 : decode cX9_moves 99 = .ok (.aload_n 0, 1) := by decide +kernel
theorem dX9_moves_100 : decode cX9_moves 100 = .ok (.getfield 15, 3) := by decide +kernel
theorem dX9_moves_103 : decode cX9_moves 103 = .ok (.iload_n 3, 1) := by decide +kernel
theorem dX9_moves_104 : decode cX9_moves 104 = .ok (.iaload, 1) := by decide +kernel
theorem dX9_moves_105 : decode cX9_moves 105 = .ok (.aload_n 0, 1) := by decide +kernel
theorem dX9_moves_106 : decode cX9_moves 106 = .ok (.getfield 18, 3) := by decide +kernel
theorem dX9_moves_109 : decode cX9_moves 109 = .ok (.iload_n 3, 1) := by decide +kernel
theorem dX9_moves_110 : decode cX9_moves 110 = .ok (.iaload, 1) := by decide +kernel
theorem dX9_moves_111 : decode cX9_moves 111 = .ok (.aload_n 0, 1) := by decide +kernel
theorem dX9_moves_112 : decode cX9_moves 112 = .ok (.getfield 21, 3) := by decide +kernel
theorem dX9_moves_115 : decode cX9_moves 115 = .ok (.iload_n 3, 1) := by decide +kernel
theorem dX9_moves_116 : decode cX9_moves 116 = .ok (.iaload, 1) := by decide +kernel
theorem dX9_moves_117 : decode cX9_moves 117 = .ok (.iload_n 1, 1) := by decide +kernel
theorem dX9_moves_118 : decode cX9_moves 118 = .ok (.if_icmp .lt 14, 3) := by decide +kernel
theorem dX9_moves_121 : decode cX9_moves 121 = .ok (.aload_n 0, 1) := by decide +kernel
theorem dX9_moves_122 : decode cX9_moves 122 = .ok (.getfield 21, 3) := by decide +kernel
theorem dX9_moves_125 : decode cX9_moves 125 = .ok (.iload_n 3, 1) := by decide +kernel
theorem dX9_moves_126 : decode cX9_moves 126 = .ok (.iaload, 1) := by decide +kernel
theorem dX9_moves_127 : decode cX9_moves 127 = .ok (.iload_n 2, 1) := by decide +kernel
theorem dX9_moves_128 : decode cX9_moves 128 = .ok (.iadd, 1) := by decide +kernel
theorem dX9_moves_129 : decode cX9_moves 129 = .ok (.goto 9, 3) := by decide +kernel
theorem dX9_moves_132 : decode cX9_moves 132 = .ok (.aload_n 0, 1) := by decide +kernel
theorem dX9_moves_133 : decode cX9_moves 133 = .ok (.getfield 21, 3) := by decide +kernel
theorem dX9_moves_136 : decode cX9_moves 136 = .ok (.iload_n 3, 1) := by decide +kernel
theorem dX9_moves_137 : decode cX9_moves 137 = .ok (.iaload, 1) := by decide +kernel
theorem dX9_moves_138 : decode cX9_moves 138 = .ok (.invokevirtual 28, 3) := by decide +kernel
theorem dX9_moves_141 : decode cX9_moves 141 = .ok (.iinc 3 1, 3) := by decide +kernel
theorem dX9_moves_144 : decode cX9_moves 144 = .ok (.goto (-63), 3) := by decide +kernel
theorem dX9_moves_147 : decode cX9_moves 147 = .ok (.aload_n 0, 1) := by decide +kernel
theorem dX9_moves_148 : decode cX9_moves 148 = .ok (.dup, 1) := by decide +kernel
theorem dX9_moves_149 : decode cX9_moves 149 = .ok (.getfield 24, 3) := by decide +kernel
theorem dX9_moves_152 : decode cX9_moves 152 = .ok (.iload_n 2, 1) := by decide +kernel
theorem dX9_moves_153 : decode cX9_moves 153 = .ok (.iadd, 1) := by decide +kernel
theorem dX9_moves_154 : decode cX9_moves 154 = .ok (.putfield 24, 3) := by decide +kernel
theorem dX9_moves_157 : decode cX9_moves 157 = .ok (.return_, 1) := by decide +kernel
theorem dX9_isUsed_0 : decode cX9_isUsed 0 = .ok (.iload_n 1, 1) := by decide +kernel
theorem dX9_isUsed_1 : decode cX9_isUsed 1 = .ok (.iconst 1, 1) := by decide +kernel
theorem dX9_isUsed_2 : decode cX9_isUsed 2 = .ok (.iadd, 1) := by decide +kernel
theorem dX9_isUsed_3 : decode cX9_isUsed 3 = .ok (.istore 4, 2) := by decide +kernel
theorem dX9_isUsed_5 : decode cX9_isUsed 5 = .ok (.iload 4, 2) := by decide +kernel
theorem dX9_isUsed_7 : decode cX9_isUsed 7 = .ok (.aload_n 0, 1) := by decide +kernel
theorem dX9_isUsed_8 : decode cX9_isUsed 8 = .ok (.getfield 24, 3) := by decide +kernel
theorem dX9_isUsed_11 : decode cX9_isUsed 11 = .ok (.if_icmp .ge 43, 3) := by decide +kernel
theorem dX9_isUsed_14 : decode cX9_isUsed 14 = .ok (.iload 4, 2) := by decide +kernel
theorem dX9_isUsed_16 : decode cX9_isUsed 16 = .ok (.iload_n 3, 1) := by decide +kernel
theorem dX9_isUsed_17 : decode cX9_isUsed 17 = .ok (.if_icmp .eq 31, 3) := by decide +kernel
theorem dX9_isUsed_20 : decode cX9_isUsed 20 = .ok (.aload_n 0, 1) := by decide +kernel
theorem dX9_isUsed_21 : decode cX9_isUsed 21 = .ok (.getfield 21, 3) := by decide +kernel
theorem dX9_isUsed_24 : decode cX9_isUsed 24 = .ok (.iload 4, 2) := by decide +kernel
theorem dX9_isUsed_26 : decode cX9_isUsed 26 = .ok (.iaload, 1) := by decide +kernel
theorem dX9_isUsed_27 : decode cX9_isUsed 27 = .ok (.iload_n 1, 1) := by decide +kernel
theorem dX9_isUsed_28 : decode cX9_isUsed 28 = .ok (.if_icmp .ne 20, 3) := by decide +kernel
theorem dX9_isUsed_31 : decode cX9_isUsed 31 = .ok (.aload_n 0, 1) := by decide +kernel
theorem dX9_isUsed_32 : decode cX9_isUsed 32 = .ok (.getfield 15, 3) := by decide +kernel
theorem dX9_isUsed_35 : decode cX9_isUsed 35 = .ok (.iload 4, 2) := by decide +kernel
theorem dX9_isUsed_37 : decode cX9_isUsed 37 = .ok (.iaload, 1) := by decide +kernel
theorem dX9_isUsed_38 : decode cX9_isUsed 38 = .ok (.iload_n 2, 1) := by decide +kernel
theorem dX9_isUsed_39 : decode cX9_isUsed 39 = .ok (.if_icmp .ne 9, 3) := by decide +kernel
theorem dX9_isUsed_42 : decode cX9_isUsed 42 = .ok (.iload_n 2, 1) := by decide +kernel
theorem dX9_isUsed_43 : decode cX9_isUsed 43 = .ok (.ifCond .eq 5, 3) := by decide +kernel
theorem dX9_isUsed_46 : decode cX9_isUsed 46 = .ok (.iconst 1, 1) := by decide +kernel
theorem dX9_isUsed_47 : decode cX9_isUsed 47 = .ok (.ireturn, 1) := by decide +kernel
theorem dX9_isUsed_48 : decode cX9_isUsed 48 = .ok (.iinc 4 1, 3) := by decide +kernel
theorem dX9_isUsed_51 : decode cX9_isUsed 51 = .ok (.goto (-46), 3) := by decide +kernel
theorem dX9_isUsed_54 : decode cX9_isUsed 54 = .ok (.iconst 0, 1) := by decide +kernel
theorem dX9_isUsed_55 : decode cX9_isUsed 55 = .ok (.ireturn, 1) := by decide +kernel
set_option maxRecDepth 20000 in
theorem ggX9_hash_X9_kids : GoodIn wsX9_hash wsX9_kids := goodIn_r _ [8, 9, 10, 11, 12, 13, 14, 7, 15, 19, 20, 21, 22, 23] (by decide +kernel) (by decide +kernel)
set_option maxRecDepth 20000 in
theorem gX9_hash_X9_kids : GoodIn wsX9_hash (wsV RX9 36 RX9 yX9_kids wsX9_kids) := goodIn_app (goodIn_of _ (by decide +kernel)) ggX9_hash_X9_kids
set_option maxRecDepth 20000 in
theorem ggX9_hash_X9_hash : GoodIn wsX9_hash wsX9_hash := goodIn_r _ [0, 1, 2, 3, 4, 5, 6, 7, 8, 9, 10, 11, 12, 13, 14, 15, 16, 17, 18, 19, 20, 21, 22, 23] (by decide +kernel) (by decide +kernel)
set_option maxRecDepth 20000 in
theorem gX9_hash_X9_hash : GoodIn wsX9_hash (wsV RX9 40 RX9 yX9_hash wsX9_hash) := goodIn_app (goodIn_of _ (by decide +kernel)) ggX9_hash_X9_hash
set_option maxRecDepth 20000 in
theorem ggX9_hash_X9_many : GoodIn wsX9_hash wsX9_many := goodIn_r _ [15, 10, 11, 19, 20, 21, 22, 23] (by decide +kernel) (by decide +kernel)
set_option maxRecDepth 20000 in
theorem gX9_hash_X9_many : GoodIn wsX9_hash (wsV RX9 32 RX9 yX9_many wsX9_many) := goodIn_app (goodIn_of _ (by decide +kernel)) ggX9_hash_X9_many
theorem dX9_hash_0 : decode cX9_hash 0 = .ok (.aload_n 0, 1) := by decide +kernel
theorem dX9_hash_1 : decode cX9_hash 1 = .ok (.getfield 9, 3) := by decide +kernel
theorem dX9_hash_4 : decode cX9_hash 4 = .ok (.iload_n 1, 1) := by decide +kernel
theorem dX9_hash_5 : decode cX9_hash 5 = .ok (.iaload, 1) := by decide +kernel
theorem dX9_hash_6 : decode cX9_hash 6 = .ok (.bipush 31, 2) := by decide +kernel
theorem dX9_hash_8 : decode cX9_hash 8 = .ok (.imul, 1) := by decide +kernel
theorem dX9_hash_9 : decode cX9_hash 9 = .ok (.aload_n 0, 1) := by decide +kernel
theorem dX9_hash_10 : decode cX9_hash 10 = .ok (.getfield 15, 3) := by decide +kernel
theorem dX9_hash_13 : decode cX9_hash 13 = .ok (.iload_n 1, 1) := by decide +kernel
theorem dX9_hash_14 : decode cX9_hash 14 = .ok (.iaload, 1) := by decide +kernel
theorem dX9_hash_15 : decode cX9_hash 15 = .ok (.iadd, 1) := by decide +kernel
theorem dX9_hash_16 : decode cX9_hash 16 = .ok (.bipush 31, 2) := by decide +kernel
theorem dX9_hash_18 : decode cX9_hash 18 = .ok (.imul, 1) := by decide +kernel
theorem dX9_hash_19 : decode cX9_hash 19 = .ok (.aload_n 0, 1) := by decide +kernel
theorem dX9_hash_20 : decode cX9_hash 20 = .ok (.getfield 18, 3) := by decide +kernel
theorem dX9_hash_23 : decode cX9_hash 23 = .ok (.iload_n 1, 1) := by decide +kernel
theorem dX9_hash_24 : decode cX9_hash 24 = .ok (.iaload, 1) := by decide +kernel
theorem dX9_hash_25 : decode cX9_hash 25 = .ok (.iadd, 1) := by decide +kernel
theorem dX9_hash_26 : decode cX9_hash 26 = .ok (.istore_n 2, 1) := by decide +kernel
theorem dX9_hash_27 : decode cX9_hash 27 = .ok (.aload_n 0, 1) := by decide +kernel
theorem dX9_hash_28 : decode cX9_hash 28 = .ok (.iload_n 1, 1) := by decide +kernel
theorem dX9_hash_29 : decode cX9_hash 29 = .ok (.invokevirtual 36, 3) := by decide +kernel
theorem dX9_hash_32 : decode cX9_hash 32 = .ok (.astore_n 3, 1) := by decide +kernel
theorem dX9_hash_33 : decode cX9_hash 33 = .ok (.aload_n 3, 1) := by decide +kernel
theorem dX9_hash_34 : decode cX9_hash 34 = .ok (.arraylength, 1) := by decide +kernel
theorem dX9_hash_35 : decode cX9_hash 35 = .ok (.istore 4, 2) := by decide +kernel
theorem dX9_hash_37 : decode cX9_hash 37 = .ok (.iconst 0, 1) := by decide +kernel
theorem dX9_hash_38 : decode cX9_hash 38 = .ok (.istore 5, 2) := by decide +kernel
theorem dX9_hash_40 : decode cX9_hash 40 = .ok (.iload 5, 2) := by decide +kernel
theorem dX9_hash_42 : decode cX9_hash 42 = .ok (.iload 4, 2) := by decide +kernel
theorem dX9_hash_44 : decode cX9_hash 44 = .ok (.if_icmp .ge 27, 3) := by decide +kernel
theorem dX9_hash_47 : decode cX9_hash 47 = .ok (.aload_n 3, 1) := by decide +kernel
theorem dX9_hash_48 : decode cX9_hash 48 = .ok (.iload 5, 2) := by decide +kernel
theorem dX9_hash_50 : decode cX9_hash 50 = .ok (.iaload, 1) := by decide +kernel
theorem dX9_hash_51 : decode cX9_hash 51 = .ok (.istore 6, 2) := by decide +kernel
theorem dX9_hash_53 : decode cX9_hash 53 = .ok (.iload_n 2, 1) := by decide +kernel
theorem dX9_hash_54 : decode cX9_hash 54 = .ok (.bipush 31, 2) := by decide +kernel
theorem dX9_hash_56 : decode cX9_hash 56 = .ok (.imul, 1) := by decide +kernel
theorem dX9_hash_57 : decode cX9_hash 57 = .ok (.aload_n 0, 1) := by decide +kernel
theorem dX9_hash_58 : decode cX9_hash 58 = .ok (.iload 6, 2) := by decide +kernel
theorem dX9_hash_60 : decode cX9_hash 60 = .ok (.invokevirtual 40, 3) := by decide +kernel
theorem dX9_hash_63 : decode cX9_hash 63 = .ok (.iadd, 1) := by decide +kernel
theorem dX9_hash_64 : decode cX9_hash 64 = .ok (.istore_n 2, 1) := by decide +kernel
theorem dX9_hash_65 : decode cX9_hash 65 = .ok (.iinc 5 1, 3) := by decide +kernel
theorem dX9_hash_68 : decode cX9_hash 68 = .ok (.goto (-28), 3) := by decide +kernel
theorem dX9_hash_71 : decode cX9_hash 71 = .ok (.iload_n 2, 1) := by decide +kernel
theorem dX9_hash_72 : decode cX9_hash 72 = .ok (.bipush 31, 2) := by decide +kernel
theorem dX9_hash_74 : decode cX9_hash 74 = .ok (.imul, 1) := by decide +kernel
theorem dX9_hash_75 : decode cX9_hash 75 = .ok (.aload_n 0, 1) := by decide +kernel
theorem dX9_hash_76 : decode cX9_hash 76 = .ok (.iload_n 1, 1) := by decide +kernel
theorem dX9_hash_77 : decode cX9_hash 77 = .ok (.invokevirtual 32, 3) := by decide +kernel
theorem dX9_hash_80 : decode cX9_hash 80 = .ok (.iadd, 1) := by decide +kernel
theorem dX9_hash_81 : decode cX9_hash 81 = .ok (.ireturn, 1) := by decide +kernel
set_option maxRecDepth 20000 in
theorem ggX10_areLike_X9_end : GoodIn wsX10_areLike wsX9_end := goodIn_r _ [4, 5, 6, 7, 8, 9, 10, 11] (by decide +kernel) (by decide +kernel)
set_option maxRecDepth 20000 in
theorem gX10_areLike_X9_end_n1 : GoodIn wsX10_areLike (wsX9_end) := ggX10_areLike_X9_end
theorem dX10_areLike_0 : decode cX10_areLike 0 = .ok (.aload_n 0, 1) := by decide +kernel
theorem dX10_areLike_1 : decode cX10_areLike 1 = .ok (.iload_n 1, 1) := by decide +kernel
theorem dX10_areLike_2 : decode cX10_areLike 2 = .ok (.invokevirtual 1, 3) := by decide +kernel
theorem dX10_areLike_5 : decode cX10_areLike 5 = .ok (.iload_n 1, 1) := by decide +kernel
theorem dX10_areLike_6 : decode cX10_areLike 6 = .ok (.isub, 1) := by decide +kernel
theorem dX10_areLike_7 : decode cX10_areLike 7 = .ok (.istore 5, 2) := by decide +kernel
theorem dX10_areLike_9 : decode cX10_areLike 9 = .ok (.iload 5, 2) := by decide +kernel
theorem dX10_areLike_11 : decode cX10_areLike 11 = .ok (.aload_n 2, 1) := by decide +kernel
theorem dX10_areLike_12 : decode cX10_areLike 12 = .ok (.iload_n 3, 1) := by decide +kernel
theorem dX10_areLike_13 : decode cX10_areLike 13 = .ok (.invokevirtual 1, 3) := by decide +kernel
theorem dX10_areLike_16 : decode cX10_areLike 16 = .ok (.iload_n 3, 1) := by decide +kernel
theorem dX10_areLike_17 : decode cX10_areLike 17 = .ok (.isub, 1) := by decide +kernel
theorem dX10_areLike_18 : decode cX10_areLike 18 = .ok (.if_icmp .eq 5, 3) := by decide +kernel
theorem dX10_areLike_21 : decode cX10_areLike 21 = .ok (.iconst 0, 1) := by decide +kernel
theorem dX10_areLike_22 : decode cX10_areLike 22 = .ok (.ireturn, 1) := by decide +kernel
theorem dX10_areLike_23 : decode cX10_areLike 23 = .ok (.iconst 0, 1) := by decide +kernel
theorem dX10_areLike_24 : decode cX10_areLike 24 = .ok (.istore 6, 2) := by decide +kernel
theorem dX10_areLike_26 : decode cX10_areLike 26 = .ok (.iload 6, 2) := by decide +kernel
theorem dX10_areLike_28 : decode cX10_areLike 28 = .ok (.iload 5, 2) := by decide +kernel
theorem dX10_areLike_30 : decode cX10_areLike 30 = .ok (.if_icmp .ge 111, 3) := by decide +kernel
theorem dX10_areLike_33 : decode cX10_areLike 33 = .ok (.iload 6, 2) := by decide +kernel
theorem dX10_areLike_35 : decode cX10_areLike 35 = .ok (.ifCond .le 30, 3) := by decide +kernel
theorem dX10_areLike_38 : decode cX10_areLike 38 = .ok (.aload_n 0, 1) := by decide +kernel
theorem dX10_areLike_39 : decode cX10_areLike 39 = .ok (.getfield 7, 3) := by decide +kernel
theorem dX10_areLike_42 : decode cX10_areLike 42 = .ok (.iload_n 1, 1) := by decide +kernel
theorem dX10_areLike_43 : decode cX10_areLike 43 = .ok (.iload 6, 2) := by decide +kernel
theorem dX10_areLike_45 : decode cX10_areLike 45 = .ok (.iadd, 1) := by decide +kernel
theorem dX10_areLike_46 : decode cX10_areLike 46 = .ok (.iaload, 1) := by decide +kernel
theorem dX10_areLike_47 : decode cX10_areLike 47 = .ok (.iload_n 1, 1) := by decide +kernel
theorem dX10_areLike_48 : decode cX10_areLike 48 = .ok (.isub, 1) := by decide +kernel
theorem dX10_areLike_49 : decode cX10_areLike 49 = .ok (.aload_n 2, 1) := by decide +kernel
theorem dX10_areLike_50 : decode cX10_areLike 50 = .ok (.getfield 7, 3) := by decide +kernel
theorem dX10_areLike_53 : decode cX10_areLike 53 = .ok (.iload_n 3, 1) := by decide +kernel
theorem dX10_areLike_54 : decode cX10_areLike 54 = .ok (.iload 6, 2) := by decide +kernel
theorem dX10_areLike_56 : decode cX10_areLike 56 = .ok (.iadd, 1) := by decide +kernel
theorem dX10_areLike_57 : decode cX10_areLike 57 = .ok (.iaload, 1) := by decide +kernel
theorem dX10_areLike_58 : decode cX10_areLike 58 = .ok (.iload_n 3, 1) := by decide +kernel
theorem dX10_areLike_59 : decode cX10_areLike 59 = .ok (.isub, 1) := by decide +kernel
theorem dX10_areLike_60 : decode cX10_areLike 60 = .ok (.if_icmp .eq 5, 3) := by decide +kernel
theorem dX10_areLike_63 : decode cX10_areLike 63 = .ok (.iconst 0, 1) := by decide +kernel
theorem dX10_areLike_64 : decode cX10_areLike 64 = .ok (.ireturn, 1) := by decide +kernel
theorem dX10_areLike_65 : decode cX10_areLike 65 = .ok (.iload 4, 2) := by decide +kernel
theorem dX10_areLike_67 : decode cX10_areLike 67 = .ok (.ifCond .ne 68, 3) := by decide +kernel
theorem dX10_areLike_70 : decode cX10_areLike 70 = .ok (.aload_n 0, 1) := by decide +kernel
theorem dX10_areLike_71 : decode cX10_areLike 71 = .ok (.getfield 11, 3) := by decide +kernel
theorem dX10_areLike_74 : decode cX10_areLike 74 = .ok (.iload_n 1, 1) := by decide +kernel
theorem dX10_areLike_75 : decode cX10_areLike 75 = .ok (.iload 6, 2) := by decide +kernel
theorem dX10_areLike_77 : decode cX10_areLike 77 = .ok (.iadd, 1) := by decide +kernel
theorem dX10_areLike_78 : decode cX10_areLike 78 = .ok (.iaload, 1) := by decide +kernel
theorem dX10_areLike_79 : decode cX10_areLike 79 = .ok (.aload_n 2, 1) := by decide +kernel
theorem dX10_areLike_80 : decode cX10_areLike 80 = .ok (.getfield 11, 3) := by decide +kernel
theorem dX10_areLike_83 : decode cX10_areLike 83 = .ok (.iload_n 3, 1) := by decide +kernel
theorem dX10_areLike_84 : decode cX10_areLike 84 = .ok (.iload 6, 2) := by decide +kernel
theorem dX10_areLike_86 : decode cX10_areLike 86 = .ok (.iadd, 1) := by decide +kernel
theorem dX10_areLike_87 : decode cX10_areLike 87 = .ok (.iaload, 1) := by decide +kernel
theorem dX10_areLike_88 : decode cX10_areLike 88 = .ok (.if_icmp .ne 45, 3) := by decide +kernel
theorem dX10_areLike_91 : decode cX10_areLike 91 = .ok (.aload_n 0, 1) := by decide +kernel
theorem dX10_areLike_92 : decode cX10_areLike 92 = .ok (.getfield 14, 3) := by decide +kernel
theorem dX10_areLike_95 : decode cX10_areLike 95 = .ok (.iload_n 1, 1) := by decide +kernel
theorem dX10_areLike_96 : decode cX10_areLike 96 = .ok (.iload 6, 2) := by decide +kernel
theorem dX10_areLike_98 : decode cX10_areLike 98 = .ok (.iadd, 1) := by decide +kernel
theorem dX10_areLike_99 : decode cX10_areLike 99 = .ok (.iaload, 1) := by decide +kernel
theorem dX10_areLike_100 : decode cX10_areLike 100 = .ok (.aload_n 2, 1) := by decide +kernel
theorem dX10_areLike_101 : decode cX10_areLike 101 = .ok (.getfield 14, 3) := by decide +kernel
theorem dX10_areLike_104 : decode cX10_areLike 104 = .ok (.iload_n 3, 1) := by decide +kernel
theorem dX10_areLike_105 : decode cX10_areLike 105 = .ok (.iload 6, 2) := by decide +kernel
theorem dX10_areLike_107 : decode cX10_areLike 107 = .ok (.iadd, 1) := by decide +kernel
theorem dX10_areLike_108 : decode cX10_areLike 108 = .ok (.iaload, 1) := by decide +kernel
theorem dX10_areLike_109 : decode cX10_areLike 109 = .ok (.if_icmp .ne 24, 3) := by decide +kernel
theorem dX10_areLike_112 : decode cX10_areLike 112 = .ok (.aload_n 0, 1) := by decide +kernel
theorem dX10_areLike_113 : decode cX10_areLike 113 = .ok (.getfield 17, 3) := by decide +kernel
theorem dX10_areLike_116 : decode cX10_areLike 116 = .ok (.iload_n 1, 1) := by decide +kernel
theorem dX10_areLike_117 : decode cX10_areLike 117 = .ok (.iload 6, 2) := by decide +kernel
theorem dX10_areLike_119 : decode cX10_areLike 119 = .ok (.iadd, 1) := by decide +kernel
theorem dX10_areLike_120 : decode cX10_areLike 120 = .ok (.iaload, 1) := by decide +kernel
theorem dX10_areLike_121 : decode cX10_areLike 121 = .ok (.aload_n 2, 1) := by decide +kernel
theorem dX10_areLike_122 : decode cX10_areLike 122 = .ok (.getfield 17, 3) := by decide +kernel
theorem dX10_areLike_125 : decode cX10_areLike 125 = .ok (.iload_n 3, 1) := by decide +kernel
theorem dX10_areLike_126 : decode cX10_areLike 126 = .ok (.iload 6, 2) := by decide +kernel
theorem dX10_areLike_128 : decode cX10_areLike 128 = .ok (.iadd, 1) := by decide +kernel
theorem dX10_areLike_129 : decode cX10_areLike 129 = .ok (.iaload, 1) := by decide +kernel
theorem dX10_areLike_130 : decode cX10_areLike 130 = .ok (.if_icmp .eq 5, 3) := by decide +kernel
theorem dX10_areLike_133 : decode cX10_areLike 133 = .ok (.iconst 0, 1) := by decide +kernel
theorem dX10_areLike_134 : decode cX10_areLike 134 = .ok (.ireturn, 1) := by decide +kernel
theorem dX10_areLike_135 : decode cX10_areLike 135 = .ok (.iinc 6 1, 3) := by decide +kernel
theorem dX10_areLike_138 : decode cX10_areLike 138 = .ok (.goto (-112), 3) := by decide +kernel
theorem dX10_areLike_141 : decode cX10_areLike 141 = .ok (.iconst 1, 1) := by decide +kernel
theorem dX10_areLike_142 : decode cX10_areLike 142 = .ok (.ireturn, 1) := by decide +kernel
set_option maxRecDepth 20000 in
theorem ggX10_init_X9_init : GoodIn wsX10_init wsX9_init := goodIn_r _ [32, 33, 2, 3, 14, 34, 35, 36, 37, 46, 47, 48, 49, 50] (by decide +kernel) (by decide +kernel)
set_option maxRecDepth 20000 in
theorem gX10_init_X9_init_n26 : GoodIn wsX10_init (wsX9_init) := ggX10_init_X9_init
set_option maxRecDepth 20000 in
theorem ggX10_init_X9_adds : GoodIn wsX10_init wsX9_adds := goodIn_r _ [40, 41, 42, 43, 44, 6, 45, 34, 35, 36, 37, 46, 47, 48, 49, 50] (by decide +kernel) (by decide +kernel)
set_option maxRecDepth 20000 in
theorem gX10_init_X9_adds_n101 : GoodIn wsX10_init (wsX9_adds) := ggX10_init_X9_adds
theorem dX10_init_0 : decode cX10_init 0 = .ok (.aload_n 0, 1) := by decide +kernel
theorem dX10_init_1 : decode cX10_init 1 = .ok (.invokespecial 20, 3) := by decide +kernel
theorem dX10_init_4 : decode cX10_init 4 = .ok (.aload_n 0, 1) := by decide +kernel
theorem dX10_init_5 : decode cX10_init 5 = .ok (.iconst 3, 1) := by decide +kernel
theorem dX10_init_6 : decode cX10_init 6 = .ok (.anewarray 2, 3) := by decide +kernel
theorem dX10_init_9 : decode cX10_init 9 = .ok (.dup, 1) := by decide +kernel
theorem dX10_init_10 : decode cX10_init 10 = .ok (.iconst 0, 1) := by decide +kernel
theorem dX10_init_11 : decode cX10_init 11 = .ok (.new 2, 3) := by decide +kernel
theorem dX10_init_14 : decode cX10_init 14 = .ok (.dup, 1) := by decide +kernel
theorem dX10_init_15 : decode cX10_init 15 = .ok (.invokespecial 26, 3) := by decide +kernel
theorem dX10_init_18 : decode cX10_init 18 = .ok (.aastore, 1) := by decide +kernel
theorem dX10_init_19 : decode cX10_init 19 = .ok (.dup, 1) := by decide +kernel
theorem dX10_init_20 : decode cX10_init 20 = .ok (.iconst 1, 1) := by decide +kernel
theorem dX10_init_21 : decode cX10_init 21 = .ok (.new 2, 3) := by decide +kernel
theorem dX10_init_24 : decode cX10_init 24 = .ok (.dup, 1) := by decide +kernel
theorem dX10_init_25 : decode cX10_init 25 = .ok (.invokespecial 26, 3) := by decide +kernel
theorem dX10_init_28 : decode cX10_init 28 = .ok (.aastore, 1) := by decide +kernel
theorem dX10_init_29 : decode cX10_init 29 = .ok (.dup, 1) := by decide +kernel
theorem dX10_init_30 : decode cX10_init 30 = .ok (.iconst 2, 1) := by decide +kernel
theorem dX10_init_31 : decode cX10_init 31 = .ok (.new 2, 3) := by decide +kernel
