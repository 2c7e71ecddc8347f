theorem dX7_copyTree_0 : decode cX7_copyTree 0 = .ok (.aload_n 0, 1) := by decide +kernel
theorem dX7_copyTree_1 : decode cX7_copyTree 1 = .ok (.iload_n 1, 1) := by decide +kernel
set_option maxRecDepth 20000 in
theorem ggX7_copyTree_X7_treeAt : GoodIn wsX7_copyTree wsX7_treeAt := goodIn_ca (goodIn_r _ [6, 7, 8, 9, 31, 32, 33, 34, 35, 36, 37, 38, 39, 40] (by decide +kernel) (by decide +kernel)) (goodIn_sub (fun _ h => List.mem_cons_of_mem _ (List.mem_append_right _ h)) (by decide +kernel))
set_option maxRecDepth 20000 in
theorem gX7_copyTree_X7_treeAt : GoodIn wsX7_copyTree (wsV RX7 83 RX7 yX7_treeAt wsX7_treeAt) := goodIn_app (goodIn_of _ (by decide +kernel)) ggX7_copyTree_X7_treeAt
theorem dX7_copyTree_2 : decode cX7_copyTree 2 = .ok (.invokevirtual 83, 3) := by decide +kernel
theorem dL_copyTree_0 : decode cL_copyTree 0 = .ok (.aload_n 3, 1) := by decide +kernel
theorem dL_copyTree_1 : decode cL_copyTree 1 = .ok (.iconst 0, 1) := by decide +kernel
theorem dL_copyTree_2 : decode cL_copyTree 2 = .ok (.aload_n 0, 1) := by decide +kernel
theorem dL_copyTree_3 : decode cL_copyTree 3 = .ok (.iload_n 1, 1) := by decide +kernel
theorem dL_copyTree_4 : decode cL_copyTree 4 = .ok (.iload_n 2, 1) := by decide +kernel
set_option maxRecDepth 20000 in
theorem ggL_copyTree_X7_copyTree : GoodIn wsL_copyTree wsX7_copyTree := goodIn_ca (goodIn_r _ [6, 7, 8, 9, 10, 5, 11, 12, 13, 14, 15, 16, 17, 18, 19, 20, 21, 22, 23, 24, 25, 26, 27, 28, 29, 30, 31, 32, 33, 34, 35, 36, 37, 38, 39, 40, 41, 42, 43, 44, 45] (by decide +kernel) (by decide +kernel)) (goodIn_sub (fun _ h => List.mem_cons_of_mem _ (List.mem_append_right _ h)) (by decide +kernel))
set_option maxRecDepth 20000 in
theorem gL_copyTree_X7_copyTree : GoodIn wsL_copyTree (wsV RL 60 RX7 yX7_copyTree wsX7_copyTree) := goodIn_app (goodIn_of _ (by decide +kernel)) ggL_copyTree_X7_copyTree
theorem dL_copyTree_5 : decode cL_copyTree 5 = .ok (.invokevirtual 60, 3) := by decide +kernel
theorem dL_copyTree_13 : decode cL_copyTree 13 = .ok (.astore 4, 2) := by decide +kernel
theorem dL_copyTree_15 : decode cL_copyTree 15 = .ok (.iconst 1, 1) := by decide +kernel
theorem dL_copyTree_16 : decode cL_copyTree 16 = .ok (.ireturn, 1) := by decide +kernel
theorem dX10_areNone_0 : decode cX10_areNone 0 = .ok (.aload_n 0, 1) := by decide +kernel
theorem dX10_areNone_1 : decode cX10_areNone 1 = .ok (.iload_n 1, 1) := by decide +kernel
set_option maxRecDepth 20000 in
theorem ggX10_areNone_X10_isTree : GoodIn wsX10_areNone wsX10_isTree := goodIn_r _ [5, 6, 7, 4, 8] (by decide +kernel) (by decide +kernel)
set_option maxRecDepth 20000 in
theorem gX10_areNone_X10_isTree : GoodIn wsX10_areNone (va_wsS RX10 112 yX10_isTree wsX10_isTree) := goodIn_app (goodIn_of _ (by decide +kernel)) ggX10_areNone_X10_isTree
theorem dX10_areNone_2 : decode cX10_areNone 2 = .ok (.invokestatic 112, 3) := by decide +kernel
theorem dX10_areNone_5 : decode cX10_areNone 5 = .ok (.ifCond .eq 14, 3) := by decide +kernel
theorem dX10_areNone_19 : decode cX10_areNone 19 = .ok (.iconst 1, 1) := by decide +kernel
theorem dX10_areNone_20 : decode cX10_areNone 20 = .ok (.putfield 105, 3) := by decide +kernel
theorem dX10_areNone_23 : decode cX10_areNone 23 = .ok (.aload_n 0, 1) := by decide +kernel
theorem dX10_areNone_24 : decode cX10_areNone 24 = .ok (.getfield 105, 3) := by decide +kernel
theorem dX10_areNone_27 : decode cX10_areNone 27 = .ok (.ifCond .le 7, 3) := by decide +kernel
theorem dX10_areNone_30 : decode cX10_areNone 30 = .ok (.iconst 1, 1) := by decide +kernel
theorem dX10_areNone_31 : decode cX10_areNone 31 = .ok (.goto 4, 3) := by decide +kernel
theorem dX10_areNone_35 : decode cX10_areNone 35 = .ok (.ireturn, 1) := by decide +kernel
theorem dX10_copyTree_0 : decode cX10_copyTree 0 = .ok (.aload_n 0, 1) := by decide +kernel
theorem dX10_copyTree_1 : decode cX10_copyTree 1 = .ok (.iload_n 1, 1) := by decide +kernel
theorem dX10_copyTree_2 : decode cX10_copyTree 2 = .ok (.iload_n 2, 1) := by decide +kernel
set_option maxRecDepth 20000 in
theorem ggX10_copyTree_X10_areNone : GoodIn wsX10_copyTree wsX10_areNone := goodIn_r _ [6, 7, 8, 9, 5, 10, 11, 12, 13, 27, 28, 29, 30, 31, 32, 33, 34, 35, 36, 37, 38, 39, 40, 41, 42, 43, 44, 45, 46, 47, 48, 49, 50, 51, 52, 53, 54, 55, 56, 57] (by decide +kernel) (by decide +kernel)
set_option maxRecDepth 20000 in
theorem gX10_copyTree_X10_areNone : GoodIn wsX10_copyTree (wsV RX10 217 RX10 yX10_areNone wsX10_areNone) := goodIn_app (goodIn_of _ (by decide +kernel)) ggX10_copyTree_X10_areNone
theorem dX10_copyTree_3 : decode cX10_copyTree 3 = .ok (.invokevirtual 217, 3) := by decide +kernel
theorem dX10_copyTree_6 : decode cX10_copyTree 6 = .ok (.ifCond .eq 5, 3) := by decide +kernel
theorem dX10_copyTree_9 : decode cX10_copyTree 9 = .ok (.iconst 0, 1) := by decide +kernel
theorem dX10_copyTree_10 : decode cX10_copyTree 10 = .ok (.ireturn, 1) := by decide +kernel
theorem dX7_copyTree_5 : decode cX7_copyTree 5 = .ok (.astore_n 3, 1) := by decide +kernel
theorem dX7_copyTree_6 : decode cX7_copyTree 6 = .ok (.aload_n 0, 1) := by decide +kernel
theorem dX7_copyTree_7 : decode cX7_copyTree 7 = .ok (.iload_n 2, 1) := by decide +kernel
theorem dX7_copyTree_8 : decode cX7_copyTree 8 = .ok (.invokevirtual 83, 3) := by decide +kernel
theorem dX10_areNone_8 : decode cX10_areNone 8 = .ok (.iload_n 2, 1) := by decide +kernel
theorem dX10_areNone_9 : decode cX10_areNone 9 = .ok (.invokestatic 112, 3) := by decide +kernel
theorem dX10_areNone_12 : decode cX10_areNone 12 = .ok (.ifCond .eq 7, 3) := by decide +kernel
theorem dX5_copyFrom_0 : decode cX5_copyFrom 0 = .ok (.aload_n 1, 1) := by decide +kernel
theorem dX5_copyFrom_1 : decode cX5_copyFrom 1 = .ok (.getfield 9, 3) := by decide +kernel
theorem dX5_copyFrom_4 : decode cX5_copyFrom 4 = .ok (.iconst 0, 1) := by decide +kernel
theorem dX5_copyFrom_5 : decode cX5_copyFrom 5 = .ok (.aload_n 0, 1) := by decide +kernel
theorem dX5_copyFrom_6 : decode cX5_copyFrom 6 = .ok (.getfield 9, 3) := by decide +kernel
theorem dX5_copyFrom_9 : decode cX5_copyFrom 9 = .ok (.iconst 0, 1) := by decide +kernel
theorem dX5_copyFrom_10 : decode cX5_copyFrom 10 = .ok (.bipush 20, 2) := by decide +kernel
theorem dX5_copyFrom_12 : decode cX5_copyFrom 12 = .ok (.invokestatic 35, 3) := by decide +kernel
theorem dX5_copyFrom_15 : decode cX5_copyFrom 15 = .ok (.aload_n 1, 1) := by decide +kernel
theorem dX5_copyFrom_16 : decode cX5_copyFrom 16 = .ok (.getfield 15, 3) := by decide +kernel
theorem dX5_copyFrom_19 : decode cX5_copyFrom 19 = .ok (.iconst 0, 1) := by decide +kernel
theorem dX5_copyFrom_20 : decode cX5_copyFrom 20 = .ok (.aload_n 0, 1) := by decide +kernel
theorem dX5_copyFrom_21 : decode cX5_copyFrom 21 = .ok (.getfield 15, 3) := by decide +kernel
theorem dX5_copyFrom_24 : decode cX5_copyFrom 24 = .ok (.iconst 0, 1) := by decide +kernel
theorem dX5_copyFrom_25 : decode cX5_copyFrom 25 = .ok (.bipush 20, 2) := by decide +kernel
theorem dX5_copyFrom_27 : decode cX5_copyFrom 27 = .ok (.invokestatic 35, 3) := by decide +kernel
theorem dX5_copyFrom_30 : decode cX5_copyFrom 30 = .ok (.aload_n 1, 1) := by decide +kernel
theorem dX5_copyFrom_31 : decode cX5_copyFrom 31 = .ok (.getfield 19, 3) := by decide +kernel
theorem dX5_copyFrom_34 : decode cX5_copyFrom 34 = .ok (.iconst 0, 1) := by decide +kernel
theorem dX5_copyFrom_35 : decode cX5_copyFrom 35 = .ok (.aload_n 0, 1) := by decide +kernel
theorem dX5_copyFrom_36 : decode cX5_copyFrom 36 = .ok (.getfield 19, 3) := by decide +kernel
theorem dX5_copyFrom_39 : decode cX5_copyFrom 39 = .ok (.iconst 0, 1) := by decide +kernel
theorem dX5_copyFrom_40 : decode cX5_copyFrom 40 = .ok (.bipush 20, 2) := by decide +kernel
theorem dX5_copyFrom_42 : decode cX5_copyFrom 42 = .ok (.invokestatic 35, 3) := by decide +kernel
theorem dX5_copyFrom_45 : decode cX5_copyFrom 45 = .ok (.aload_n 1, 1) := by decide +kernel
theorem dX5_copyFrom_46 : decode cX5_copyFrom 46 = .ok (.getfield 22, 3) := by decide +kernel
theorem dX5_copyFrom_49 : decode cX5_copyFrom 49 = .ok (.iconst 0, 1) := by decide +kernel
theorem dX5_copyFrom_50 : decode cX5_copyFrom 50 = .ok (.aload_n 0, 1) := by decide +kernel
theorem dX5_copyFrom_51 : decode cX5_copyFrom 51 = .ok (.getfield 22, 3) := by decide +kernel
theorem dX5_copyFrom_54 : decode cX5_copyFrom 54 = .ok (.iconst 0, 1) := by decide +kernel
theorem dX5_copyFrom_55 : decode cX5_copyFrom 55 = .ok (.bipush 20, 2) := by decide +kernel
theorem dX5_copyFrom_57 : decode cX5_copyFrom 57 = .ok (.invokestatic 35, 3) := by decide +kernel
theorem dX5_copyFrom_60 : decode cX5_copyFrom 60 = .ok (.aload_n 0, 1) := by decide +kernel
theorem dX5_copyFrom_61 : decode cX5_copyFrom 61 = .ok (.aload_n 1, 1) := by decide +kernel
theorem dX5_copyFrom_62 : decode cX5_copyFrom 62 = .ok (.getfield 31, 3) := by decide +kernel
theorem dX5_copyFrom_65 : decode cX5_copyFrom 65 = .ok (.putfield 31, 3) := by decide +kernel
theorem dX5_copyFrom_68 : decode cX5_copyFrom 68 = .ok (.return_, 1) := by decide +kernel
theorem dX7_copyTree_11 : decode cX7_copyTree 11 = .ok (.astore 4, 2) := by decide +kernel
theorem dX7_copyTree_13 : decode cX7_copyTree 13 = .ok (.aload 4, 2) := by decide +kernel
theorem dX7_copyTree_15 : decode cX7_copyTree 15 = .ok (.aload_n 3, 1) := by decide +kernel
set_option maxRecDepth 20000 in
theorem ggX7_copyTree_X5_copyFrom : GoodIn wsX7_copyTree wsX5_copyFrom := goodIn_r _ [14, 15, 16, 17, 18, 19, 20, 21, 22, 23, 24, 25, 26, 27, 28, 29, 30] (by decide +kernel) (by decide +kernel)
set_option maxRecDepth 20000 in
theorem gX7_copyTree_X5_copyFrom : GoodIn wsX7_copyTree (wsV RX7 103 RX5 yX5_copyFrom wsX5_copyFrom) := goodIn_app (goodIn_of _ (by decide +kernel)) ggX7_copyTree_X5_copyFrom
theorem dX7_copyTree_16 : decode cX7_copyTree 16 = .ok (.invokevirtual 103, 3) := by decide +kernel
theorem dX7_copyTree_19 : decode cX7_copyTree 19 = .ok (.aload 4, 2) := by decide +kernel
theorem dX7_copyTree_21 : decode cX7_copyTree 21 = .ok (.getfield 107, 3) := by decide +kernel
theorem dX7_copyTree_24 : decode cX7_copyTree 24 = .ok (.ireturn, 1) := by decide +kernel
theorem dL_copyTree_8 : decode cL_copyTree 8 = .ok (.i2l, 1) := by decide +kernel
theorem dL_copyTree_9 : decode cL_copyTree 9 = .ok (.lastore, 1) := by decide +kernel
theorem dL_copyTree_10 : decode cL_copyTree 10 = .ok (.goto 7, 3) := by decide +kernel
theorem dL_copyTree_17 : decode cL_copyTree 17 = .ok (.iconst 0, 1) := by decide +kernel
theorem dL_copyTree_18 : decode cL_copyTree 18 = .ok (.ireturn, 1) := by decide +kernel
theorem dX10_areNone_15 : decode cX10_areNone 15 = .ok (.iconst 0, 1) := by decide +kernel
theorem dX10_areNone_16 : decode cX10_areNone 16 = .ok (.goto 4, 3) := by decide +kernel
theorem dX10_areNone_34 : decode cX10_areNone 34 = .ok (.iconst 0, 1) := by decide +kernel
theorem dX9_copies_0 : decode cX9_copies 0 = .ok (.aload_n 0, 1) := by decide +kernel
theorem dX9_copies_1 : decode cX9_copies 1 = .ok (.aload_n 1, 1) := by decide +kernel
theorem dX9_copies_2 : decode cX9_copies 2 = .ok (.getfield 24, 3) := by decide +kernel
theorem dX9_copies_5 : decode cX9_copies 5 = .ok (.putfield 24, 3) := by decide +kernel
theorem dX9_copies_8 : decode cX9_copies 8 = .ok (.iconst 0, 1) := by decide +kernel
theorem dX9_copies_9 : decode cX9_copies 9 = .ok (.istore_n 2, 1) := by decide +kernel
theorem dX9_copies_10 : decode cX9_copies 10 = .ok (.iload_n 2, 1) := by decide +kernel
theorem dX9_copies_11 : decode cX9_copies 11 = .ok (.aload_n 0, 1) := by decide +kernel
theorem dX9_copies_12 : decode cX9_copies 12 = .ok (.getfield 24, 3) := by decide +kernel
theorem dX9_copies_15 : decode cX9_copies 15 = .ok (.if_icmp .ge 38, 3) := by decide +kernel
theorem dX9_copies_18 : decode cX9_copies 18 = .ok (.aload_n 0, 1) := by decide +kernel
theorem dX9_copies_19 : decode cX9_copies 19 = .ok (.iload_n 2, 1) := by decide +kernel
theorem dX9_copies_20 : decode cX9_copies 20 = .ok (.aload_n 1, 1) := by decide +kernel
theorem dX9_copies_21 : decode cX9_copies 21 = .ok (.getfield 9, 3) := by decide +kernel
theorem dX9_copies_24 : decode cX9_copies 24 = .ok (.iload_n 2, 1) := by decide +kernel
theorem dX9_copies_25 : decode cX9_copies 25 = .ok (.iaload, 1) := by decide +kernel
theorem dX9_copies_26 : decode cX9_copies 26 = .ok (.aload_n 1, 1) := by decide +kernel
theorem dX9_copies_27 : decode cX9_copies 27 = .ok (.getfield 15, 3) := by decide +kernel
theorem dX9_copies_30 : decode cX9_copies 30 = .ok (.iload_n 2, 1) := by decide +kernel
theorem dX9_copies_31 : decode cX9_copies 31 = .ok (.iaload, 1) := by decide +kernel
theorem dX9_copies_32 : decode cX9_copies 32 = .ok (.aload_n 1, 1) := by decide +kernel
theorem dX9_copies_33 : decode cX9_copies 33 = .ok (.getfield 18, 3) := by decide +kernel
theorem dX9_copies_36 : decode cX9_copies 36 = .ok (.iload_n 2, 1) := by decide +kernel
theorem dX9_copies_37 : decode cX9_copies 37 = .ok (.iaload, 1) := by decide +kernel
theorem dX9_copies_38 : decode cX9_copies 38 = .ok (.aload_n 1, 1) := by decide +kernel
theorem dX9_copies_39 : decode cX9_copies 39 = .ok (.getfield 21, 3) := by decide +kernel
theorem dX9_copies_42 : decode cX9_copies 42 = .ok (.iload_n 2, 1) := by decide +kernel
theorem dX9_copies_43 : decode cX9_copies 43 = .ok (.iaload, 1) := by decide +kernel
set_option maxRecDepth 20000 in
theorem ggX9_copies_X9_sets : GoodIn wsX9_copies wsX9_sets := goodIn_r _ [10, 2, 3, 4, 5, 11, 12, 13, 14, 15] (by decide +kernel) (by decide +kernel)
set_option maxRecDepth 20000 in
theorem gX9_copies_X9_sets : GoodIn wsX9_copies (wsV RX9 28 RX9 yX9_sets wsX9_sets) := goodIn_app (goodIn_of _ (by decide +kernel)) ggX9_copies_X9_sets
theorem dX9_copies_44 : decode cX9_copies 44 = .ok (.invokevirtual 28, 3) := by decide +kernel
theorem dX9_copies_47 : decode cX9_copies 47 = .ok (.iinc 2 1, 3) := by decide +kernel
theorem dX9_copies_50 : decode cX9_copies 50 = .ok (.goto (-40), 3) := by decide +kernel
theorem dX9_copies_53 : decode cX9_copies 53 = .ok (.return_, 1) := by decide +kernel
theorem dX10_copyTree_11 : decode cX10_copyTree 11 = .ok (.aload_n 0, 1) := by decide +kernel
theorem dX10_copyTree_12 : decode cX10_copyTree 12 = .ok (.getfield 27, 3) := by decide +kernel
theorem dX10_copyTree_15 : decode cX10_copyTree 15 = .ok (.iload_n 2, 1) := by decide +kernel
theorem dX10_copyTree_16 : decode cX10_copyTree 16 = .ok (.aaload, 1) := by decide +kernel
theorem dX10_copyTree_17 : decode cX10_copyTree 17 = .ok (.aload_n 0, 1) := by decide +kernel
theorem dX10_copyTree_18 : decode cX10_copyTree 18 = .ok (.getfield 27, 3) := by decide +kernel
theorem dX10_copyTree_21 : decode cX10_copyTree 21 = .ok (.iload_n 1, 1) := by decide +kernel
theorem dX10_copyTree_22 : decode cX10_copyTree 22 = .ok (.aaload, 1) := by decide +kernel
set_option maxRecDepth 20000 in
theorem ggX10_copyTree_X9_copies : GoodIn wsX10_copyTree wsX9_copies := goodIn_r _ [17, 18, 19, 20, 21, 22, 23, 24, 25, 15, 26, 58, 59, 60, 61, 62] (by decide +kernel) (by decide +kernel)
set_option maxRecDepth 20000 in
theorem gX10_copyTree_X9_copies_n157 : GoodIn wsX10_copyTree (wsX9_copies) := ggX10_copyTree_X9_copies
theorem dX10_copyTree_23 : decode cX10_copyTree 23 = .ok (.invokevirtual 157, 3) := by decide +kernel
theorem dX10_copyTree_26 : decode cX10_copyTree 26 = .ok (.aload_n 0, 1) := by decide +kernel
theorem dX10_copyTree_27 : decode cX10_copyTree 27 = .ok (.getfield 27, 3) := by decide +kernel
theorem dX10_copyTree_30 : decode cX10_copyTree 30 = .ok (.iload_n 1, 1) := by decide +kernel
theorem dX10_copyTree_31 : decode cX10_copyTree 31 = .ok (.aaload, 1) := by decide +kernel
theorem dX10_copyTree_32 : decode cX10_copyTree 32 = .ok (.getfield 116, 3) := by decide +kernel
theorem dX10_copyTree_35 : decode cX10_copyTree 35 = .ok (.ireturn, 1) := by decide +kernel
theorem dL_law_934 : decode cL_law 934 = .ok (.aload_n 1, 1) := by decide +kernel
theorem dL_law_935 : decode cL_law 935 = .ok (.aload_n 0, 1) := by decide +kernel
theorem dL_law_936 : decode cL_law 936 = .ok (.iload 5, 2) := by decide +kernel
theorem dL_law_938 : decode cL_law 938 = .ok (.iconst 1, 1) := by decide +kernel
theorem dL_law_939 : decode cL_law 939 = .ok (.iadd, 1) := by decide +kernel
theorem dL_law_940 : decode cL_law 940 = .ok (.iaload, 1) := by decide +kernel
theorem dL_law_941 : decode cL_law 941 = .ok (.aload_n 0, 1) := by decide +kernel
theorem dL_law_942 : decode cL_law 942 = .ok (.iload 5, 2) := by decide +kernel
theorem dL_law_944 : decode cL_law 944 = .ok (.iconst 2, 1) := by decide +kernel
theorem dL_law_945 : decode cL_law 945 = .ok (.iadd, 1) := by decide +kernel
theorem dL_law_946 : decode cL_law 946 = .ok (.iaload, 1) := by decide +kernel
theorem dL_law_947 : decode cL_law 947 = .ok (.aload_n 3, 1) := by decide +kernel
set_option maxRecDepth 20000 in
theorem ggL_law_L_copyTree : GoodIn wsL_law wsL_copyTree := goodIn_ca (goodIn_r _ [764, 185, 765, 766, 767, 2, 768, 195, 196, 197, 198, 199, 200, 201, 15, 245, 246, 247, 44, 248, 56, 249, 250, 251, 252, 58, 59, 60, 63, 1530, 1531, 1532, 1533, 1534, 1535, 1536, 1458, 1459, 1460, 1461, 1462, 1463, 1464, 1465, 1466, 1467] (by decide +kernel) (by decide +kernel)) (goodIn_sub (fun _ h => List.mem_append_left _ (List.mem_append_left _ (List.mem_append_right _ h))) (by decide +kernel))
set_option maxRecDepth 20000 in
theorem gL_law_L_copyTree : GoodIn wsL_law (va_wsS RL 195 yL_copyTree wsL_copyTree) := goodIn_app (goodIn_of _ (by decide +kernel)) ggL_law_L_copyTree
theorem dL_law_948 : decode cL_law 948 = .ok (.invokestatic 195, 3) := by decide +kernel
theorem dL_law_951 : decode cL_law 951 = .ok (.istore 6, 2) := by decide +kernel
theorem dL_law_953 : decode cL_law 953 = .ok (.aload_n 2, 1) := by decide +kernel
theorem dL_law_954 : decode cL_law 954 = .ok (.aload_n 0, 1) := by decide +kernel
theorem dL_law_955 : decode cL_law 955 = .ok (.iload 5, 2) := by decide +kernel
theorem dL_law_957 : decode cL_law 957 = .ok (.iconst 1, 1) := by decide +kernel
theorem dL_law_958 : decode cL_law 958 = .ok (.iadd, 1) := by decide +kernel
theorem dL_law_959 : decode cL_law 959 = .ok (.iaload, 1) := by decide +kernel
theorem dL_law_960 : decode cL_law 960 = .ok (.aload_n 0, 1) := by decide +kernel
theorem dL_law_961 : decode cL_law 961 = .ok (.iload 5, 2) := by decide +kernel
theorem dL_law_963 : decode cL_law 963 = .ok (.iconst 2, 1) := by decide +kernel
theorem dL_law_964 : decode cL_law 964 = .ok (.iadd, 1) := by decide +kernel
theorem dL_law_965 : decode cL_law 965 = .ok (.iaload, 1) := by decide +kernel
set_option maxRecDepth 20000 in
theorem ggL_law_X10_copyTree : GoodIn wsL_law wsX10_copyTree := goodIn_r _ [772, 114, 773, 774, 775, 5, 776, 172, 259, 260, 261, 262, 263, 264, 288, 113, 289, 290, 146, 139, 140, 141, 142, 147, 148, 149, 150, 1468, 1469, 1470, 1471, 1472, 1473, 1474, 1475, 1476, 1477, 1478, 1479, 1480, 1481, 1482, 1483, 1484, 1485, 1486, 1487, 1488, 1489, 1490, 1491, 1492, 1493, 1494, 1495, 1496, 1497, 1498, 1537, 1538, 1539, 1540, 1541] (by decide +kernel) (by decide +kernel)
set_option maxRecDepth 20000 in
theorem gL_law_X10_copyTree : GoodIn wsL_law (wsV RL 197 RX10 yX10_copyTree wsX10_copyTree) := goodIn_app (goodIn_of _ (by decide +kernel)) ggL_law_X10_copyTree
theorem dL_law_966 : decode cL_law 966 = .ok (.invokevirtual 197, 3) := by decide +kernel
theorem dL_law_969 : decode cL_law 969 = .ok (.istore 7, 2) := by decide +kernel
theorem dL_law_971 : decode cL_law 971 = .ok (.aload_n 2, 1) := by decide +kernel
theorem dL_law_972 : decode cL_law 972 = .ok (.invokevirtual 156, 3) := by decide +kernel
theorem dL_law_975 : decode cL_law 975 = .ok (.iload 6, 2) := by decide +kernel
theorem dL_law_977 : decode cL_law 977 = .ok (.if_icmp .eq 5, 3) := by decide +kernel
theorem dL_law_982 : decode cL_law 982 = .ok (.iload 6, 2) := by decide +kernel
theorem dL_law_984 : decode cL_law 984 = .ok (.ifCond .ne 15, 3) := by decide +kernel
theorem dL_law_999 : decode cL_law 999 = .ok (.goto 1651, 3) := by decide +kernel
theorem dL_law_987 : decode cL_law 987 = .ok (.aload_n 3, 1) := by decide +kernel
theorem dL_law_988 : decode cL_law 988 = .ok (.iconst 0, 1) := by decide +kernel
theorem dL_law_989 : decode cL_law 989 = .ok (.laload, 1) := by decide +kernel
theorem dL_law_990 : decode cL_law 990 = .ok (.iload 7, 2) := by decide +kernel
theorem dL_law_992 : decode cL_law 992 = .ok (.i2l, 1) := by decide +kernel
theorem dL_law_993 : decode cL_law 993 = .ok (.lcmp, 1) := by decide +kernel
theorem dL_law_994 : decode cL_law 994 = .ok (.ifCond .eq 5, 3) := by decide +kernel
variable {l : Launch} {N0 : Nat} {D : va_G} {cI cC cL cD cII cTr cTm cIt cB : ClassId} {F : Nat → Option va_E} {ql : Nat → Nat}
theorem k446_X7_copyTree {n : Nat} {a1 : Int32} {a2 : Int32} (g_a1_le_m1 : a1 ≤ (-1)) (hst : l.stackTraces = false) (hn : N0 + 231 ≤ n) (h0 : F N0 = some (.inr (9, [.ref (N0 + 1), .ref (N0 + 2), .ref (N0 + 11), .ref (N0 + 13), .ref (N0 + 63), .ref (N0 + 65), .ref (N0 + 85), .int (-1), .int (-1), .int 32]))) : vx_Met l yX7_copyTree wsX7_copyTree ({ frames := 7, cells := 1, slots := 6, locals := 103 }) (va_Pc [.ref N0, .int a1, .int a2] (fP N0 D vwCl (fty cI cC cL cD cII cTr cTm cIt cB) (fen ql) F n)) (fNo N0 D vwCl (fty cI cC cL cD cII cTr cTm cIt cB) F n) (fXC N0 D vwCl (fty cI cC cL cD cII cTr cTm cIt cB) "java/lang/IndexOutOfBoundsException" F n) 1 6 (fA N0) := by
  refine fx_startX 5 rfl rfl (Nat.le_of_ble_eq_true rfl) ?_ rfl
  intro p e s m below meth c ls S htab hlocks hG hl
  have hl : lv_has ls 5 [(0, .ref N0), (1, .int a1), (2, .int a2)] := hl
  have lt_h0 := hG.1.lt h0
  refine lv_aload_n S.1 S.2.1 dX7_copyTree_0 rfl (lv_at hl 0 rfl) ?_
  refine lv_iload_n S.1 S.2.1 dX7_copyTree_1 rfl (lv_at hl 1 rfl) ?_
  refine fx_xV (As := [.int a1]) (rest := []) S hG (k18_X7_treeAt g_a1_le_m1 hst (by omega)) h0 rfl (cwV 1 S.2.2.2.2 gX7_copyTree_X7_treeAt rfl rfl rfl (by decide +kernel) ⟨Nat.le_of_ble_eq_true rfl, Nat.le_of_ble_eq_true rfl⟩) rfl hl.1 rfl (Nat.le_of_ble_eq_true rfl) dX7_copyTree_2 ⟨Nat.le_of_ble_eq_true rfl, Nat.le_of_ble_eq_true rfl⟩ (fun ceq_1 q_1 H locs n_2 hn_2 hG h1q_1 h2q_1 h3q_1 => ?_)
  exact fx_out htab hlocks hG (by omega) h1q_1 h2q_1 h3q_1 (by decide) (by decide)
theorem k447_L_copyTree {n : Nat} {a1 : Int32} {a2 : Int32} (g_a1_le_m1 : a1 ≤ (-1)) (hst : l.stackTraces = false) (hn : N0 + 231 ≤ n) (h0 : F N0 = some (.inr (9, [.ref (N0 + 1), .ref (N0 + 2), .ref (N0 + 11), .ref (N0 + 13), .ref (N0 + 63), .ref (N0 + 65), .ref (N0 + 85), .int (-1), .int (-1), .int 32]))) : Met l yL_copyTree wsL_copyTree ({ frames := 8, cells := 1, slots := 6, locals := 127 }) (va_Pc [.ref N0, .int a1, .int a2, .ref (N0 + 229)] (fP N0 D vwCl (fty cI cC cL cD cII cTr cTm cIt cB) (fen ql) F n)) (fQi N0 D vwCl (fty cI cC cL cD cII cTr cTm cIt cB) (fun (r : Int32) (u : Nat) => r = 1 ∧ n ≤ u) (fun _ => F) (fun u => u)) 1 6 (fA N0) := by
  refine fx_startW (hh := [(0, 10, 13, 19)]) 5 rfl rfl (Nat.le_of_ble_eq_true rfl) ?_ rfl
  intro p e s m below meth c ls S htab hr hlocks hG hl
  have hl : lv_has ls 5 [(0, .ref N0), (1, .int a1), (2, .int a2), (3, .ref (N0 + 229))] := hl
  have lt_h0 := hG.1.lt h0
  refine lv_aload_n S.1 S.2.1 dL_copyTree_0 rfl (lv_at hl 3 rfl) ?_
  refine lv_iconst (v := 0) S.1 S.2.1 dL_copyTree_1 (by decide) ?_
  refine lv_aload_n S.1 S.2.1 dL_copyTree_2 rfl (lv_at hl 0 rfl) ?_
  refine lv_iload_n S.1 S.2.1 dL_copyTree_3 rfl (lv_at hl 1 rfl) ?_
  refine lv_iload_n S.1 S.2.1 dL_copyTree_4 rfl (lv_at hl 2 rfl) ?_
  refine fx_xV (As := [.int a1, .int a2]) (rest := [.int 0, .ref (N0 + 229)]) S hG (k446_X7_copyTree g_a1_le_m1 hst (by omega) h0) h0 rfl (cwV 2 S.2.2.2.2 gL_copyTree_X7_copyTree rfl rfl rfl (by decide +kernel) ⟨Nat.le_of_ble_eq_true rfl, Nat.le_of_ble_eq_true rfl⟩) rfl hl.1 rfl (Nat.le_of_ble_eq_true rfl) dL_copyTree_5 ⟨Nat.le_of_ble_eq_true rfl, Nat.le_of_ble_eq_true rfl⟩ (fun ceq_1 q_1 H locs n_2 hn_2 hG h1q_1 h2q_1 h3q_1 => ?_)
  refine fx_catch (hh := [(0, 10, 13, 19)]) S htab hG h1q_1 h2q_1 h3q_1 [] ⟨0, 10, 13, 19⟩ [] rfl [] (fun z hz => absurd hz List.not_mem_nil) (by decide) (by decide) (by decide +kernel) (List.mem_of_getElem? (i := 2) rfl) ?_
  refine lv_astore (lv' := [(4, .ref q_1), (0, .ref N0), (1, .int a1), (2, .int a2), (3, .ref (N0 + 229))]) S.1 S.2.1 dL_copyTree_13 hl (by decide) rfl (fun ls hl => ?_)
  refine lv_iconst (v := 1) S.1 S.2.1 dL_copyTree_15 (by decide) ?_
  exact fx_iret S hr hlocks n_2 hG (⟨rfl, hn_2⟩) dL_copyTree_16
theorem i_X10_areNone_X10 : ∀ w ∈ u_ws RX10 TX10 31, w ∈ wsX10_areNone := by decide +kernel
theorem k448_X10_areNone {n : Nat} {a1 : Int32} {a2 : Int32} (g_a1_le_m1 : a1 ≤ (-1)) (hn : N0 + 231 ≤ n) (h0 : F (N0 + 164) = some (.inr (12, [.ref (N0 + 165), .int 0, .ref (N0 + 181), .int 0, .int 0, .int 0, .int (-1), .ref (ql 24), .ref (N0 + 182), .ref (N0 + 187), .ref (N0 + 208), .ref (N0 + 209), .ref (N0 + 210), .ref (N0 + 211), .ref (N0 + 212), .int 0, .ref (N0 + 213), .ref (N0 + 218), .ref (N0 + 223), .ref (N0 + 224), .ref (N0 + 225), .ref (N0 + 226), .ref (N0 + 227), .int 0, .int 0, .ref (N0 + 228), .null, .int (-1), .int 0, .int 0, .int 0]))) : Met l yX10_areNone wsX10_areNone ({ frames := 2, cells := 0, slots := 0, locals := 42 }) (va_Pc [.ref (N0 + 164), .int a1, .int a2] (fP N0 D vwCl (fty cI cC cL cD cII cTr cTm cIt cB) (fen ql) F n)) (fQi N0 D vwCl (fty cI cC cL cD cII cTr cTm cIt cB) (fun (r : Int32) (_ : Unit) => r = 1) (fun _ => (fu F (N0 + 164) (.inr (12, [.ref (N0 + 165), .int 1, .ref (N0 + 181), .int 0, .int 0, .int 0, .int (-1), .ref (ql 24), .ref (N0 + 182), .ref (N0 + 187), .ref (N0 + 208), .ref (N0 + 209), .ref (N0 + 210), .ref (N0 + 211), .ref (N0 + 212), .int 0, .ref (N0 + 213), .ref (N0 + 218), .ref (N0 + 223), .ref (N0 + 224), .ref (N0 + 225), .ref (N0 + 226), .ref (N0 + 227), .int 0, .int 0, .ref (N0 + 228), .null, .int (-1), .int 0, .int 0, .int 0])))) (fun _ => n)) 0 0 (fA N0) := by
  refine fx_start 3 rfl rfl (Nat.le_of_ble_eq_true rfl) ?_ rfl
  intro p e s m below meth c ls S hr hlocks hin hG hl
  have hl : lv_has ls 3 [(0, .ref (N0 + 164)), (1, .int a1), (2, .int a2)] := hl
  have lt_h0 := hG.1.lt h0
  refine lv_aload_n S.1 S.2.1 dX10_areNone_0 rfl (lv_at hl 0 rfl) ?_
  refine lv_iload_n S.1 S.2.1 dX10_areNone_1 rfl (lv_at hl 1 rfl) ?_
  refine fx_cSi (As := [.int a1]) (rest := [.ref (N0 + 164)]) S hG (k22_X10_isTree g_a1_le_m1 (by omega)) (cwS 1 S.2.2.2.2 gX10_areNone_X10_isTree rfl rfl rfl (by decide +kernel) ⟨Nat.le_of_ble_eq_true rfl, Nat.le_of_ble_eq_true rfl⟩) rfl hl.1 rfl (Nat.le_of_ble_eq_true rfl) dX10_areNone_2 ⟨Nat.le_of_ble_eq_true rfl, Nat.le_of_ble_eq_true rfl⟩ (fun rv_1 _ H locs hp hG => ?_)
  subst rv_1
  refine lv_if_eq (tgt := 19) S.1 S.2.1 dX10_areNone_5 (by decide) (fun _ => ?_) (fun c => absurd (by decide) c)
  refine lv_iconst (v := 1) S.1 S.2.1 dX10_areNone_19 (by decide) ?_
  refine gx_put (C := RX10) (T := TX10) (N := 31) (ty := .int) (v := .int 1) (fs' := [.ref (N0 + 165), .int 1, .ref (N0 + 181), .int 0, .int 0, .int 0, .int (-1), .ref (ql 24), .ref (N0 + 182), .ref (N0 + 187), .ref (N0 + 208), .ref (N0 + 209), .ref (N0 + 210), .ref (N0 + 211), .ref (N0 + 212), .int 0, .ref (N0 + 213), .ref (N0 + 218), .ref (N0 + 223), .ref (N0 + 224), .ref (N0 + 225), .ref (N0 + 226), .ref (N0 + 227), .int 0, .int 0, .ref (N0 + 228), .null, .int (-1), .int 0, .int 0, .int 0]) S hG h0 i_X10_areNone_X10 rfl 1 (by decide) tyX10 tyX10_ok nmX10 (by decide +kernel) rfl (by decide +kernel) rfl rfl (Nat.le_of_ble_eq_true rfl) rfl dX10_areNone_20 (fun H locs hG => ?_)
  refine lv_aload_n S.1 S.2.1 dX10_areNone_23 rfl (lv_at hl 0 rfl) ?_
  refine gx_get (C := RX10) (T := TX10) (N := 31) S hG fu_s i_X10_areNone_X10 rfl 1 (by decide) (by decide +kernel) rfl dX10_areNone_24 ?_
  refine lv_if_le (tgt := 34) S.1 S.2.1 dX10_areNone_27 (by decide) (fun c => absurd c (by decide)) (fun _ => ?_)
  refine lv_iconst (v := 1) S.1 S.2.1 dX10_areNone_30 (by decide) ?_
  refine lv_goto (tgt := 35) S.1 S.2.1 dX10_areNone_31 (by decide) ?_
  exact fx_zret S hr (rfl) hlocks () hG (rfl) dX10_areNone_35
theorem k449_X10_copyTree {n : Nat} {a1 : Int32} {a2 : Int32} (g_a1_le_m1 : a1 ≤ (-1)) (hn : N0 + 231 ≤ n) (h0 : F (N0 + 164) = some (.inr (12, [.ref (N0 + 165), .int 0, .ref (N0 + 181), .int 0, .int 0, .int 0, .int (-1), .ref (ql 24), .ref (N0 + 182), .ref (N0 + 187), .ref (N0 + 208), .ref (N0 + 209), .ref (N0 + 210), .ref (N0 + 211), .ref (N0 + 212), .int 0, .ref (N0 + 213), .ref (N0 + 218), .ref (N0 + 223), .ref (N0 + 224), .ref (N0 + 225), .ref (N0 + 226), .ref (N0 + 227), .int 0, .int 0, .ref (N0 + 228), .null, .int (-1), .int 0, .int 0, .int 0]))) : Met l yX10_copyTree wsX10_copyTree ({ frames := 3, cells := 0, slots := 0, locals := 64 }) (va_Pc [.ref (N0 + 164), .int a1, .int a2] (fP N0 D vwCl (fty cI cC cL cD cII cTr cTm cIt cB) (fen ql) F n)) (fQi N0 D vwCl (fty cI cC cL cD cII cTr cTm cIt cB) (fun (r : Int32) (_ : Unit) => r = 0) (fun _ => (fu F (N0 + 164) (.inr (12, [.ref (N0 + 165), .int 1, .ref (N0 + 181), .int 0, .int 0, .int 0, .int (-1), .ref (ql 24), .ref (N0 + 182), .ref (N0 + 187), .ref (N0 + 208), .ref (N0 + 209), .ref (N0 + 210), .ref (N0 + 211), .ref (N0 + 212), .int 0, .ref (N0 + 213), .ref (N0 + 218), .ref (N0 + 223), .ref (N0 + 224), .ref (N0 + 225), .ref (N0 + 226), .ref (N0 + 227), .int 0, .int 0, .ref (N0 + 228), .null, .int (-1), .int 0, .int 0, .int 0])))) (fun _ => n)) 0 0 (fA N0) := by
  refine fx_start 3 rfl rfl (Nat.le_of_ble_eq_true rfl) ?_ rfl
  intro p e s m below meth c ls S hr hlocks hin hG hl
  have hl : lv_has ls 3 [(0, .ref (N0 + 164)), (1, .int a1), (2, .int a2)] := hl
  have lt_h0 := hG.1.lt h0
  refine lv_aload_n S.1 S.2.1 dX10_copyTree_0 rfl (lv_at hl 0 rfl) ?_
  refine lv_iload_n S.1 S.2.1 dX10_copyTree_1 rfl (lv_at hl 1 rfl) ?_
  refine lv_iload_n S.1 S.2.1 dX10_copyTree_2 rfl (lv_at hl 2 rfl) ?_
  refine fx_cVi (As := [.int a1, .int a2]) (rest := []) S hG (k448_X10_areNone g_a1_le_m1 (by omega) h0) h0 rfl (cwV 2 S.2.2.2.2 gX10_copyTree_X10_areNone rfl rfl rfl (by decide +kernel) ⟨Nat.le_of_ble_eq_true rfl, Nat.le_of_ble_eq_true rfl⟩) rfl hl.1 rfl (Nat.le_of_ble_eq_true rfl) dX10_copyTree_3 ⟨Nat.le_of_ble_eq_true rfl, Nat.le_of_ble_eq_true rfl⟩ (fun rv_1 _ H locs hp hG => ?_)
  subst rv_1
  refine lv_if_eq (tgt := 11) S.1 S.2.1 dX10_copyTree_6 (by decide) (fun c => absurd c (by decide)) (fun _ => ?_)
  refine lv_iconst (v := 0) S.1 S.2.1 dX10_copyTree_9 (by decide) ?_
  exact fx_iret S hr hlocks () hG (rfl) dX10_copyTree_10
theorem k450_X7_treeAt {n : Nat} {a2 : Int32} (g_a2_le_m1 : a2 ≤ (-1)) (hst : l.stackTraces = false) (hn : N0 + 231 ≤ n)  : vx_Met l yX7_treeAt wsX7_treeAt ({ frames := 6, cells := 1, slots := 6, locals := 82 }) (va_Pc [.ref N0, .int a2] (fP N0 D vwCl (fty cI cC cL cD cII cTr cTm cIt cB) (fen ql) F n)) (fNo N0 D vwCl (fty cI cC cL cD cII cTr cTm cIt cB) F n) (fXC N0 D vwCl (fty cI cC cL cD cII cTr cTm cIt cB) "java/lang/IndexOutOfBoundsException" F n) 1 6 (fA N0) := by
  refine fx_startX 2 rfl rfl (Nat.le_of_ble_eq_true rfl) ?_ rfl
  intro p e s m below meth c ls S htab hlocks hG hl
  have hl : lv_has ls 2 [(0, .ref N0), (1, .int a2)] := hl
  refine lv_iload_n S.1 S.2.1 dX7_treeAt_0 rfl (lv_at hl 1 rfl) ?_
  refine lv_if_lt (tgt := 9) S.1 S.2.1 dX7_treeAt_1 (by decide) (fun _ => ?_) (fun c => absurd (Int32.lt_of_le_of_lt g_a2_le_m1 (by decide)) c)
  exact fx_throwW (text := "no such tree") S hG hl.1 hst (by decide) (by decide +kernel) (by decide +kernel) (List.mem_of_getElem? (i := 20) rfl) (by decide +kernel) (by decide +kernel) (by decide +kernel) (List.mem_of_getElem? (i := 2) rfl) (List.mem_of_getElem? (i := 0) rfl) (List.mem_of_getElem? (i := 1) rfl) (List.mem_of_getElem? (i := 2) rfl) dX7_treeAt_9 dX7_treeAt_12 dX7_treeAt_13 dX7_treeAt_16 dX7_treeAt_19 htab (by decide) (Nat.le_of_ble_eq_true rfl) (by decide) (by decide) hlocks (by decide) (by decide)
theorem k451_X7_copyTree {n : Nat} {a2 : Int32} (g_a2_le_m1 : a2 ≤ (-1)) (hst : l.stackTraces = false) (hn : N0 + 231 ≤ n) (h0 : F N0 = some (.inr (9, [.ref (N0 + 1), .ref (N0 + 2), .ref (N0 + 11), .ref (N0 + 13), .ref (N0 + 63), .ref (N0 + 65), .ref (N0 + 85), .int (-1), .int (-1), .int 32]))) (h1 : F (N0 + 1) = some (.inl (cTr, 3, .inr (.inr (.inr (.inr (va_up (va_up (va_up (fun _ => none) 0 (some (N0 + 143))) 1 (some (N0 + 150))) 2 (some (N0 + 157))))))))) : vx_Met l yX7_copyTree wsX7_copyTree ({ frames := 7, cells := 1, slots := 6, locals := 103 }) (va_Pc [.ref N0, .int 0, .int a2] (fP N0 D vwCl (fty cI cC cL cD cII cTr cTm cIt cB) (fen ql) F n)) (fNo N0 D vwCl (fty cI cC cL cD cII cTr cTm cIt cB) F n) (fXC N0 D vwCl (fty cI cC cL cD cII cTr cTm cIt cB) "java/lang/IndexOutOfBoundsException" F n) 1 6 (fA N0) := by
  refine fx_startX 5 rfl rfl (Nat.le_of_ble_eq_true rfl) ?_ rfl
  intro p e s m below meth c ls S htab hlocks hG hl
  have hl : lv_has ls 5 [(0, .ref N0), (1, .int 0), (2, .int a2)] := hl
  have lt_h0 := hG.1.lt h0
  have lt_h1 := hG.1.lt h1
  refine lv_aload_n S.1 S.2.1 dX7_copyTree_0 rfl (lv_at hl 0 rfl) ?_
  refine lv_iload_n S.1 S.2.1 dX7_copyTree_1 rfl (lv_at hl 1 rfl) ?_
  refine fx_cVr (As := [.int 0]) (rest := []) S hG (k26_X7_treeAt (by omega) h0 h1) h0 rfl (cwV 1 S.2.2.2.2 gX7_copyTree_X7_treeAt rfl rfl rfl (by decide +kernel) ⟨Nat.le_of_ble_eq_true rfl, Nat.le_of_ble_eq_true rfl⟩) rfl hl.1 rfl (Nat.le_of_ble_eq_true rfl) dX7_copyTree_2 ⟨Nat.le_of_ble_eq_true rfl, Nat.le_of_ble_eq_true rfl⟩ (fun rv_1 _ H locs hp hG => ?_)
  subst rv_1
  refine lv_astore_n (lv' := [(3, .ref (N0 + 143)), (0, .ref N0), (1, .int 0), (2, .int a2)]) S.1 S.2.1 dX7_copyTree_5 rfl hl (by decide) rfl (fun ls hl => ?_)
  refine lv_aload_n S.1 S.2.1 dX7_copyTree_6 rfl (lv_at hl 1 rfl) ?_
  refine lv_iload_n S.1 S.2.1 dX7_copyTree_7 rfl (lv_at hl 3 rfl) ?_
  refine fx_xV (As := [.int a2]) (rest := []) S hG (k450_X7_treeAt g_a2_le_m1 hst (by omega)) h0 rfl (cwV 1 S.2.2.2.2 gX7_copyTree_X7_treeAt rfl rfl rfl (by decide +kernel) ⟨Nat.le_of_ble_eq_true rfl, Nat.le_of_ble_eq_true rfl⟩) rfl hl.1 rfl (Nat.le_of_ble_eq_true rfl) dX7_copyTree_8 ⟨Nat.le_of_ble_eq_true rfl, Nat.le_of_ble_eq_true rfl⟩ (fun ceq_2 q_2 H locs n_3 hn_3 hG h1q_2 h2q_2 h3q_2 => ?_)
  exact fx_out htab hlocks hG (by omega) h1q_2 h2q_2 h3q_2 (by decide) (by decide)
theorem k452_L_copyTree {n : Nat} {a2 : Int32} (g_a2_le_m1 : a2 ≤ (-1)) (hst : l.stackTraces = false) (hn : N0 + 231 ≤ n) (h0 : F N0 = some (.inr (9, [.ref (N0 + 1), .ref (N0 + 2), .ref (N0 + 11), .ref (N0 + 13), .ref (N0 + 63), .ref (N0 + 65), .ref (N0 + 85), .int (-1), .int (-1), .int 32]))) (h1 : F (N0 + 1) = some (.inl (cTr, 3, .inr (.inr (.inr (.inr (va_up (va_up (va_up (fun _ => none) 0 (some (N0 + 143))) 1 (some (N0 + 150))) 2 (some (N0 + 157))))))))) : Met l yL_copyTree wsL_copyTree ({ frames := 8, cells := 1, slots := 6, locals := 127 }) (va_Pc [.ref N0, .int 0, .int a2, .ref (N0 + 229)] (fP N0 D vwCl (fty cI cC cL cD cII cTr cTm cIt cB) (fen ql) F n)) (fQi N0 D vwCl (fty cI cC cL cD cII cTr cTm cIt cB) (fun (r : Int32) (u : Nat) => r = 1 ∧ n ≤ u) (fun _ => F) (fun u => u)) 1 6 (fA N0) := by
  refine fx_startW (hh := [(0, 10, 13, 19)]) 5 rfl rfl (Nat.le_of_ble_eq_true rfl) ?_ rfl
  intro p e s m below meth c ls S htab hr hlocks hG hl
  have hl : lv_has ls 5 [(0, .ref N0), (1, .int 0), (2, .int a2), (3, .ref (N0 + 229))] := hl
  have lt_h0 := hG.1.lt h0
  have lt_h1 := hG.1.lt h1
  refine lv_aload_n S.1 S.2.1 dL_copyTree_0 rfl (lv_at hl 3 rfl) ?_
  refine lv_iconst (v := 0) S.1 S.2.1 dL_copyTree_1 (by decide) ?_
  refine lv_aload_n S.1 S.2.1 dL_copyTree_2 rfl (lv_at hl 0 rfl) ?_
  refine lv_iload_n S.1 S.2.1 dL_copyTree_3 rfl (lv_at hl 1 rfl) ?_
  refine lv_iload_n S.1 S.2.1 dL_copyTree_4 rfl (lv_at hl 2 rfl) ?_
  refine fx_xV (As := [.int 0, .int a2]) (rest := [.int 0, .ref (N0 + 229)]) S hG (k451_X7_copyTree g_a2_le_m1 hst (by omega) h0 h1) h0 rfl (cwV 2 S.2.2.2.2 gL_copyTree_X7_copyTree rfl rfl rfl (by decide +kernel) ⟨Nat.le_of_ble_eq_true rfl, Nat.le_of_ble_eq_true rfl⟩) rfl hl.1 rfl (Nat.le_of_ble_eq_true rfl) dL_copyTree_5 ⟨Nat.le_of_ble_eq_true rfl, Nat.le_of_ble_eq_true rfl⟩ (fun ceq_1 q_1 H locs n_2 hn_2 hG h1q_1 h2q_1 h3q_1 => ?_)
  refine fx_catch (hh := [(0, 10, 13, 19)]) S htab hG h1q_1 h2q_1 h3q_1 [] ⟨0, 10, 13, 19⟩ [] rfl [] (fun z hz => absurd hz List.not_mem_nil) (by decide) (by decide) (by decide +kernel) (List.mem_of_getElem? (i := 2) rfl) ?_
  refine lv_astore (lv' := [(4, .ref q_1), (0, .ref N0), (1, .int 0), (2, .int a2), (3, .ref (N0 + 229))]) S.1 S.2.1 dL_copyTree_13 hl (by decide) rfl (fun ls hl => ?_)
  refine lv_iconst (v := 1) S.1 S.2.1 dL_copyTree_15 (by decide) ?_
  exact fx_iret S hr hlocks n_2 hG (⟨rfl, hn_2⟩) dL_copyTree_16
theorem k453_X10_isBetween {n : Nat} {a2 : Int32} (g_a2_le_m1 : a2 ≤ (-1)) (hn : N0 + 231 ≤ n)  : Met l yX10_isBetween wsX10_isBetween ({ frames := 0, cells := 0, slots := 0, locals := 0 }) (va_Pc [.int a2, .int 0, .int 2] (fP N0 D vwCl (fty cI cC cL cD cII cTr cTm cIt cB) (fen ql) F n)) (fQi N0 D vwCl (fty cI cC cL cD cII cTr cTm cIt cB) (fun (r : Int32) (_ : Unit) => r = 0) (fun _ => F) (fun _ => n)) 0 0 (fA N0) := by
  refine fx_start 3 rfl rfl (Nat.le_of_ble_eq_true rfl) ?_ rfl
  intro p e s m below meth c ls S hr hlocks hin hG hl
  have hl : lv_has ls 3 [(0, .int a2), (1, .int 0), (2, .int 2)] := hl
  refine lv_iload_n S.1 S.2.1 dX10_isBetween_0 rfl (lv_at hl 1 rfl) ?_
  refine lv_iload_n S.1 S.2.1 dX10_isBetween_1 rfl (lv_at hl 0 rfl) ?_
  refine lv_icmp_gt (tgt := 14) S.1 S.2.1 dX10_isBetween_2 (by decide) (fun _ => ?_) (fun c => absurd (Int32.lt_of_le_of_lt g_a2_le_m1 (by decide)) c)
  refine lv_iconst (v := 0) S.1 S.2.1 dX10_isBetween_14 (by decide) ?_
  exact fx_zret S hr (rfl) hlocks () hG (rfl) dX10_isBetween_15
theorem k454_X10_isTree {n : Nat} {a2 : Int32} (g_a2_le_m1 : a2 ≤ (-1)) (hn : N0 + 231 ≤ n)  : Met l yX10_isTree wsX10_isTree ({ frames := 1, cells := 0, slots := 0, locals := 22 }) (va_Pc [.int a2] (fP N0 D vwCl (fty cI cC cL cD cII cTr cTm cIt cB) (fen ql) F n)) (fQi N0 D vwCl (fty cI cC cL cD cII cTr cTm cIt cB) (fun (r : Int32) (_ : Unit) => r = 0) (fun _ => F) (fun _ => n)) 0 0 (fA N0) := by
  refine fx_start 1 rfl rfl (Nat.le_of_ble_eq_true rfl) ?_ rfl
  intro p e s m below meth c ls S hr hlocks hin hG hl
  have hl : lv_has ls 1 [(0, .int a2)] := hl
  refine lv_iload_n S.1 S.2.1 dX10_isTree_0 rfl (lv_at hl 0 rfl) ?_
  refine lv_iconst (v := 0) S.1 S.2.1 dX10_isTree_1 (by decide) ?_
  refine lv_iconst (v := 2) S.1 S.2.1 dX10_isTree_2 (by decide) ?_
  refine fx_cSi (As := [.int a2, .int 0, .int 2]) (rest := []) S hG (k453_X10_isBetween g_a2_le_m1 (by omega)) (cwS 3 S.2.2.2.2 gX10_isTree_X10_isBetween rfl rfl rfl (by decide +kernel) ⟨Nat.le_of_ble_eq_true rfl, Nat.le_of_ble_eq_true rfl⟩) rfl hl.1 rfl (Nat.le_of_ble_eq_true rfl) dX10_isTree_3 ⟨Nat.le_of_ble_eq_true rfl, Nat.le_of_ble_eq_true rfl⟩ (fun rv_1 _ H locs hp hG => ?_)
  subst rv_1
  exact fx_zret S hr (rfl) hlocks () hG (rfl) dX10_isTree_6
theorem k455_X10_areNone {n : Nat} {a2 : Int32} (g_a2_le_m1 : a2 ≤ (-1)) (hn : N0 + 231 ≤ n) (h0 : F (N0 + 164) = some (.inr (12, [.ref (N0 + 165), .int 0, .ref (N0 + 181), .int 0, .int 0, .int 0, .int (-1), .ref (ql 24), .ref (N0 + 182), .ref (N0 + 187), .ref (N0 + 208), .ref (N0 + 209), .ref (N0 + 210), .ref (N0 + 211), .ref (N0 + 212), .int 0, .ref (N0 + 213), .ref (N0 + 218), .ref (N0 + 223), .ref (N0 + 224), .ref (N0 + 225), .ref (N0 + 226), .ref (N0 + 227), .int 0, .int 0, .ref (N0 + 228), .null, .int (-1), .int 0, .int 0, .int 0]))) : Met l yX10_areNone wsX10_areNone ({ frames := 2, cells := 0, slots := 0, locals := 42 }) (va_Pc [.ref (N0 + 164), .int 0, .int a2] (fP N0 D vwCl (fty cI cC cL cD cII cTr cTm cIt cB) (fen ql) F n)) (fQi N0 D vwCl (fty cI cC cL cD cII cTr cTm cIt cB) (fun (r : Int32) (_ : Unit) => r = 1) (fun _ => (fu F (N0 + 164) (.inr (12, [.ref (N0 + 165), .int 1, .ref (N0 + 181), .int 0, .int 0, .int 0, .int (-1), .ref (ql 24), .ref (N0 + 182), .ref (N0 + 187), .ref (N0 + 208), .ref (N0 + 209), .ref (N0 + 210), .ref (N0 + 211), .ref (N0 + 212), .int 0, .ref (N0 + 213), .ref (N0 + 218), .ref (N0 + 223), .ref (N0 + 224), .ref (N0 + 225), .ref (N0 + 226), .ref (N0 + 227), .int 0, .int 0, .ref (N0 + 228), .null, .int (-1), .int 0, .int 0, .int 0])))) (fun _ => n)) 0 0 (fA N0) := by
  refine fx_start 3 rfl rfl (Nat.le_of_ble_eq_true rfl) ?_ rfl
  intro p e s m below meth c ls S hr hlocks hin hG hl
  have hl : lv_has ls 3 [(0, .ref (N0 + 164)), (1, .int 0), (2, .int a2)] := hl
  have lt_h0 := hG.1.lt h0
  refine lv_aload_n S.1 S.2.1 dX10_areNone_0 rfl (lv_at hl 0 rfl) ?_
  refine lv_iload_n S.1 S.2.1 dX10_areNone_1 rfl (lv_at hl 1 rfl) ?_
  refine fx_cSi (As := [.int 0]) (rest := [.ref (N0 + 164)]) S hG (k34_X10_isTree (by omega)) (cwS 1 S.2.2.2.2 gX10_areNone_X10_isTree rfl rfl rfl (by decide +kernel) ⟨Nat.le_of_ble_eq_true rfl, Nat.le_of_ble_eq_true rfl⟩) rfl hl.1 rfl (Nat.le_of_ble_eq_true rfl) dX10_areNone_2 ⟨Nat.le_of_ble_eq_true rfl, Nat.le_of_ble_eq_true rfl⟩ (fun rv_1 _ H locs hp hG => ?_)
  subst rv_1
  refine lv_if_eq (tgt := 19) S.1 S.2.1 dX10_areNone_5 (by decide) (fun c => absurd c (by decide)) (fun _ => ?_)
  refine lv_iload_n S.1 S.2.1 dX10_areNone_8 rfl (lv_at hl 2 rfl) ?_
  refine fx_cSi (As := [.int a2]) (rest := [.ref (N0 + 164)]) S hG (k454_X10_isTree g_a2_le_m1 (by omega)) (cwS 1 S.2.2.2.2 gX10_areNone_X10_isTree rfl rfl rfl (by decide +kernel) ⟨Nat.le_of_ble_eq_true rfl, Nat.le_of_ble_eq_true rfl⟩) rfl hl.1 rfl (Nat.le_of_ble_eq_true rfl) dX10_areNone_9 ⟨Nat.le_of_ble_eq_true rfl, Nat.le_of_ble_eq_true rfl⟩ (fun rv_2 _ H locs hp hG => ?_)
  subst rv_2
  refine lv_if_eq (tgt := 19) S.1 S.2.1 dX10_areNone_12 (by decide) (fun _ => ?_) (fun c => absurd (by decide) c)
  refine lv_iconst (v := 1) S.1 S.2.1 dX10_areNone_19 (by decide) ?_
  refine gx_put (C := RX10) (T := TX10) (N := 31) (ty := .int) (v := .int 1) (fs' := [.ref (N0 + 165), .int 1, .ref (N0 + 181), .int 0, .int 0, .int 0, .int (-1), .ref (ql 24), .ref (N0 + 182), .ref (N0 + 187), .ref (N0 + 208), .ref (N0 + 209), .ref (N0 + 210), .ref (N0 + 211), .ref (N0 + 212), .int 0, .ref (N0 + 213), .ref (N0 + 218), .ref (N0 + 223), .ref (N0 + 224), .ref (N0 + 225), .ref (N0 + 226), .ref (N0 + 227), .int 0, .int 0, .ref (N0 + 228), .null, .int (-1), .int 0, .int 0, .int 0]) S hG h0 i_X10_areNone_X10 rfl 1 (by decide) tyX10 tyX10_ok nmX10 (by decide +kernel) rfl (by decide +kernel) rfl rfl (Nat.le_of_ble_eq_true rfl) rfl dX10_areNone_20 (fun H locs hG => ?_)
  refine lv_aload_n S.1 S.2.1 dX10_areNone_23 rfl (lv_at hl 0 rfl) ?_
  refine gx_get (C := RX10) (T := TX10) (N := 31) S hG fu_s i_X10_areNone_X10 rfl 1 (by decide) (by decide +kernel) rfl dX10_areNone_24 ?_
  refine lv_if_le (tgt := 34) S.1 S.2.1 dX10_areNone_27 (by decide) (fun c => absurd c (by decide)) (fun _ => ?_)
  refine lv_iconst (v := 1) S.1 S.2.1 dX10_areNone_30 (by decide) ?_
  refine lv_goto (tgt := 35) S.1 S.2.1 dX10_areNone_31 (by decide) ?_
  exact fx_zret S hr (rfl) hlocks () hG (rfl) dX10_areNone_35
theorem k456_X10_copyTree {n : Nat} {a2 : Int32} (g_a2_le_m1 : a2 ≤ (-1)) (hn : N0 + 231 ≤ n) (h0 : F (N0 + 164) = some (.inr (12, [.ref (N0 + 165), .int 0, .ref (N0 + 181), .int 0, .int 0, .int 0, .int (-1), .ref (ql 24), .ref (N0 + 182), .ref (N0 + 187), .ref (N0 + 208), .ref (N0 + 209), .ref (N0 + 210), .ref (N0 + 211), .ref (N0 + 212), .int 0, .ref (N0 + 213), .ref (N0 + 218), .ref (N0 + 223), .ref (N0 + 224), .ref (N0 + 225), .ref (N0 + 226), .ref (N0 + 227), .int 0, .int 0, .ref (N0 + 228), .null, .int (-1), .int 0, .int 0, .int 0]))) : Met l yX10_copyTree wsX10_copyTree ({ frames := 3, cells := 0, slots := 0, locals := 64 }) (va_Pc [.ref (N0 + 164), .int 0, .int a2] (fP N0 D vwCl (fty cI cC cL cD cII cTr cTm cIt cB) (fen ql) F n)) (fQi N0 D vwCl (fty cI cC cL cD cII cTr cTm cIt cB) (fun (r : Int32) (_ : Unit) => r = 0) (fun _ => (fu F (N0 + 164) (.inr (12, [.ref (N0 + 165), .int 1, .ref (N0 + 181), .int 0, .int 0, .int 0, .int (-1), .ref (ql 24), .ref (N0 + 182), .ref (N0 + 187), .ref (N0 + 208), .ref (N0 + 209), .ref (N0 + 210), .ref (N0 + 211), .ref (N0 + 212), .int 0, .ref (N0 + 213), .ref (N0 + 218), .ref (N0 + 223), .ref (N0 + 224), .ref (N0 + 225), .ref (N0 + 226), .ref (N0 + 227), .int 0, .int 0, .ref (N0 + 228), .null, .int (-1), .int 0, .int 0, .int 0])))) (fun _ => n)) 0 0 (fA N0) := by
  refine fx_start 3 rfl rfl (Nat.le_of_ble_eq_true rfl) ?_ rfl
  intro p e s m below meth c ls S hr hlocks hin hG hl
  have hl : lv_has ls 3 [(0, .ref (N0 + 164)), (1, .int 0), (2, .int a2)] := hl
  have lt_h0 := hG.1.lt h0
  refine lv_aload_n S.1 S.2.1 dX10_copyTree_0 rfl (lv_at hl 0 rfl) ?_
  refine lv_iload_n S.1 S.2.1 dX10_copyTree_1 rfl (lv_at hl 1 rfl) ?_
  refine lv_iload_n S.1 S.2.1 dX10_copyTree_2 rfl (lv_at hl 2 rfl) ?_
  refine fx_cVi (As := [.int 0, .int a2]) (rest := []) S hG (k455_X10_areNone g_a2_le_m1 (by omega) h0) h0 rfl (cwV 2 S.2.2.2.2 gX10_copyTree_X10_areNone rfl rfl rfl (by decide +kernel) ⟨Nat.le_of_ble_eq_true rfl, Nat.le_of_ble_eq_true rfl⟩) rfl hl.1 rfl (Nat.le_of_ble_eq_true rfl) dX10_copyTree_3 ⟨Nat.le_of_ble_eq_true rfl, Nat.le_of_ble_eq_true rfl⟩ (fun rv_1 _ H locs hp hG => ?_)
  subst rv_1
  refine lv_if_eq (tgt := 11) S.1 S.2.1 dX10_copyTree_6 (by decide) (fun c => absurd c (by decide)) (fun _ => ?_)
  refine lv_iconst (v := 0) S.1 S.2.1 dX10_copyTree_9 (by decide) ?_
  exact fx_iret S hr hlocks () hG (rfl) dX10_copyTree_10
theorem i_X5_copyFrom_X5 : ∀ w ∈ u_ws RX5 TX5 7, w ∈ wsX5_copyFrom := by decide +kernel
theorem k457_X5_copyFrom {n : Nat} (hn : N0 + 231 ≤ n) (h0 : F (N0 + 143) = some (.inr (7, [.ref (N0 + 144), .ref (N0 + 145), .ref (N0 + 146), .ref (N0 + 147), .ref (N0 + 148), .ref (N0 + 149), .int 1]))) (h1 : F (N0 + 144) = some (.inl (cC, 20, .inl (upd (fun _ => 0) 0 97)))) (h2 : F (N0 + 145) = some (.inl (cI, 20, .inl (fun _ => 0)))) (h3 : F (N0 + 146) = some (.inl (cI, 20, .inl (fun _ => 0)))) (h4 : F (N0 + 147) = some (.inl (cI, 20, .inl (upd (fun _ => 0) 0 (-1))))) : Met l yX5_copyFrom wsX5_copyFrom ({ frames := 1, cells := 0, slots := 0, locals := 40 }) (va_Pc [.ref (N0 + 143), .ref (N0 + 143)] (fP N0 D vwCl (fty cI cC cL cD cII cTr cTm cIt cB) (fen ql) F n)) (fQv N0 D vwCl (fty cI cC cL cD cII cTr cTm cIt cB) (fun (_ : Unit) => True) (fun _ => (fu (fu (fu (fu (fu F (N0 + 144) (.inl (cC, 20, .inl (upd (fun _ => 0) 0 97)))) (N0 + 145) (.inl (cI, 20, .inl (fun _ => 0)))) (N0 + 146) (.inl (cI, 20, .inl (fun _ => 0)))) (N0 + 147) (.inl (cI, 20, .inl (upd (fun _ => 0) 0 (-1))))) (N0 + 143) (.inr (7, [.ref (N0 + 144), .ref (N0 + 145), .ref (N0 + 146), .ref (N0 + 147), .ref (N0 + 148), .ref (N0 + 149), .int 1])))) (fun _ => n)) 0 0 (fA N0) := by
  refine fx_start 2 rfl rfl (Nat.le_of_ble_eq_true rfl) ?_ rfl
  intro p e s m below meth c ls S hr hlocks hin hG hl
  have hl : lv_has ls 2 [(0, .ref (N0 + 143)), (1, .ref (N0 + 143))] := hl
  have lt_h0 := hG.1.lt h0
  have lt_h1 := hG.1.lt h1
  have lt_h2 := hG.1.lt h2
  have lt_h3 := hG.1.lt h3
  have lt_h4 := hG.1.lt h4
  refine lv_aload_n S.1 S.2.1 dX5_copyFrom_0 rfl (lv_at hl 1 rfl) ?_
  refine gx_get (C := RX5) (T := TX5) (N := 7) S hG h0 i_X5_copyFrom_X5 rfl 0 (by decide) (by decide +kernel) rfl dX5_copyFrom_1 ?_
  refine lv_iconst (v := 0) S.1 S.2.1 dX5_copyFrom_4 (by decide) ?_
  refine lv_aload_n S.1 S.2.1 dX5_copyFrom_5 rfl (lv_at hl 0 rfl) ?_
  refine gx_get (C := RX5) (T := TX5) (N := 7) S hG h0 i_X5_copyFrom_X5 rfl 0 (by decide) (by decide +kernel) rfl dX5_copyFrom_6 ?_
  refine lv_iconst (v := 0) S.1 S.2.1 dX5_copyFrom_9 (by decide) ?_
  refine lv_bipush (v := 20) S.1 S.2.1 dX5_copyFrom_10 (by decide) ?_
  refine gx_copyi (f' := upd (fun _ => 0) 0 97) S hG hl.1 (by decide +kernel) (by decide +kernel) (by decide +kernel) (by decide +kernel) 1 h1 h1 rfl rfl (by decide) (by decide) (by decide) (by decide) (by decide) (fun i _ => (ffitU ffit0 (by decide)) _) (Nat.le_of_ble_eq_true rfl) (Nat.le_of_ble_eq_true rfl) dX5_copyFrom_12 fcpy_same (fun H locs hG => ?_)
  refine lv_aload_n S.1 S.2.1 dX5_copyFrom_15 rfl (lv_at hl 1 rfl) ?_
  refine gx_get (C := RX5) (T := TX5) (N := 7) S hG (fu_at (by omega) h0) i_X5_copyFrom_X5 rfl 1 (by decide) (by decide +kernel) rfl dX5_copyFrom_16 ?_
  refine lv_iconst (v := 0) S.1 S.2.1 dX5_copyFrom_19 (by decide) ?_
  refine lv_aload_n S.1 S.2.1 dX5_copyFrom_20 rfl (lv_at hl 0 rfl) ?_
  refine gx_get (C := RX5) (T := TX5) (N := 7) S hG (fu_at (by omega) h0) i_X5_copyFrom_X5 rfl 1 (by decide) (by decide +kernel) rfl dX5_copyFrom_21 ?_
  refine lv_iconst (v := 0) S.1 S.2.1 dX5_copyFrom_24 (by decide) ?_
  refine lv_bipush (v := 20) S.1 S.2.1 dX5_copyFrom_25 (by decide) ?_
  refine gx_copyi (f' := fun _ => 0) S hG hl.1 (by decide +kernel) (by decide +kernel) (by decide +kernel) (by decide +kernel) 0 (fu_at (by omega) h2) (fu_at (by omega) h2) rfl rfl (by decide) (by decide) (by decide) (by decide) (by decide) (fun i _ => rfl) (Nat.le_of_ble_eq_true rfl) (Nat.le_of_ble_eq_true rfl) dX5_copyFrom_27 fcpy_same (fun H locs hG => ?_)
  refine lv_aload_n S.1 S.2.1 dX5_copyFrom_30 rfl (lv_at hl 1 rfl) ?_
  refine gx_get (C := RX5) (T := TX5) (N := 7) S hG (fu_at (by omega) (fu_at (by omega) h0)) i_X5_copyFrom_X5 rfl 2 (by decide) (by decide +kernel) rfl dX5_copyFrom_31 ?_
  refine lv_iconst (v := 0) S.1 S.2.1 dX5_copyFrom_34 (by decide) ?_
  refine lv_aload_n S.1 S.2.1 dX5_copyFrom_35 rfl (lv_at hl 0 rfl) ?_
  refine gx_get (C := RX5) (T := TX5) (N := 7) S hG (fu_at (by omega) (fu_at (by omega) h0)) i_X5_copyFrom_X5 rfl 2 (by decide) (by decide +kernel) rfl dX5_copyFrom_36 ?_
  refine lv_iconst (v := 0) S.1 S.2.1 dX5_copyFrom_39 (by decide) ?_
  refine lv_bipush (v := 20) S.1 S.2.1 dX5_copyFrom_40 (by decide) ?_
  refine gx_copyi (f' := fun _ => 0) S hG hl.1 (by decide +kernel) (by decide +kernel) (by decide +kernel) (by decide +kernel) 0 (fu_at (by omega) (fu_at (by omega) h3)) (fu_at (by omega) (fu_at (by omega) h3)) rfl rfl (by decide) (by decide) (by decide) (by decide) (by decide) (fun i _ => rfl) (Nat.le_of_ble_eq_true rfl) (Nat.le_of_ble_eq_true rfl) dX5_copyFrom_42 fcpy_same (fun H locs hG => ?_)
  refine lv_aload_n S.1 S.2.1 dX5_copyFrom_45 rfl (lv_at hl 1 rfl) ?_
  refine gx_get (C := RX5) (T := TX5) (N := 7) S hG (fu_at (by omega) (fu_at (by omega) (fu_at (by omega) h0))) i_X5_copyFrom_X5 rfl 3 (by decide) (by decide +kernel) rfl dX5_copyFrom_46 ?_
  refine lv_iconst (v := 0) S.1 S.2.1 dX5_copyFrom_49 (by decide) ?_
  refine lv_aload_n S.1 S.2.1 dX5_copyFrom_50 rfl (lv_at hl 0 rfl) ?_
  refine gx_get (C := RX5) (T := TX5) (N := 7) S hG (fu_at (by omega) (fu_at (by omega) (fu_at (by omega) h0))) i_X5_copyFrom_X5 rfl 3 (by decide) (by decide +kernel) rfl dX5_copyFrom_51 ?_
  refine lv_iconst (v := 0) S.1 S.2.1 dX5_copyFrom_54 (by decide) ?_
  refine lv_bipush (v := 20) S.1 S.2.1 dX5_copyFrom_55 (by decide) ?_
  refine gx_copyi (f' := upd (fun _ => 0) 0 (-1)) S hG hl.1 (by decide +kernel) (by decide +kernel) (by decide +kernel) (by decide +kernel) 0 (fu_at (by omega) (fu_at (by omega) (fu_at (by omega) h4))) (fu_at (by omega) (fu_at (by omega) (fu_at (by omega) h4))) rfl rfl (by decide) (by decide) (by decide) (by decide) (by decide) (fun i _ => rfl) (Nat.le_of_ble_eq_true rfl) (Nat.le_of_ble_eq_true rfl) dX5_copyFrom_57 fcpy_same (fun H locs hG => ?_)
  refine lv_aload_n S.1 S.2.1 dX5_copyFrom_60 rfl (lv_at hl 0 rfl) ?_
  refine lv_aload_n S.1 S.2.1 dX5_copyFrom_61 rfl (lv_at hl 1 rfl) ?_
  refine gx_get (C := RX5) (T := TX5) (N := 7) S hG (fu_at (by omega) (fu_at (by omega) (fu_at (by omega) (fu_at (by omega) h0)))) i_X5_copyFrom_X5 rfl 6 (by decide) (by decide +kernel) rfl dX5_copyFrom_62 ?_
  refine gx_put (C := RX5) (T := TX5) (N := 7) (ty := .int) (v := .int 1) (fs' := [.ref (N0 + 144), .ref (N0 + 145), .ref (N0 + 146), .ref (N0 + 147), .ref (N0 + 148), .ref (N0 + 149), .int 1]) S hG (fu_at (by omega) (fu_at (by omega) (fu_at (by omega) (fu_at (by omega) h0)))) i_X5_copyFrom_X5 rfl 6 (by decide) tyX5 tyX5_ok nmX5 (by decide +kernel) rfl (by decide +kernel) rfl rfl (Nat.le_of_ble_eq_true rfl) rfl dX5_copyFrom_65 (fun H locs hG => ?_)
  exact fx_vret S hr hlocks () hG trivial dX5_copyFrom_68
theorem i_X7_copyTree_X5 : ∀ w ∈ u_ws RX5 TX5 7, w ∈ wsX7_copyTree := by decide +kernel
theorem k458_X7_copyTree {n : Nat} (hn : N0 + 231 ≤ n) (h0 : F N0 = some (.inr (9, [.ref (N0 + 1), .ref (N0 + 2), .ref (N0 + 11), .ref (N0 + 13), .ref (N0 + 63), .ref (N0 + 65), .ref (N0 + 85), .int (-1), .int (-1), .int 32]))) (h1 : F (N0 + 1) = some (.inl (cTr, 3, .inr (.inr (.inr (.inr (va_up (va_up (va_up (fun _ => none) 0 (some (N0 + 143))) 1 (some (N0 + 150))) 2 (some (N0 + 157))))))))) (h2 : F (N0 + 143) = some (.inr (7, [.ref (N0 + 144), .ref (N0 + 145), .ref (N0 + 146), .ref (N0 + 147), .ref (N0 + 148), .ref (N0 + 149), .int 1]))) (h3 : F (N0 + 144) = some (.inl (cC, 20, .inl (upd (fun _ => 0) 0 97)))) (h4 : F (N0 + 145) = some (.inl (cI, 20, .inl (fun _ => 0)))) (h5 : F (N0 + 146) = some (.inl (cI, 20, .inl (fun _ => 0)))) (h6 : F (N0 + 147) = some (.inl (cI, 20, .inl (upd (fun _ => 0) 0 (-1))))) : Met l yX7_copyTree wsX7_copyTree ({ frames := 2, cells := 0, slots := 0, locals := 61 }) (va_Pc [.ref N0, .int 0, .int 0] (fP N0 D vwCl (fty cI cC cL cD cII cTr cTm cIt cB) (fen ql) F n)) (fQi N0 D vwCl (fty cI cC cL cD cII cTr cTm cIt cB) (fun (r : Int32) (_ : Unit) => r = 1) (fun _ => (fu (fu (fu (fu (fu F (N0 + 144) (.inl (cC, 20, .inl (upd (fun _ => 0) 0 97)))) (N0 + 145) (.inl (cI, 20, .inl (fun _ => 0)))) (N0 + 146) (.inl (cI, 20, .inl (fun _ => 0)))) (N0 + 147) (.inl (cI, 20, .inl (upd (fun _ => 0) 0 (-1))))) (N0 + 143) (.inr (7, [.ref (N0 + 144), .ref (N0 + 145), .ref (N0 + 146), .ref (N0 + 147), .ref (N0 + 148), .ref (N0 + 149), .int 1])))) (fun _ => n)) 0 0 (fA N0) := by
  refine fx_start 5 rfl rfl (Nat.le_of_ble_eq_true rfl) ?_ rfl
  intro p e s m below meth c ls S hr hlocks hin hG hl
  have hl : lv_has ls 5 [(0, .ref N0), (1, .int 0), (2, .int 0)] := hl
  have lt_h0 := hG.1.lt h0
  have lt_h1 := hG.1.lt h1
  have lt_h2 := hG.1.lt h2
  have lt_h3 := hG.1.lt h3
  have lt_h4 := hG.1.lt h4
  have lt_h5 := hG.1.lt h5
  have lt_h6 := hG.1.lt h6
  refine lv_aload_n S.1 S.2.1 dX7_copyTree_0 rfl (lv_at hl 0 rfl) ?_
  refine lv_iload_n S.1 S.2.1 dX7_copyTree_1 rfl (lv_at hl 1 rfl) ?_
  refine fx_cVr (As := [.int 0]) (rest := []) S hG (k26_X7_treeAt (by omega) h0 h1) h0 rfl (cwV 1 S.2.2.2.2 gX7_copyTree_X7_treeAt rfl rfl rfl (by decide +kernel) ⟨Nat.le_of_ble_eq_true rfl, Nat.le_of_ble_eq_true rfl⟩) rfl hl.1 rfl (Nat.le_of_ble_eq_true rfl) dX7_copyTree_2 ⟨Nat.le_of_ble_eq_true rfl, Nat.le_of_ble_eq_true rfl⟩ (fun rv_1 _ H locs hp hG => ?_)
  subst rv_1
  refine lv_astore_n (lv' := [(3, .ref (N0 + 143)), (0, .ref N0), (1, .int 0), (2, .int 0)]) S.1 S.2.1 dX7_copyTree_5 rfl hl (by decide) rfl (fun ls hl => ?_)
  refine lv_aload_n S.1 S.2.1 dX7_copyTree_6 rfl (lv_at hl 1 rfl) ?_
  refine lv_iload_n S.1 S.2.1 dX7_copyTree_7 rfl (lv_at hl 3 rfl) ?_
  refine fx_cVr (As := [.int 0]) (rest := []) S hG (k26_X7_treeAt (by omega) h0 h1) h0 rfl (cwV 1 S.2.2.2.2 gX7_copyTree_X7_treeAt rfl rfl rfl (by decide +kernel) ⟨Nat.le_of_ble_eq_true rfl, Nat.le_of_ble_eq_true rfl⟩) rfl hl.1 rfl (Nat.le_of_ble_eq_true rfl) dX7_copyTree_8 ⟨Nat.le_of_ble_eq_true rfl, Nat.le_of_ble_eq_true rfl⟩ (fun rv_2 _ H locs hp hG => ?_)
  subst rv_2
  refine lv_astore (lv' := [(4, .ref (N0 + 143)), (3, .ref (N0 + 143)), (0, .ref N0), (1, .int 0), (2, .int 0)]) S.1 S.2.1 dX7_copyTree_11 hl (by decide) rfl (fun ls hl => ?_)
  refine lv_aload S.1 S.2.1 dX7_copyTree_13 (lv_at hl 0 rfl) ?_
  refine lv_aload_n S.1 S.2.1 dX7_copyTree_15 rfl (lv_at hl 1 rfl) ?_
  refine fx_cVv (As := [.ref (N0 + 143)]) (rest := []) S hG (k457_X5_copyFrom (by omega) h2 h3 h4 h5 h6) h2 rfl (cwV 1 S.2.2.2.2 gX7_copyTree_X5_copyFrom rfl rfl rfl (by decide +kernel) ⟨Nat.le_of_ble_eq_true rfl, Nat.le_of_ble_eq_true rfl⟩) rfl hl.1 rfl (Nat.le_of_ble_eq_true rfl) dX7_copyTree_16 ⟨Nat.le_of_ble_eq_true rfl, Nat.le_of_ble_eq_true rfl⟩ (fun _ H locs hp hG => ?_)
  refine lv_aload S.1 S.2.1 dX7_copyTree_19 (lv_at hl 0 rfl) ?_
  refine gx_get (C := RX5) (T := TX5) (N := 7) S hG fu_s i_X7_copyTree_X5 rfl 6 (by decide) (by decide +kernel) rfl dX7_copyTree_21 ?_
  exact fx_iret S hr hlocks () hG (rfl) dX7_copyTree_24
theorem k459_L_copyTree {n : Nat} (hn : N0 + 231 ≤ n) (h0 : F N0 = some (.inr (9, [.ref (N0 + 1), .ref (N0 + 2), .ref (N0 + 11), .ref (N0 + 13), .ref (N0 + 63), .ref (N0 + 65), .ref (N0 + 85), .int (-1), .int (-1), .int 32]))) (h1 : F (N0 + 1) = some (.inl (cTr, 3, .inr (.inr (.inr (.inr (va_up (va_up (va_up (fun _ => none) 0 (some (N0 + 143))) 1 (some (N0 + 150))) 2 (some (N0 + 157))))))))) (h2 : F (N0 + 143) = some (.inr (7, [.ref (N0 + 144), .ref (N0 + 145), .ref (N0 + 146), .ref (N0 + 147), .ref (N0 + 148), .ref (N0 + 149), .int 1]))) (h3 : F (N0 + 144) = some (.inl (cC, 20, .inl (upd (fun _ => 0) 0 97)))) (h4 : F (N0 + 145) = some (.inl (cI, 20, .inl (fun _ => 0)))) (h5 : F (N0 + 146) = some (.inl (cI, 20, .inl (fun _ => 0)))) (h6 : F (N0 + 147) = some (.inl (cI, 20, .inl (upd (fun _ => 0) 0 (-1))))) (h7 : F (N0 + 229) = some (.inl (cL, 1, .inr (.inl (fun _ => 0))))) : Met l yL_copyTree wsL_copyTree ({ frames := 3, cells := 0, slots := 0, locals := 85 }) (va_Pc [.ref N0, .int 0, .int 0, .ref (N0 + 229)] (fP N0 D vwCl (fty cI cC cL cD cII cTr cTm cIt cB) (fen ql) F n)) (fQi N0 D vwCl (fty cI cC cL cD cII cTr cTm cIt cB) (fun (r : Int32) (_ : Unit) => r = 0) (fun _ => (fu (fu (fu (fu (fu (fu F (N0 + 144) (.inl (cC, 20, .inl (upd (fun _ => 0) 0 97)))) (N0 + 145) (.inl (cI, 20, .inl (fun _ => 0)))) (N0 + 146) (.inl (cI, 20, .inl (fun _ => 0)))) (N0 + 147) (.inl (cI, 20, .inl (upd (fun _ => 0) 0 (-1))))) (N0 + 143) (.inr (7, [.ref (N0 + 144), .ref (N0 + 145), .ref (N0 + 146), .ref (N0 + 147), .ref (N0 + 148), .ref (N0 + 149), .int 1]))) (N0 + 229) (.inl (cL, 1, .inr (.inl (vp_updL (fun _ => 0) 0 1)))))) (fun _ => n)) 0 0 (fA N0) := by
  refine fx_startW (hh := [(0, 10, 13, 19)]) 5 rfl rfl (Nat.le_of_ble_eq_true rfl) ?_ rfl
  intro p e s m below meth c ls S htab hr hlocks hG hl
  have hl : lv_has ls 5 [(0, .ref N0), (1, .int 0), (2, .int 0), (3, .ref (N0 + 229))] := hl
  have lt_h0 := hG.1.lt h0
  have lt_h1 := hG.1.lt h1
  have lt_h2 := hG.1.lt h2
  have lt_h3 := hG.1.lt h3
  have lt_h4 := hG.1.lt h4
  have lt_h5 := hG.1.lt h5
  have lt_h6 := hG.1.lt h6
  have lt_h7 := hG.1.lt h7
  refine lv_aload_n S.1 S.2.1 dL_copyTree_0 rfl (lv_at hl 3 rfl) ?_
  refine lv_iconst (v := 0) S.1 S.2.1 dL_copyTree_1 (by decide) ?_
  refine lv_aload_n S.1 S.2.1 dL_copyTree_2 rfl (lv_at hl 0 rfl) ?_
  refine lv_iload_n S.1 S.2.1 dL_copyTree_3 rfl (lv_at hl 1 rfl) ?_
  refine lv_iload_n S.1 S.2.1 dL_copyTree_4 rfl (lv_at hl 2 rfl) ?_
  refine fx_cVi (As := [.int 0, .int 0]) (rest := [.int 0, .ref (N0 + 229)]) S hG (k458_X7_copyTree (by omega) h0 h1 h2 h3 h4 h5 h6) h0 rfl (cwV 2 S.2.2.2.2 gL_copyTree_X7_copyTree rfl rfl rfl (by decide +kernel) ⟨Nat.le_of_ble_eq_true rfl, Nat.le_of_ble_eq_true rfl⟩) rfl hl.1 rfl (Nat.le_of_ble_eq_true rfl) dL_copyTree_5 ⟨Nat.le_of_ble_eq_true rfl, Nat.le_of_ble_eq_true rfl⟩ (fun rv_1 _ H locs hp hG => ?_)
  subst rv_1
  refine lv_i2l (v := 1) S.1 S.2.1 dL_copyTree_8 (by decide) ?_
  refine gx_last (f' := vp_updL (fun _ => 0) 0 1) S hG 2 (fu_at (by omega) (fu_at (by omega) (fu_at (by omega) (fu_at (by omega) (fu_at (by omega) h7))))) rfl (fin_l (by decide)) dL_copyTree_9 rfl (fun H locs hG => ?_)
  refine lv_goto (tgt := 17) S.1 S.2.1 dL_copyTree_10 (by decide) ?_
  refine lv_iconst (v := 0) S.1 S.2.1 dL_copyTree_17 (by decide) ?_
  exact fx_iret S hr hlocks () hG (rfl) dL_copyTree_18
theorem k460_X10_areNone {n : Nat} (hn : N0 + 231 ≤ n) (h0 : F (N0 + 164) = some (.inr (12, [.ref (N0 + 165), .int 0, .ref (N0 + 181), .int 0, .int 0, .int 0, .int (-1), .ref (ql 24), .ref (N0 + 182), .ref (N0 + 187), .ref (N0 + 208), .ref (N0 + 209), .ref (N0 + 210), .ref (N0 + 211), .ref (N0 + 212), .int 0, .ref (N0 + 213), .ref (N0 + 218), .ref (N0 + 223), .ref (N0 + 224), .ref (N0 + 225), .ref (N0 + 226), .ref (N0 + 227), .int 0, .int 0, .ref (N0 + 228), .null, .int (-1), .int 0, .int 0, .int 0]))) : Met l yX10_areNone wsX10_areNone ({ frames := 2, cells := 0, slots := 0, locals := 42 }) (va_Pc [.ref (N0 + 164), .int 0, .int 0] (fP N0 D vwCl (fty cI cC cL cD cII cTr cTm cIt cB) (fen ql) F n)) (fQi N0 D vwCl (fty cI cC cL cD cII cTr cTm cIt cB) (fun (r : Int32) (_ : Unit) => r = 0) (fun _ => (fu F (N0 + 164) (.inr (12, [.ref (N0 + 165), .int 0, .ref (N0 + 181), .int 0, .int 0, .int 0, .int (-1), .ref (ql 24), .ref (N0 + 182), .ref (N0 + 187), .ref (N0 + 208), .ref (N0 + 209), .ref (N0 + 210), .ref (N0 + 211), .ref (N0 + 212), .int 0, .ref (N0 + 213), .ref (N0 + 218), .ref (N0 + 223), .ref (N0 + 224), .ref (N0 + 225), .ref (N0 + 226), .ref (N0 + 227), .int 0, .int 0, .ref (N0 + 228), .null, .int (-1), .int 0, .int 0, .int 0])))) (fun _ => n)) 0 0 (fA N0) := by
  refine fx_start 3 rfl rfl (Nat.le_of_ble_eq_true rfl) ?_ rfl
  intro p e s m below meth c ls S hr hlocks hin hG hl
  have hl : lv_has ls 3 [(0, .ref (N0 + 164)), (1, .int 0), (2, .int 0)] := hl
  have lt_h0 := hG.1.lt h0
  refine lv_aload_n S.1 S.2.1 dX10_areNone_0 rfl (lv_at hl 0 rfl) ?_
  refine lv_iload_n S.1 S.2.1 dX10_areNone_1 rfl (lv_at hl 1 rfl) ?_
  refine fx_cSi (As := [.int 0]) (rest := [.ref (N0 + 164)]) S hG (k34_X10_isTree (by omega)) (cwS 1 S.2.2.2.2 gX10_areNone_X10_isTree rfl rfl rfl (by decide +kernel) ⟨Nat.le_of_ble_eq_true rfl, Nat.le_of_ble_eq_true rfl⟩) rfl hl.1 rfl (Nat.le_of_ble_eq_true rfl) dX10_areNone_2 ⟨Nat.le_of_ble_eq_true rfl, Nat.le_of_ble_eq_true rfl⟩ (fun rv_1 _ H locs hp hG => ?_)
  subst rv_1
  refine lv_if_eq (tgt := 19) S.1 S.2.1 dX10_areNone_5 (by decide) (fun c => absurd c (by decide)) (fun _ => ?_)
  refine lv_iload_n S.1 S.2.1 dX10_areNone_8 rfl (lv_at hl 2 rfl) ?_
  refine fx_cSi (As := [.int 0]) (rest := [.ref (N0 + 164)]) S hG (k34_X10_isTree (by omega)) (cwS 1 S.2.2.2.2 gX10_areNone_X10_isTree rfl rfl rfl (by decide +kernel) ⟨Nat.le_of_ble_eq_true rfl, Nat.le_of_ble_eq_true rfl⟩) rfl hl.1 rfl (Nat.le_of_ble_eq_true rfl) dX10_areNone_9 ⟨Nat.le_of_ble_eq_true rfl, Nat.le_of_ble_eq_true rfl⟩ (fun rv_2 _ H locs hp hG => ?_)
  subst rv_2
  refine lv_if_eq (tgt := 19) S.1 S.2.1 dX10_areNone_12 (by decide) (fun c => absurd c (by decide)) (fun _ => ?_)
  refine lv_iconst (v := 0) S.1 S.2.1 dX10_areNone_15 (by decide) ?_
  refine lv_goto (tgt := 20) S.1 S.2.1 dX10_areNone_16 (by decide) ?_
  refine gx_put (C := RX10) (T := TX10) (N := 31) (ty := .int) (v := .int 0) (fs' := [.ref (N0 + 165), .int 0, .ref (N0 + 181), .int 0, .int 0, .int 0, .int (-1), .ref (ql 24), .ref (N0 + 182), .ref (N0 + 187), .ref (N0 + 208), .ref (N0 + 209), .ref (N0 + 210), .ref (N0 + 211), .ref (N0 + 212), .int 0, .ref (N0 + 213), .ref (N0 + 218), .ref (N0 + 223), .ref (N0 + 224), .ref (N0 + 225), .ref (N0 + 226), .ref (N0 + 227), .int 0, .int 0, .ref (N0 + 228), .null, .int (-1), .int 0, .int 0, .int 0]) S hG h0 i_X10_areNone_X10 rfl 1 (by decide) tyX10 tyX10_ok nmX10 (by decide +kernel) rfl (by decide +kernel) rfl rfl (Nat.le_of_ble_eq_true rfl) rfl dX10_areNone_20 (fun H locs hG => ?_)
  refine lv_aload_n S.1 S.2.1 dX10_areNone_23 rfl (lv_at hl 0 rfl) ?_
  refine gx_get (C := RX10) (T := TX10) (N := 31) S hG fu_s i_X10_areNone_X10 rfl 1 (by decide) (by decide +kernel) rfl dX10_areNone_24 ?_
  refine lv_if_le (tgt := 34) S.1 S.2.1 dX10_areNone_27 (by decide) (fun _ => ?_) (fun c => absurd (by decide) c)
  refine lv_iconst (v := 0) S.1 S.2.1 dX10_areNone_34 (by decide) ?_
  exact fx_zret S hr (rfl) hlocks () hG (rfl) dX10_areNone_35
theorem k461_X9_sets {n : Nat} (hn : N0 + 231 ≤ n) (h0 : F (N0 + 166) = some (.inr (11, [.ref (N0 + 167), .ref (N0 + 168), .ref (N0 + 169), .ref (N0 + 170), .int 1]))) (h1 : F (N0 + 167) = some (.inl (cI, 20, .inl (upd (fun _ => 0) 0 97)))) (h2 : F (N0 + 168) = some (.inl (cI, 20, .inl (upd (fun _ => 0) 0 0)))) (h3 : F (N0 + 169) = some (.inl (cI, 20, .inl (upd (fun _ => 0) 0 0)))) (h4 : F (N0 + 170) = some (.inl (cI, 20, .inl (upd (fun _ => 0) 0 (-1))))) : Met l yX9_sets wsX9_sets ({ frames := 0, cells := 0, slots := 0, locals := 0 }) (va_Pc [.ref (N0 + 166), .int 0, .int 97, .int 0, .int 0, .int (-1)] (fP N0 D vwCl (fty cI cC cL cD cII cTr cTm cIt cB) (fen ql) F n)) (fQv N0 D vwCl (fty cI cC cL cD cII cTr cTm cIt cB) (fun (_ : Unit) => True) (fun _ => (fu (fu (fu (fu F (N0 + 167) (.inl (cI, 20, .inl (upd (upd (fun _ => 0) 0 97) 0 97)))) (N0 + 168) (.inl (cI, 20, .inl (upd (upd (fun _ => 0) 0 0) 0 0)))) (N0 + 169) (.inl (cI, 20, .inl (upd (upd (fun _ => 0) 0 0) 0 0)))) (N0 + 170) (.inl (cI, 20, .inl (upd (upd (fun _ => 0) 0 (-1)) 0 (-1)))))) (fun _ => n)) 0 0 (fA N0) := by
  refine fx_start 6 rfl rfl (Nat.le_of_ble_eq_true rfl) ?_ rfl
  intro p e s m below meth c ls S hr hlocks hin hG hl
  have hl : lv_has ls 6 [(0, .ref (N0 + 166)), (1, .int 0), (2, .int 97), (3, .int 0), (4, .int 0), (5, .int (-1))] := hl
  have lt_h0 := hG.1.lt h0
  have lt_h1 := hG.1.lt h1
  have lt_h2 := hG.1.lt h2
  have lt_h3 := hG.1.lt h3
  have lt_h4 := hG.1.lt h4
  refine lv_aload_n S.1 S.2.1 dX9_sets_0 rfl (lv_at hl 0 rfl) ?_
  refine gx_get (C := RX9) (T := TX9) (N := 5) S hG h0 i_X9_sets_X9 rfl 0 (by decide) (by decide +kernel) rfl dX9_sets_1 ?_
  refine lv_iload_n S.1 S.2.1 dX9_sets_4 rfl (lv_at hl 1 rfl) ?_
  refine lv_iload_n S.1 S.2.1 dX9_sets_5 rfl (lv_at hl 2 rfl) ?_
  refine gx_iast (f' := upd (upd (fun _ => 0) 0 97) 0 97) S hG 0 h1 rfl (fin_l (by decide)) dX9_sets_6 (rfl) (fun H locs hG => ?_)
  refine lv_aload_n S.1 S.2.1 dX9_sets_7 rfl (lv_at hl 0 rfl) ?_
  refine gx_get (C := RX9) (T := TX9) (N := 5) S hG (fu_at (by omega) h0) i_X9_sets_X9 rfl 1 (by decide) (by decide +kernel) rfl dX9_sets_8 ?_
  refine lv_iload_n S.1 S.2.1 dX9_sets_11 rfl (lv_at hl 1 rfl) ?_
  refine lv_iload_n S.1 S.2.1 dX9_sets_12 rfl (lv_at hl 3 rfl) ?_
  refine gx_iast (f' := upd (upd (fun _ => 0) 0 0) 0 0) S hG 0 (fu_at (by omega) h2) rfl (fin_l (by decide)) dX9_sets_13 (rfl) (fun H locs hG => ?_)
  refine lv_aload_n S.1 S.2.1 dX9_sets_14 rfl (lv_at hl 0 rfl) ?_
  refine gx_get (C := RX9) (T := TX9) (N := 5) S hG (fu_at (by omega) (fu_at (by omega) h0)) i_X9_sets_X9 rfl 2 (by decide) (by decide +kernel) rfl dX9_sets_15 ?_
  refine lv_iload_n S.1 S.2.1 dX9_sets_18 rfl (lv_at hl 1 rfl) ?_
  refine lv_iload S.1 S.2.1 dX9_sets_19 (lv_at hl 4 rfl) ?_
  refine gx_iast (f' := upd (upd (fun _ => 0) 0 0) 0 0) S hG 0 (fu_at (by omega) (fu_at (by omega) h3)) rfl (fin_l (by decide)) dX9_sets_21 (rfl) (fun H locs hG => ?_)
  refine lv_aload_n S.1 S.2.1 dX9_sets_22 rfl (lv_at hl 0 rfl) ?_
  refine gx_get (C := RX9) (T := TX9) (N := 5) S hG (fu_at (by omega) (fu_at (by omega) (fu_at (by omega) h0))) i_X9_sets_X9 rfl 3 (by decide) (by decide +kernel) rfl dX9_sets_23 ?_
  refine lv_iload_n S.1 S.2.1 dX9_sets_26 rfl (lv_at hl 1 rfl) ?_
  refine lv_iload S.1 S.2.1 dX9_sets_27 (lv_at hl 5 rfl) ?_
  refine gx_iast (f' := upd (upd (fun _ => 0) 0 (-1)) 0 (-1)) S hG 0 (fu_at (by omega) (fu_at (by omega) (fu_at (by omega) h4))) rfl (fin_l (by decide)) dX9_sets_29 (rfl) (fun H locs hG => ?_)
  exact fx_vret S hr hlocks () hG trivial dX9_sets_30
theorem i_X9_copies_X9 : ∀ w ∈ u_ws RX9 TX9 5, w ∈ wsX9_copies := by decide +kernel
theorem k462_X9_copies {n : Nat} (hn : N0 + 231 ≤ n) (h0 : F (N0 + 166) = some (.inr (11, [.ref (N0 + 167), .ref (N0 + 168), .ref (N0 + 169), .ref (N0 + 170), .int 1]))) (h1 : F (N0 + 167) = some (.inl (cI, 20, .inl (upd (fun _ => 0) 0 97)))) (h2 : F (N0 + 168) = some (.inl (cI, 20, .inl (upd (fun _ => 0) 0 0)))) (h3 : F (N0 + 169) = some (.inl (cI, 20, .inl (upd (fun _ => 0) 0 0)))) (h4 : F (N0 + 170) = some (.inl (cI, 20, .inl (upd (fun _ => 0) 0 (-1))))) : Met l yX9_copies wsX9_copies ({ frames := 1, cells := 0, slots := 0, locals := 25 }) (va_Pc [.ref (N0 + 166), .ref (N0 + 166)] (fP N0 D vwCl (fty cI cC cL cD cII cTr cTm cIt cB) (fen ql) F n)) (fQv N0 D vwCl (fty cI cC cL cD cII cTr cTm cIt cB) (fun (_ : Unit) => True) (fun _ => (fu (fu (fu (fu (fu F (N0 + 166) (.inr (11, [.ref (N0 + 167), .ref (N0 + 168), .ref (N0 + 169), .ref (N0 + 170), .int 1]))) (N0 + 167) (.inl (cI, 20, .inl (upd (upd (fun _ => 0) 0 97) 0 97)))) (N0 + 168) (.inl (cI, 20, .inl (upd (upd (fun _ => 0) 0 0) 0 0)))) (N0 + 169) (.inl (cI, 20, .inl (upd (upd (fun _ => 0) 0 0) 0 0)))) (N0 + 170) (.inl (cI, 20, .inl (upd (upd (fun _ => 0) 0 (-1)) 0 (-1)))))) (fun _ => n)) 0 0 (fA N0) := by
  refine fx_start 3 rfl rfl (Nat.le_of_ble_eq_true rfl) ?_ rfl
  intro p e s m below meth c ls S hr hlocks hin hG hl
  have hl : lv_has ls 3 [(0, .ref (N0 + 166)), (1, .ref (N0 + 166))] := hl
  have lt_h0 := hG.1.lt h0
  have lt_h1 := hG.1.lt h1
  have lt_h2 := hG.1.lt h2
  have lt_h3 := hG.1.lt h3
  have lt_h4 := hG.1.lt h4
  refine lv_aload_n S.1 S.2.1 dX9_copies_0 rfl (lv_at hl 0 rfl) ?_
  refine lv_aload_n S.1 S.2.1 dX9_copies_1 rfl (lv_at hl 1 rfl) ?_
  refine gx_get (C := RX9) (T := TX9) (N := 5) S hG h0 i_X9_copies_X9 rfl 4 (by decide) (by decide +kernel) rfl dX9_copies_2 ?_
  refine gx_put (C := RX9) (T := TX9) (N := 5) (ty := .int) (v := .int 1) (fs' := [.ref (N0 + 167), .ref (N0 + 168), .ref (N0 + 169), .ref (N0 + 170), .int 1]) S hG h0 i_X9_copies_X9 rfl 4 (by decide) tyX9 tyX9_ok nmX9 (by decide +kernel) rfl (by decide +kernel) rfl rfl (Nat.le_of_ble_eq_true rfl) rfl dX9_copies_5 (fun H locs hG => ?_)
  refine lv_iconst (v := 0) S.1 S.2.1 dX9_copies_8 (by decide) ?_
  refine lv_istore_n (lv' := [(2, .int 0), (0, .ref (N0 + 166)), (1, .ref (N0 + 166))]) S.1 S.2.1 dX9_copies_9 rfl hl (by decide) rfl (fun ls hl => ?_)
  refine lv_iload_n S.1 S.2.1 dX9_copies_10 rfl (lv_at hl 0 rfl) ?_
  refine lv_aload_n S.1 S.2.1 dX9_copies_11 rfl (lv_at hl 1 rfl) ?_
  refine gx_get (C := RX9) (T := TX9) (N := 5) S hG fu_s i_X9_copies_X9 rfl 4 (by decide) (by decide +kernel) rfl dX9_copies_12 ?_
  refine lv_icmp_ge (tgt := 53) S.1 S.2.1 dX9_copies_15 (by decide) (fun c => absurd c (by decide)) (fun _ => ?_)
  refine lv_aload_n S.1 S.2.1 dX9_copies_18 rfl (lv_at hl 1 rfl) ?_
  refine lv_iload_n S.1 S.2.1 dX9_copies_19 rfl (lv_at hl 0 rfl) ?_
  refine lv_aload_n S.1 S.2.1 dX9_copies_20 rfl (lv_at hl 2 rfl) ?_
  refine gx_get (C := RX9) (T := TX9) (N := 5) S hG fu_s i_X9_copies_X9 rfl 0 (by decide) (by decide +kernel) rfl dX9_copies_21 ?_
  refine lv_iload_n S.1 S.2.1 dX9_copies_24 rfl (lv_at hl 0 rfl) ?_
  refine gx_iald (v := 97) S hG 0 (fu_at (by omega) h1) rfl (fin_l (by decide)) (by decide) dX9_copies_25 ?_
  refine lv_aload_n S.1 S.2.1 dX9_copies_26 rfl (lv_at hl 2 rfl) ?_
  refine gx_get (C := RX9) (T := TX9) (N := 5) S hG fu_s i_X9_copies_X9 rfl 1 (by decide) (by decide +kernel) rfl dX9_copies_27 ?_
  refine lv_iload_n S.1 S.2.1 dX9_copies_30 rfl (lv_at hl 0 rfl) ?_
  refine gx_iald (v := 0) S hG 0 (fu_at (by omega) h2) rfl (fin_l (by decide)) (by decide) dX9_copies_31 ?_
  refine lv_aload_n S.1 S.2.1 dX9_copies_32 rfl (lv_at hl 2 rfl) ?_
  refine gx_get (C := RX9) (T := TX9) (N := 5) S hG fu_s i_X9_copies_X9 rfl 2 (by decide) (by decide +kernel) rfl dX9_copies_33 ?_
  refine lv_iload_n S.1 S.2.1 dX9_copies_36 rfl (lv_at hl 0 rfl) ?_
  refine gx_iald (v := 0) S hG 0 (fu_at (by omega) h3) rfl (fin_l (by decide)) (by decide) dX9_copies_37 ?_
  refine lv_aload_n S.1 S.2.1 dX9_copies_38 rfl (lv_at hl 2 rfl) ?_
  refine gx_get (C := RX9) (T := TX9) (N := 5) S hG fu_s i_X9_copies_X9 rfl 3 (by decide) (by decide +kernel) rfl dX9_copies_39 ?_
  refine lv_iload_n S.1 S.2.1 dX9_copies_42 rfl (lv_at hl 0 rfl) ?_
  refine gx_iald (v := (-1)) S hG 0 (fu_at (by omega) h4) rfl (fin_l (by decide)) (by decide) dX9_copies_43 ?_
  refine fx_cVv (As := [.int 0, .int 97, .int 0, .int 0, .int (-1)]) (rest := []) S hG (k461_X9_sets (by omega) fu_s (fu_at (by omega) h1) (fu_at (by omega) h2) (fu_at (by omega) h3) (fu_at (by omega) h4)) fu_s rfl (cwV 5 S.2.2.2.2 gX9_copies_X9_sets rfl rfl rfl (by decide +kernel) ⟨Nat.le_of_ble_eq_true rfl, Nat.le_of_ble_eq_true rfl⟩) rfl hl.1 rfl (Nat.le_of_ble_eq_true rfl) dX9_copies_44 ⟨Nat.le_of_ble_eq_true rfl, Nat.le_of_ble_eq_true rfl⟩ (fun _ H locs hp hG => ?_)
  refine lv_iinc (v := 1) (lv' := [(2, .int 1), (0, .ref (N0 + 166)), (1, .ref (N0 + 166))]) S.1 S.2.1 dX9_copies_47 hl (k := 0) rfl (by decide) (by decide) rfl (fun ls hl => ?_)
  refine lv_goto (tgt := 10) S.1 S.2.1 dX9_copies_50 (by decide) ?_
  refine lv_iload_n S.1 S.2.1 dX9_copies_10 rfl (lv_at hl 0 rfl) ?_
  refine lv_aload_n S.1 S.2.1 dX9_copies_11 rfl (lv_at hl 1 rfl) ?_
  refine gx_get (C := RX9) (T := TX9) (N := 5) S hG (fu_at (by omega) (fu_at (by omega) (fu_at (by omega) (fu_at (by omega) fu_s)))) i_X9_copies_X9 rfl 4 (by decide) (by decide +kernel) rfl dX9_copies_12 ?_
  refine lv_icmp_ge (tgt := 53) S.1 S.2.1 dX9_copies_15 (by decide) (fun _ => ?_) (fun c => absurd (by decide) c)
  exact fx_vret S hr hlocks () hG trivial dX9_copies_53
theorem i_X10_copyTree_X10 : ∀ w ∈ u_ws RX10 TX10 31, w ∈ wsX10_copyTree := by decide +kernel
theorem i_X10_copyTree_X9 : ∀ w ∈ u_ws RX9 TX9 5, w ∈ wsX10_copyTree := by decide +kernel
theorem k463_X10_copyTree {n : Nat} (hn : N0 + 231 ≤ n) (h0 : F (N0 + 164) = some (.inr (12, [.ref (N0 + 165), .int 0, .ref (N0 + 181), .int 0, .int 0, .int 0, .int (-1), .ref (ql 24), .ref (N0 + 182), .ref (N0 + 187), .ref (N0 + 208), .ref (N0 + 209), .ref (N0 + 210), .ref (N0 + 211), .ref (N0 + 212), .int 0, .ref (N0 + 213), .ref (N0 + 218), .ref (N0 + 223), .ref (N0 + 224), .ref (N0 + 225), .ref (N0 + 226), .ref (N0 + 227), .int 0, .int 0, .ref (N0 + 228), .null, .int (-1), .int 0, .int 0, .int 0]))) (h1 : F (N0 + 165) = some (.inl (cTm, 3, .inr (.inr (.inr (.inr (va_up (va_up (va_up (fun _ => none) 0 (some (N0 + 166))) 1 (some (N0 + 171))) 2 (some (N0 + 176))))))))) (h2 : F (N0 + 166) = some (.inr (11, [.ref (N0 + 167), .ref (N0 + 168), .ref (N0 + 169), .ref (N0 + 170), .int 1]))) (h3 : F (N0 + 167) = some (.inl (cI, 20, .inl (upd (fun _ => 0) 0 97)))) (h4 : F (N0 + 168) = some (.inl (cI, 20, .inl (upd (fun _ => 0) 0 0)))) (h5 : F (N0 + 169) = some (.inl (cI, 20, .inl (upd (fun _ => 0) 0 0)))) (h6 : F (N0 + 170) = some (.inl (cI, 20, .inl (upd (fun _ => 0) 0 (-1))))) : Met l yX10_copyTree wsX10_copyTree ({ frames := 3, cells := 0, slots := 0, locals := 64 }) (va_Pc [.ref (N0 + 164), .int 0, .int 0] (fP N0 D vwCl (fty cI cC cL cD cII cTr cTm cIt cB) (fen ql) F n)) (fQi N0 D vwCl (fty cI cC cL cD cII cTr cTm cIt cB) (fun (r : Int32) (_ : Unit) => r = 1) (fun _ => (fu (fu (fu (fu (fu (fu F (N0 + 164) (.inr (12, [.ref (N0 + 165), .int 0, .ref (N0 + 181), .int 0, .int 0, .int 0, .int (-1), .ref (ql 24), .ref (N0 + 182), .ref (N0 + 187), .ref (N0 + 208), .ref (N0 + 209), .ref (N0 + 210), .ref (N0 + 211), .ref (N0 + 212), .int 0, .ref (N0 + 213), .ref (N0 + 218), .ref (N0 + 223), .ref (N0 + 224), .ref (N0 + 225), .ref (N0 + 226), .ref (N0 + 227), .int 0, .int 0, .ref (N0 + 228), .null, .int (-1), .int 0, .int 0, .int 0]))) (N0 + 166) (.inr (11, [.ref (N0 + 167), .ref (N0 + 168), .ref (N0 + 169), .ref (N0 + 170), .int 1]))) (N0 + 167) (.inl (cI, 20, .inl (upd (upd (fun _ => 0) 0 97) 0 97)))) (N0 + 168) (.inl (cI, 20, .inl (upd (upd (fun _ => 0) 0 0) 0 0)))) (N0 + 169) (.inl (cI, 20, .inl (upd (upd (fun _ => 0) 0 0) 0 0)))) (N0 + 170) (.inl (cI, 20, .inl (upd (upd (fun _ => 0) 0 (-1)) 0 (-1)))))) (fun _ => n)) 0 0 (fA N0) := by
  refine fx_start 3 rfl rfl (Nat.le_of_ble_eq_true rfl) ?_ rfl
  intro p e s m below meth c ls S hr hlocks hin hG hl
  have hl : lv_has ls 3 [(0, .ref (N0 + 164)), (1, .int 0), (2, .int 0)] := hl
  have lt_h0 := hG.1.lt h0
  have lt_h1 := hG.1.lt h1
  have lt_h2 := hG.1.lt h2
  have lt_h3 := hG.1.lt h3
  have lt_h4 := hG.1.lt h4
  have lt_h5 := hG.1.lt h5
  have lt_h6 := hG.1.lt h6
  refine lv_aload_n S.1 S.2.1 dX10_copyTree_0 rfl (lv_at hl 0 rfl) ?_
  refine lv_iload_n S.1 S.2.1 dX10_copyTree_1 rfl (lv_at hl 1 rfl) ?_
  refine lv_iload_n S.1 S.2.1 dX10_copyTree_2 rfl (lv_at hl 2 rfl) ?_
  refine fx_cVi (As := [.int 0, .int 0]) (rest := []) S hG (k460_X10_areNone (by omega) h0) h0 rfl (cwV 2 S.2.2.2.2 gX10_copyTree_X10_areNone rfl rfl rfl (by decide +kernel) ⟨Nat.le_of_ble_eq_true rfl, Nat.le_of_ble_eq_true rfl⟩) rfl hl.1 rfl (Nat.le_of_ble_eq_true rfl) dX10_copyTree_3 ⟨Nat.le_of_ble_eq_true rfl, Nat.le_of_ble_eq_true rfl⟩ (fun rv_1 _ H locs hp hG => ?_)
  subst rv_1
  refine lv_if_eq (tgt := 11) S.1 S.2.1 dX10_copyTree_6 (by decide) (fun _ => ?_) (fun c => absurd (by decide) c)
  refine lv_aload_n S.1 S.2.1 dX10_copyTree_11 rfl (lv_at hl 0 rfl) ?_
  refine gx_get (C := RX10) (T := TX10) (N := 31) S hG fu_s i_X10_copyTree_X10 rfl 0 (by decide) (by decide +kernel) rfl dX10_copyTree_12 ?_
  refine lv_iload_n S.1 S.2.1 dX10_copyTree_15 rfl (lv_at hl 2 rfl) ?_
  refine gx_aldq (x := (N0 + 166)) S hG 6 rfl (fu_at (by omega) h1) rfl (fin_l (by decide)) (rfl) dX10_copyTree_16 ?_
  refine lv_aload_n S.1 S.2.1 dX10_copyTree_17 rfl (lv_at hl 0 rfl) ?_
  refine gx_get (C := RX10) (T := TX10) (N := 31) S hG fu_s i_X10_copyTree_X10 rfl 0 (by decide) (by decide +kernel) rfl dX10_copyTree_18 ?_
  refine lv_iload_n S.1 S.2.1 dX10_copyTree_21 rfl (lv_at hl 1 rfl) ?_
  refine gx_aldq (x := (N0 + 166)) S hG 6 rfl (fu_at (by omega) h1) rfl (fin_l (by decide)) (rfl) dX10_copyTree_22 ?_
  refine fx_cVNv (host := "TreeDifferModel") (As := [.ref (N0 + 166)]) (rest := []) S hG (k462_X9_copies (by omega) (fu_at (by omega) h2) (fu_at (by omega) h3) (fu_at (by omega) h4) (fu_at (by omega) h5) (fu_at (by omega) h6)) (fu_at (by omega) h2) rfl ⟨(va_cnB 1 S.2.2.2.2 gX10_copyTree_X9_copies_n157 rfl rfl rfl (hG.nest (show _ ∈ fen2.2.2.1 from by decide)) (S.2.2.2.2 (.initialized RX9) (by decide +kernel)) (by decide +kernel) ⟨Nat.le_of_ble_eq_true rfl, Nat.le_of_ble_eq_true rfl⟩), S.2.2.2.2 (.instanceMethod yX9_copies) (by decide +kernel), S.2.2.2.2 (.selects RX9 yX9_copies yX9_copies) (by decide +kernel)⟩ rfl hl.1 rfl (Nat.le_of_ble_eq_true rfl) dX10_copyTree_23 ⟨Nat.le_of_ble_eq_true rfl, Nat.le_of_ble_eq_true rfl⟩ (fun _ H locs hp hG => ?_)
  refine lv_aload_n S.1 S.2.1 dX10_copyTree_26 rfl (lv_at hl 0 rfl) ?_
  refine gx_get (C := RX10) (T := TX10) (N := 31) S hG (fu_at (by omega) (fu_at (by omega) (fu_at (by omega) (fu_at (by omega) (fu_at (by omega) fu_s))))) i_X10_copyTree_X10 rfl 0 (by decide) (by decide +kernel) rfl dX10_copyTree_27 ?_
  refine lv_iload_n S.1 S.2.1 dX10_copyTree_30 rfl (lv_at hl 1 rfl) ?_
  refine gx_aldq (x := (N0 + 166)) S hG 6 rfl (fu_at (by omega) (fu_at (by omega) (fu_at (by omega) (fu_at (by omega) (fu_at (by omega) (fu_at (by omega) h1)))))) rfl (fin_l (by decide)) (rfl) dX10_copyTree_31 ?_
  refine gx_getN (C := RX9) (T := TX9) (N := 5) S hG (fu_at (by omega) (fu_at (by omega) (fu_at (by omega) (fu_at (by omega) fu_s)))) i_X10_copyTree_X9 rfl 4 (by decide) (List.mem_of_getElem? (i := 4) rfl) rfl dX10_copyTree_32 ?_
  exact fx_iret S hr hlocks () hG (rfl) dX10_copyTree_35
theorem k464_X5_copyFrom {n : Nat} (hn : N0 + 231 ≤ n) (h0 : F (N0 + 143) = some (.inr (7, [.ref (N0 + 144), .ref (N0 + 145), .ref (N0 + 146), .ref (N0 + 147), .ref (N0 + 148), .ref (N0 + 149), .int 1]))) (h1 : F (N0 + 150) = some (.inr (7, [.ref (N0 + 151), .ref (N0 + 152), .ref (N0 + 153), .ref (N0 + 154), .ref (N0 + 155), .ref (N0 + 156), .int 1]))) (h2 : F (N0 + 144) = some (.inl (cC, 20, .inl (upd (fun _ => 0) 0 97)))) (h3 : F (N0 + 151) = some (.inl (cC, 20, .inl (upd (fun _ => 0) 0 97)))) (h4 : F (N0 + 145) = some (.inl (cI, 20, .inl (fun _ => 0)))) (h5 : F (N0 + 152) = some (.inl (cI, 20, .inl (fun _ => 0)))) (h6 : F (N0 + 146) = some (.inl (cI, 20, .inl (fun _ => 0)))) (h7 : F (N0 + 153) = some (.inl (cI, 20, .inl (fun _ => 0)))) (h8 : F (N0 + 147) = some (.inl (cI, 20, .inl (upd (fun _ => 0) 0 (-1))))) (h9 : F (N0 + 154) = some (.inl (cI, 20, .inl (upd (fun _ => 0) 0 (-1))))) : Met l yX5_copyFrom wsX5_copyFrom ({ frames := 1, cells := 0, slots := 0, locals := 40 }) (va_Pc [.ref (N0 + 150), .ref (N0 + 143)] (fP N0 D vwCl (fty cI cC cL cD cII cTr cTm cIt cB) (fen ql) F n)) (fQv N0 D vwCl (fty cI cC cL cD cII cTr cTm cIt cB) (fun (_ : Unit) => True) (fun _ => (fu (fu (fu (fu (fu F (N0 + 151) (.inl (cC, 20, .inl (upd (fun _ => 0) 0 97)))) (N0 + 152) (.inl (cI, 20, .inl (fun _ => 0)))) (N0 + 153) (.inl (cI, 20, .inl (fun _ => 0)))) (N0 + 154) (.inl (cI, 20, .inl (upd (fun _ => 0) 0 (-1))))) (N0 + 150) (.inr (7, [.ref (N0 + 151), .ref (N0 + 152), .ref (N0 + 153), .ref (N0 + 154), .ref (N0 + 155), .ref (N0 + 156), .int 1])))) (fun _ => n)) 0 0 (fA N0) := by
  refine fx_start 2 rfl rfl (Nat.le_of_ble_eq_true rfl) ?_ rfl
  intro p e s m below meth c ls S hr hlocks hin hG hl
  have hl : lv_has ls 2 [(0, .ref (N0 + 150)), (1, .ref (N0 + 143))] := hl
  have lt_h0 := hG.1.lt h0
  have lt_h1 := hG.1.lt h1
  have lt_h2 := hG.1.lt h2
  have lt_h3 := hG.1.lt h3
  have lt_h4 := hG.1.lt h4
  have lt_h5 := hG.1.lt h5
  have lt_h6 := hG.1.lt h6
  have lt_h7 := hG.1.lt h7
  have lt_h8 := hG.1.lt h8
  have lt_h9 := hG.1.lt h9
  refine lv_aload_n S.1 S.2.1 dX5_copyFrom_0 rfl (lv_at hl 1 rfl) ?_
  refine gx_get (C := RX5) (T := TX5) (N := 7) S hG h0 i_X5_copyFrom_X5 rfl 0 (by decide) (by decide +kernel) rfl dX5_copyFrom_1 ?_
  refine lv_iconst (v := 0) S.1 S.2.1 dX5_copyFrom_4 (by decide) ?_
  refine lv_aload_n S.1 S.2.1 dX5_copyFrom_5 rfl (lv_at hl 0 rfl) ?_
  refine gx_get (C := RX5) (T := TX5) (N := 7) S hG h1 i_X5_copyFrom_X5 rfl 0 (by decide) (by decide +kernel) rfl dX5_copyFrom_6 ?_
  refine lv_iconst (v := 0) S.1 S.2.1 dX5_copyFrom_9 (by decide) ?_
  refine lv_bipush (v := 20) S.1 S.2.1 dX5_copyFrom_10 (by decide) ?_
  refine gx_copyi (f' := upd (fun _ => 0) 0 97) S hG hl.1 (by decide +kernel) (by decide +kernel) (by decide +kernel) (by decide +kernel) 1 h2 h3 rfl rfl (by decide) (by decide) (by decide) (by decide) (by decide) (fun i _ => (ffitU ffit0 (by decide)) _) (Nat.le_of_ble_eq_true rfl) (Nat.le_of_ble_eq_true rfl) dX5_copyFrom_12 fcpy_same (fun H locs hG => ?_)
  refine lv_aload_n S.1 S.2.1 dX5_copyFrom_15 rfl (lv_at hl 1 rfl) ?_
  refine gx_get (C := RX5) (T := TX5) (N := 7) S hG (fu_at (by omega) h0) i_X5_copyFrom_X5 rfl 1 (by decide) (by decide +kernel) rfl dX5_copyFrom_16 ?_
  refine lv_iconst (v := 0) S.1 S.2.1 dX5_copyFrom_19 (by decide) ?_
  refine lv_aload_n S.1 S.2.1 dX5_copyFrom_20 rfl (lv_at hl 0 rfl) ?_
  refine gx_get (C := RX5) (T := TX5) (N := 7) S hG (fu_at (by omega) h1) i_X5_copyFrom_X5 rfl 1 (by decide) (by decide +kernel) rfl dX5_copyFrom_21 ?_
  refine lv_iconst (v := 0) S.1 S.2.1 dX5_copyFrom_24 (by decide) ?_
  refine lv_bipush (v := 20) S.1 S.2.1 dX5_copyFrom_25 (by decide) ?_
  refine gx_copyi (f' := fun _ => 0) S hG hl.1 (by decide +kernel) (by decide +kernel) (by decide +kernel) (by decide +kernel) 0 (fu_at (by omega) h4) (fu_at (by omega) h5) rfl rfl (by decide) (by decide) (by decide) (by decide) (by decide) (fun i _ => rfl) (Nat.le_of_ble_eq_true rfl) (Nat.le_of_ble_eq_true rfl) dX5_copyFrom_27 fcpy_same (fun H locs hG => ?_)
  refine lv_aload_n S.1 S.2.1 dX5_copyFrom_30 rfl (lv_at hl 1 rfl) ?_
  refine gx_get (C := RX5) (T := TX5) (N := 7) S hG (fu_at (by omega) (fu_at (by omega) h0)) i_X5_copyFrom_X5 rfl 2 (by decide) (by decide +kernel) rfl dX5_copyFrom_31 ?_
  refine lv_iconst (v := 0) S.1 S.2.1 dX5_copyFrom_34 (by decide) ?_
  refine lv_aload_n S.1 S.2.1 dX5_copyFrom_35 rfl (lv_at hl 0 rfl) ?_
  refine gx_get (C := RX5) (T := TX5) (N := 7) S hG (fu_at (by omega) (fu_at (by omega) h1)) i_X5_copyFrom_X5 rfl 2 (by decide) (by decide +kernel) rfl dX5_copyFrom_36 ?_
  refine lv_iconst (v := 0) S.1 S.2.1 dX5_copyFrom_39 (by decide) ?_
  refine lv_bipush (v := 20) S.1 S.2.1 dX5_copyFrom_40 (by decide) ?_
  refine gx_copyi (f' := fun _ => 0) S hG hl.1 (by decide +kernel) (by decide +kernel) (by decide +kernel) (by decide +kernel) 0 (fu_at (by omega) (fu_at (by omega) h6)) (fu_at (by omega) (fu_at (by omega) h7)) rfl rfl (by decide) (by decide) (by decide) (by decide) (by decide) (fun i _ => rfl) (Nat.le_of_ble_eq_true rfl) (Nat.le_of_ble_eq_true rfl) dX5_copyFrom_42 fcpy_same (fun H locs hG => ?_)
  refine lv_aload_n S.1 S.2.1 dX5_copyFrom_45 rfl (lv_at hl 1 rfl) ?_
  refine gx_get (C := RX5) (T := TX5) (N := 7) S hG (fu_at (by omega) (fu_at (by omega) (fu_at (by omega) h0))) i_X5_copyFrom_X5 rfl 3 (by decide) (by decide +kernel) rfl dX5_copyFrom_46 ?_
  refine lv_iconst (v := 0) S.1 S.2.1 dX5_copyFrom_49 (by decide) ?_
  refine lv_aload_n S.1 S.2.1 dX5_copyFrom_50 rfl (lv_at hl 0 rfl) ?_
  refine gx_get (C := RX5) (T := TX5) (N := 7) S hG (fu_at (by omega) (fu_at (by omega) (fu_at (by omega) h1))) i_X5_copyFrom_X5 rfl 3 (by decide) (by decide +kernel) rfl dX5_copyFrom_51 ?_
  refine lv_iconst (v := 0) S.1 S.2.1 dX5_copyFrom_54 (by decide) ?_
  refine lv_bipush (v := 20) S.1 S.2.1 dX5_copyFrom_55 (by decide) ?_
  refine gx_copyi (f' := upd (fun _ => 0) 0 (-1)) S hG hl.1 (by decide +kernel) (by decide +kernel) (by decide +kernel) (by decide +kernel) 0 (fu_at (by omega) (fu_at (by omega) (fu_at (by omega) h8))) (fu_at (by omega) (fu_at (by omega) (fu_at (by omega) h9))) rfl rfl (by decide) (by decide) (by decide) (by decide) (by decide) (fun i _ => rfl) (Nat.le_of_ble_eq_true rfl) (Nat.le_of_ble_eq_true rfl) dX5_copyFrom_57 fcpy_same (fun H locs hG => ?_)
  refine lv_aload_n S.1 S.2.1 dX5_copyFrom_60 rfl (lv_at hl 0 rfl) ?_
  refine lv_aload_n S.1 S.2.1 dX5_copyFrom_61 rfl (lv_at hl 1 rfl) ?_
  refine gx_get (C := RX5) (T := TX5) (N := 7) S hG (fu_at (by omega) (fu_at (by omega) (fu_at (by omega) (fu_at (by omega) h0)))) i_X5_copyFrom_X5 rfl 6 (by decide) (by decide +kernel) rfl dX5_copyFrom_62 ?_
  refine gx_put (C := RX5) (T := TX5) (N := 7) (ty := .int) (v := .int 1) (fs' := [.ref (N0 + 151), .ref (N0 + 152), .ref (N0 + 153), .ref (N0 + 154), .ref (N0 + 155), .ref (N0 + 156), .int 1]) S hG (fu_at (by omega) (fu_at (by omega) (fu_at (by omega) (fu_at (by omega) h1)))) i_X5_copyFrom_X5 rfl 6 (by decide) tyX5 tyX5_ok nmX5 (by decide +kernel) rfl (by decide +kernel) rfl rfl (Nat.le_of_ble_eq_true rfl) rfl dX5_copyFrom_65 (fun H locs hG => ?_)
  exact fx_vret S hr hlocks () hG trivial dX5_copyFrom_68
theorem k465_X7_copyTree {n : Nat} (hn : N0 + 231 ≤ n) (h0 : F N0 = some (.inr (9, [.ref (N0 + 1), .ref (N0 + 2), .ref (N0 + 11), .ref (N0 + 13), .ref (N0 + 63), .ref (N0 + 65), .ref (N0 + 85), .int (-1), .int (-1), .int 32]))) (h1 : F (N0 + 1) = some (.inl (cTr, 3, .inr (.inr (.inr (.inr (va_up (va_up (va_up (fun _ => none) 0 (some (N0 + 143))) 1 (some (N0 + 150))) 2 (some (N0 + 157))))))))) (h2 : F (N0 + 143) = some (.inr (7, [.ref (N0 + 144), .ref (N0 + 145), .ref (N0 + 146), .ref (N0 + 147), .ref (N0 + 148), .ref (N0 + 149), .int 1]))) (h3 : F (N0 + 150) = some (.inr (7, [.ref (N0 + 151), .ref (N0 + 152), .ref (N0 + 153), .ref (N0 + 154), .ref (N0 + 155), .ref (N0 + 156), .int 1]))) (h4 : F (N0 + 144) = some (.inl (cC, 20, .inl (upd (fun _ => 0) 0 97)))) (h5 : F (N0 + 151) = some (.inl (cC, 20, .inl (upd (fun _ => 0) 0 97)))) (h6 : F (N0 + 145) = some (.inl (cI, 20, .inl (fun _ => 0)))) (h7 : F (N0 + 152) = some (.inl (cI, 20, .inl (fun _ => 0)))) (h8 : F (N0 + 146) = some (.inl (cI, 20, .inl (fun _ => 0)))) (h9 : F (N0 + 153) = some (.inl (cI, 20, .inl (fun _ => 0)))) (h10 : F (N0 + 147) = some (.inl (cI, 20, .inl (upd (fun _ => 0) 0 (-1))))) (h11 : F (N0 + 154) = some (.inl (cI, 20, .inl (upd (fun _ => 0) 0 (-1))))) : Met l yX7_copyTree wsX7_copyTree ({ frames := 2, cells := 0, slots := 0, locals := 61 }) (va_Pc [.ref N0, .int 0, .int 1] (fP N0 D vwCl (fty cI cC cL cD cII cTr cTm cIt cB) (fen ql) F n)) (fQi N0 D vwCl (fty cI cC cL cD cII cTr cTm cIt cB) (fun (r : Int32) (_ : Unit) => r = 1) (fun _ => (fu (fu (fu (fu (fu F (N0 + 151) (.inl (cC, 20, .inl (upd (fun _ => 0) 0 97)))) (N0 + 152) (.inl (cI, 20, .inl (fun _ => 0)))) (N0 + 153) (.inl (cI, 20, .inl (fun _ => 0)))) (N0 + 154) (.inl (cI, 20, .inl (upd (fun _ => 0) 0 (-1))))) (N0 + 150) (.inr (7, [.ref (N0 + 151), .ref (N0 + 152), .ref (N0 + 153), .ref (N0 + 154), .ref (N0 + 155), .ref (N0 + 156), .int 1])))) (fun _ => n)) 0 0 (fA N0) := by
  refine fx_start 5 rfl rfl (Nat.le_of_ble_eq_true rfl) ?_ rfl
  intro p e s m below meth c ls S hr hlocks hin hG hl
  have hl : lv_has ls 5 [(0, .ref N0), (1, .int 0), (2, .int 1)] := hl
  have lt_h0 := hG.1.lt h0
  have lt_h1 := hG.1.lt h1
  have lt_h2 := hG.1.lt h2
  have lt_h3 := hG.1.lt h3
  have lt_h4 := hG.1.lt h4
  have lt_h5 := hG.1.lt h5
  have lt_h6 := hG.1.lt h6
  have lt_h7 := hG.1.lt h7
  have lt_h8 := hG.1.lt h8
  have lt_h9 := hG.1.lt h9
  have lt_h10 := hG.1.lt h10
  have lt_h11 := hG.1.lt h11
  refine lv_aload_n S.1 S.2.1 dX7_copyTree_0 rfl (lv_at hl 0 rfl) ?_
  refine lv_iload_n S.1 S.2.1 dX7_copyTree_1 rfl (lv_at hl 1 rfl) ?_
  refine fx_cVr (As := [.int 0]) (rest := []) S hG (k26_X7_treeAt (by omega) h0 h1) h0 rfl (cwV 1 S.2.2.2.2 gX7_copyTree_X7_treeAt rfl rfl rfl (by decide +kernel) ⟨Nat.le_of_ble_eq_true rfl, Nat.le_of_ble_eq_true rfl⟩) rfl hl.1 rfl (Nat.le_of_ble_eq_true rfl) dX7_copyTree_2 ⟨Nat.le_of_ble_eq_true rfl, Nat.le_of_ble_eq_true rfl⟩ (fun rv_1 _ H locs hp hG => ?_)
  subst rv_1
  refine lv_astore_n (lv' := [(3, .ref (N0 + 143)), (0, .ref N0), (1, .int 0), (2, .int 1)]) S.1 S.2.1 dX7_copyTree_5 rfl hl (by decide) rfl (fun ls hl => ?_)
  refine lv_aload_n S.1 S.2.1 dX7_copyTree_6 rfl (lv_at hl 1 rfl) ?_
  refine lv_iload_n S.1 S.2.1 dX7_copyTree_7 rfl (lv_at hl 3 rfl) ?_
  refine fx_cVr (As := [.int 1]) (rest := []) S hG (k42_X7_treeAt (by omega) h0 h1) h0 rfl (cwV 1 S.2.2.2.2 gX7_copyTree_X7_treeAt rfl rfl rfl (by decide +kernel) ⟨Nat.le_of_ble_eq_true rfl, Nat.le_of_ble_eq_true rfl⟩) rfl hl.1 rfl (Nat.le_of_ble_eq_true rfl) dX7_copyTree_8 ⟨Nat.le_of_ble_eq_true rfl, Nat.le_of_ble_eq_true rfl⟩ (fun rv_2 _ H locs hp hG => ?_)
  subst rv_2
  refine lv_astore (lv' := [(4, .ref (N0 + 150)), (3, .ref (N0 + 143)), (0, .ref N0), (1, .int 0), (2, .int 1)]) S.1 S.2.1 dX7_copyTree_11 hl (by decide) rfl (fun ls hl => ?_)
  refine lv_aload S.1 S.2.1 dX7_copyTree_13 (lv_at hl 0 rfl) ?_
  refine lv_aload_n S.1 S.2.1 dX7_copyTree_15 rfl (lv_at hl 1 rfl) ?_
  refine fx_cVv (As := [.ref (N0 + 143)]) (rest := []) S hG (k464_X5_copyFrom (by omega) h2 h3 h4 h5 h6 h7 h8 h9 h10 h11) h3 rfl (cwV 1 S.2.2.2.2 gX7_copyTree_X5_copyFrom rfl rfl rfl (by decide +kernel) ⟨Nat.le_of_ble_eq_true rfl, Nat.le_of_ble_eq_true rfl⟩) rfl hl.1 rfl (Nat.le_of_ble_eq_true rfl) dX7_copyTree_16 ⟨Nat.le_of_ble_eq_true rfl, Nat.le_of_ble_eq_true rfl⟩ (fun _ H locs hp hG => ?_)
  refine lv_aload S.1 S.2.1 dX7_copyTree_19 (lv_at hl 0 rfl) ?_
  refine gx_get (C := RX5) (T := TX5) (N := 7) S hG fu_s i_X7_copyTree_X5 rfl 6 (by decide) (by decide +kernel) rfl dX7_copyTree_21 ?_
  exact fx_iret S hr hlocks () hG (rfl) dX7_copyTree_24
theorem k466_L_copyTree {n : Nat} (hn : N0 + 231 ≤ n) (h0 : F N0 = some (.inr (9, [.ref (N0 + 1), .ref (N0 + 2), .ref (N0 + 11), .ref (N0 + 13), .ref (N0 + 63), .ref (N0 + 65), .ref (N0 + 85), .int (-1), .int (-1), .int 32]))) (h1 : F (N0 + 1) = some (.inl (cTr, 3, .inr (.inr (.inr (.inr (va_up (va_up (va_up (fun _ => none) 0 (some (N0 + 143))) 1 (some (N0 + 150))) 2 (some (N0 + 157))))))))) (h2 : F (N0 + 143) = some (.inr (7, [.ref (N0 + 144), .ref (N0 + 145), .ref (N0 + 146), .ref (N0 + 147), .ref (N0 + 148), .ref (N0 + 149), .int 1]))) (h3 : F (N0 + 150) = some (.inr (7, [.ref (N0 + 151), .ref (N0 + 152), .ref (N0 + 153), .ref (N0 + 154), .ref (N0 + 155), .ref (N0 + 156), .int 1]))) (h4 : F (N0 + 144) = some (.inl (cC, 20, .inl (upd (fun _ => 0) 0 97)))) (h5 : F (N0 + 151) = some (.inl (cC, 20, .inl (upd (fun _ => 0) 0 97)))) (h6 : F (N0 + 145) = some (.inl (cI, 20, .inl (fun _ => 0)))) (h7 : F (N0 + 152) = some (.inl (cI, 20, .inl (fun _ => 0)))) (h8 : F (N0 + 146) = some (.inl (cI, 20, .inl (fun _ => 0)))) (h9 : F (N0 + 153) = some (.inl (cI, 20, .inl (fun _ => 0)))) (h10 : F (N0 + 147) = some (.inl (cI, 20, .inl (upd (fun _ => 0) 0 (-1))))) (h11 : F (N0 + 154) = some (.inl (cI, 20, .inl (upd (fun _ => 0) 0 (-1))))) (h12 : F (N0 + 229) = some (.inl (cL, 1, .inr (.inl (fun _ => 0))))) : Met l yL_copyTree wsL_copyTree ({ frames := 3, cells := 0, slots := 0, locals := 85 }) (va_Pc [.ref N0, .int 0, .int 1, .ref (N0 + 229)] (fP N0 D vwCl (fty cI cC cL cD cII cTr cTm cIt cB) (fen ql) F n)) (fQi N0 D vwCl (fty cI cC cL cD cII cTr cTm cIt cB) (fun (r : Int32) (_ : Unit) => r = 0) (fun _ => (fu (fu (fu (fu (fu (fu F (N0 + 151) (.inl (cC, 20, .inl (upd (fun _ => 0) 0 97)))) (N0 + 152) (.inl (cI, 20, .inl (fun _ => 0)))) (N0 + 153) (.inl (cI, 20, .inl (fun _ => 0)))) (N0 + 154) (.inl (cI, 20, .inl (upd (fun _ => 0) 0 (-1))))) (N0 + 150) (.inr (7, [.ref (N0 + 151), .ref (N0 + 152), .ref (N0 + 153), .ref (N0 + 154), .ref (N0 + 155), .ref (N0 + 156), .int 1]))) (N0 + 229) (.inl (cL, 1, .inr (.inl (vp_updL (fun _ => 0) 0 1)))))) (fun _ => n)) 0 0 (fA N0) := by
  refine fx_startW (hh := [(0, 10, 13, 19)]) 5 rfl rfl (Nat.le_of_ble_eq_true rfl) ?_ rfl
  intro p e s m below meth c ls S htab hr hlocks hG hl
  have hl : lv_has ls 5 [(0, .ref N0), (1, .int 0), (2, .int 1), (3, .ref (N0 + 229))] := hl
  have lt_h0 := hG.1.lt h0
  have lt_h1 := hG.1.lt h1
  have lt_h2 := hG.1.lt h2
  have lt_h3 := hG.1.lt h3
  have lt_h4 := hG.1.lt h4
  have lt_h5 := hG.1.lt h5
  have lt_h6 := hG.1.lt h6
  have lt_h7 := hG.1.lt h7
  have lt_h8 := hG.1.lt h8
  have lt_h9 := hG.1.lt h9
  have lt_h10 := hG.1.lt h10
  have lt_h11 := hG.1.lt h11
  have lt_h12 := hG.1.lt h12
  refine lv_aload_n S.1 S.2.1 dL_copyTree_0 rfl (lv_at hl 3 rfl) ?_
  refine lv_iconst (v := 0) S.1 S.2.1 dL_copyTree_1 (by decide) ?_
  refine lv_aload_n S.1 S.2.1 dL_copyTree_2 rfl (lv_at hl 0 rfl) ?_
  refine lv_iload_n S.1 S.2.1 dL_copyTree_3 rfl (lv_at hl 1 rfl) ?_
  refine lv_iload_n S.1 S.2.1 dL_copyTree_4 rfl (lv_at hl 2 rfl) ?_
  refine fx_cVi (As := [.int 0, .int 1]) (rest := [.int 0, .ref (N0 + 229)]) S hG (k465_X7_copyTree (by omega) h0 h1 h2 h3 h4 h5 h6 h7 h8 h9 h10 h11) h0 rfl (cwV 2 S.2.2.2.2 gL_copyTree_X7_copyTree rfl rfl rfl (by decide +kernel) ⟨Nat.le_of_ble_eq_true rfl, Nat.le_of_ble_eq_true rfl⟩) rfl hl.1 rfl (Nat.le_of_ble_eq_true rfl) dL_copyTree_5 ⟨Nat.le_of_ble_eq_true rfl, Nat.le_of_ble_eq_true rfl⟩ (fun rv_1 _ H locs hp hG => ?_)
  subst rv_1
  refine lv_i2l (v := 1) S.1 S.2.1 dL_copyTree_8 (by decide) ?_
  refine gx_last (f' := vp_updL (fun _ => 0) 0 1) S hG 2 (fu_at (by omega) (fu_at (by omega) (fu_at (by omega) (fu_at (by omega) (fu_at (by omega) h12))))) rfl (fin_l (by decide)) dL_copyTree_9 rfl (fun H locs hG => ?_)
  refine lv_goto (tgt := 17) S.1 S.2.1 dL_copyTree_10 (by decide) ?_
  refine lv_iconst (v := 0) S.1 S.2.1 dL_copyTree_17 (by decide) ?_
  exact fx_iret S hr hlocks () hG (rfl) dL_copyTree_18
theorem k467_X10_areNone {n : Nat} (hn : N0 + 231 ≤ n) (h0 : F (N0 + 164) = some (.inr (12, [.ref (N0 + 165), .int 0, .ref (N0 + 181), .int 0, .int 0, .int 0, .int (-1), .ref (ql 24), .ref (N0 + 182), .ref (N0 + 187), .ref (N0 + 208), .ref (N0 + 209), .ref (N0 + 210), .ref (N0 + 211), .ref (N0 + 212), .int 0, .ref (N0 + 213), .ref (N0 + 218), .ref (N0 + 223), .ref (N0 + 224), .ref (N0 + 225), .ref (N0 + 226), .ref (N0 + 227), .int 0, .int 0, .ref (N0 + 228), .null, .int (-1), .int 0, .int 0, .int 0]))) : Met l yX10_areNone wsX10_areNone ({ frames := 2, cells := 0, slots := 0, locals := 42 }) (va_Pc [.ref (N0 + 164), .int 0, .int 1] (fP N0 D vwCl (fty cI cC cL cD cII cTr cTm cIt cB) (fen ql) F n)) (fQi N0 D vwCl (fty cI cC cL cD cII cTr cTm cIt cB) (fun (r : Int32) (_ : Unit) => r = 0) (fun _ => (fu F (N0 + 164) (.inr (12, [.ref (N0 + 165), .int 0, .ref (N0 + 181), .int 0, .int 0, .int 0, .int (-1), .ref (ql 24), .ref (N0 + 182), .ref (N0 + 187), .ref (N0 + 208), .ref (N0 + 209), .ref (N0 + 210), .ref (N0 + 211), .ref (N0 + 212), .int 0, .ref (N0 + 213), .ref (N0 + 218), .ref (N0 + 223), .ref (N0 + 224), .ref (N0 + 225), .ref (N0 + 226), .ref (N0 + 227), .int 0, .int 0, .ref (N0 + 228), .null, .int (-1), .int 0, .int 0, .int 0])))) (fun _ => n)) 0 0 (fA N0) := by
  refine fx_start 3 rfl rfl (Nat.le_of_ble_eq_true rfl) ?_ rfl
  intro p e s m below meth c ls S hr hlocks hin hG hl
  have hl : lv_has ls 3 [(0, .ref (N0 + 164)), (1, .int 0), (2, .int 1)] := hl
  have lt_h0 := hG.1.lt h0
  refine lv_aload_n S.1 S.2.1 dX10_areNone_0 rfl (lv_at hl 0 rfl) ?_
  refine lv_iload_n S.1 S.2.1 dX10_areNone_1 rfl (lv_at hl 1 rfl) ?_
  refine fx_cSi (As := [.int 0]) (rest := [.ref (N0 + 164)]) S hG (k34_X10_isTree (by omega)) (cwS 1 S.2.2.2.2 gX10_areNone_X10_isTree rfl rfl rfl (by decide +kernel) ⟨Nat.le_of_ble_eq_true rfl, Nat.le_of_ble_eq_true rfl⟩) rfl hl.1 rfl (Nat.le_of_ble_eq_true rfl) dX10_areNone_2 ⟨Nat.le_of_ble_eq_true rfl, Nat.le_of_ble_eq_true rfl⟩ (fun rv_1 _ H locs hp hG => ?_)
  subst rv_1
  refine lv_if_eq (tgt := 19) S.1 S.2.1 dX10_areNone_5 (by decide) (fun c => absurd c (by decide)) (fun _ => ?_)
  refine lv_iload_n S.1 S.2.1 dX10_areNone_8 rfl (lv_at hl 2 rfl) ?_
  refine fx_cSi (As := [.int 1]) (rest := [.ref (N0 + 164)]) S hG (k46_X10_isTree (by omega)) (cwS 1 S.2.2.2.2 gX10_areNone_X10_isTree rfl rfl rfl (by decide +kernel) ⟨Nat.le_of_ble_eq_true rfl, Nat.le_of_ble_eq_true rfl⟩) rfl hl.1 rfl (Nat.le_of_ble_eq_true rfl) dX10_areNone_9 ⟨Nat.le_of_ble_eq_true rfl, Nat.le_of_ble_eq_true rfl⟩ (fun rv_2 _ H locs hp hG => ?_)
  subst rv_2
  refine lv_if_eq (tgt := 19) S.1 S.2.1 dX10_areNone_12 (by decide) (fun c => absurd c (by decide)) (fun _ => ?_)
  refine lv_iconst (v := 0) S.1 S.2.1 dX10_areNone_15 (by decide) ?_
  refine lv_goto (tgt := 20) S.1 S.2.1 dX10_areNone_16 (by decide) ?_
  refine gx_put (C := RX10) (T := TX10) (N := 31) (ty := .int) (v := .int 0) (fs' := [.ref (N0 + 165), .int 0, .ref (N0 + 181), .int 0, .int 0, .int 0, .int (-1), .ref (ql 24), .ref (N0 + 182), .ref (N0 + 187), .ref (N0 + 208), .ref (N0 + 209), .ref (N0 + 210), .ref (N0 + 211), .ref (N0 + 212), .int 0, .ref (N0 + 213), .ref (N0 + 218), .ref (N0 + 223), .ref (N0 + 224), .ref (N0 + 225), .ref (N0 + 226), .ref (N0 + 227), .int 0, .int 0, .ref (N0 + 228), .null, .int (-1), .int 0, .int 0, .int 0]) S hG h0 i_X10_areNone_X10 rfl 1 (by decide) tyX10 tyX10_ok nmX10 (by decide +kernel) rfl (by decide +kernel) rfl rfl (Nat.le_of_ble_eq_true rfl) rfl dX10_areNone_20 (fun H locs hG => ?_)
  refine lv_aload_n S.1 S.2.1 dX10_areNone_23 rfl (lv_at hl 0 rfl) ?_
  refine gx_get (C := RX10) (T := TX10) (N := 31) S hG fu_s i_X10_areNone_X10 rfl 1 (by decide) (by decide +kernel) rfl dX10_areNone_24 ?_
  refine lv_if_le (tgt := 34) S.1 S.2.1 dX10_areNone_27 (by decide) (fun _ => ?_) (fun c => absurd (by decide) c)
  refine lv_iconst (v := 0) S.1 S.2.1 dX10_areNone_34 (by decide) ?_
  exact fx_zret S hr (rfl) hlocks () hG (rfl) dX10_areNone_35
theorem k468_X9_sets {n : Nat} (hn : N0 + 231 ≤ n) (h0 : F (N0 + 171) = some (.inr (11, [.ref (N0 + 172), .ref (N0 + 173), .ref (N0 + 174), .ref (N0 + 175), .int 1]))) (h1 : F (N0 + 172) = some (.inl (cI, 20, .inl (upd (fun _ => 0) 0 97)))) (h2 : F (N0 + 173) = some (.inl (cI, 20, .inl (upd (fun _ => 0) 0 0)))) (h3 : F (N0 + 174) = some (.inl (cI, 20, .inl (upd (fun _ => 0) 0 0)))) (h4 : F (N0 + 175) = some (.inl (cI, 20, .inl (upd (fun _ => 0) 0 (-1))))) : Met l yX9_sets wsX9_sets ({ frames := 0, cells := 0, slots := 0, locals := 0 }) (va_Pc [.ref (N0 + 171), .int 0, .int 97, .int 0, .int 0, .int (-1)] (fP N0 D vwCl (fty cI cC cL cD cII cTr cTm cIt cB) (fen ql) F n)) (fQv N0 D vwCl (fty cI cC cL cD cII cTr cTm cIt cB) (fun (_ : Unit) => True) (fun _ => (fu (fu (fu (fu F (N0 + 172) (.inl (cI, 20, .inl (upd (upd (fun _ => 0) 0 97) 0 97)))) (N0 + 173) (.inl (cI, 20, .inl (upd (upd (fun _ => 0) 0 0) 0 0)))) (N0 + 174) (.inl (cI, 20, .inl (upd (upd (fun _ => 0) 0 0) 0 0)))) (N0 + 175) (.inl (cI, 20, .inl (upd (upd (fun _ => 0) 0 (-1)) 0 (-1)))))) (fun _ => n)) 0 0 (fA N0) := by
  refine fx_start 6 rfl rfl (Nat.le_of_ble_eq_true rfl) ?_ rfl
  intro p e s m below meth c ls S hr hlocks hin hG hl
  have hl : lv_has ls 6 [(0, .ref (N0 + 171)), (1, .int 0), (2, .int 97), (3, .int 0), (4, .int 0), (5, .int (-1))] := hl
  have lt_h0 := hG.1.lt h0
  have lt_h1 := hG.1.lt h1
  have lt_h2 := hG.1.lt h2
  have lt_h3 := hG.1.lt h3
  have lt_h4 := hG.1.lt h4
  refine lv_aload_n S.1 S.2.1 dX9_sets_0 rfl (lv_at hl 0 rfl) ?_
  refine gx_get (C := RX9) (T := TX9) (N := 5) S hG h0 i_X9_sets_X9 rfl 0 (by decide) (by decide +kernel) rfl dX9_sets_1 ?_
  refine lv_iload_n S.1 S.2.1 dX9_sets_4 rfl (lv_at hl 1 rfl) ?_
  refine lv_iload_n S.1 S.2.1 dX9_sets_5 rfl (lv_at hl 2 rfl) ?_
  refine gx_iast (f' := upd (upd (fun _ => 0) 0 97) 0 97) S hG 0 h1 rfl (fin_l (by decide)) dX9_sets_6 (rfl) (fun H locs hG => ?_)
  refine lv_aload_n S.1 S.2.1 dX9_sets_7 rfl (lv_at hl 0 rfl) ?_
  refine gx_get (C := RX9) (T := TX9) (N := 5) S hG (fu_at (by omega) h0) i_X9_sets_X9 rfl 1 (by decide) (by decide +kernel) rfl dX9_sets_8 ?_
  refine lv_iload_n S.1 S.2.1 dX9_sets_11 rfl (lv_at hl 1 rfl) ?_
  refine lv_iload_n S.1 S.2.1 dX9_sets_12 rfl (lv_at hl 3 rfl) ?_
  refine gx_iast (f' := upd (upd (fun _ => 0) 0 0) 0 0) S hG 0 (fu_at (by omega) h2) rfl (fin_l (by decide)) dX9_sets_13 (rfl) (fun H locs hG => ?_)
  refine lv_aload_n S.1 S.2.1 dX9_sets_14 rfl (lv_at hl 0 rfl) ?_
  refine gx_get (C := RX9) (T := TX9) (N := 5) S hG (fu_at (by omega) (fu_at (by omega) h0)) i_X9_sets_X9 rfl 2 (by decide) (by decide +kernel) rfl dX9_sets_15 ?_
  refine lv_iload_n S.1 S.2.1 dX9_sets_18 rfl (lv_at hl 1 rfl) ?_
  refine lv_iload S.1 S.2.1 dX9_sets_19 (lv_at hl 4 rfl) ?_
  refine gx_iast (f' := upd (upd (fun _ => 0) 0 0) 0 0) S hG 0 (fu_at (by omega) (fu_at (by omega) h3)) rfl (fin_l (by decide)) dX9_sets_21 (rfl) (fun H locs hG => ?_)
  refine lv_aload_n S.1 S.2.1 dX9_sets_22 rfl (lv_at hl 0 rfl) ?_
  refine gx_get (C := RX9) (T := TX9) (N := 5) S hG (fu_at (by omega) (fu_at (by omega) (fu_at (by omega) h0))) i_X9_sets_X9 rfl 3 (by decide) (by decide +kernel) rfl dX9_sets_23 ?_
  refine lv_iload_n S.1 S.2.1 dX9_sets_26 rfl (lv_at hl 1 rfl) ?_
  refine lv_iload S.1 S.2.1 dX9_sets_27 (lv_at hl 5 rfl) ?_
  refine gx_iast (f' := upd (upd (fun _ => 0) 0 (-1)) 0 (-1)) S hG 0 (fu_at (by omega) (fu_at (by omega) (fu_at (by omega) h4))) rfl (fin_l (by decide)) dX9_sets_29 (rfl) (fun H locs hG => ?_)
  exact fx_vret S hr hlocks () hG trivial dX9_sets_30
theorem k469_X9_copies {n : Nat} (hn : N0 + 231 ≤ n) (h0 : F (N0 + 166) = some (.inr (11, [.ref (N0 + 167), .ref (N0 + 168), .ref (N0 + 169), .ref (N0 + 170), .int 1]))) (h1 : F (N0 + 171) = some (.inr (11, [.ref (N0 + 172), .ref (N0 + 173), .ref (N0 + 174), .ref (N0 + 175), .int 1]))) (h2 : F (N0 + 167) = some (.inl (cI, 20, .inl (upd (fun _ => 0) 0 97)))) (h3 : F (N0 + 168) = some (.inl (cI, 20, .inl (upd (fun _ => 0) 0 0)))) (h4 : F (N0 + 169) = some (.inl (cI, 20, .inl (upd (fun _ => 0) 0 0)))) (h5 : F (N0 + 170) = some (.inl (cI, 20, .inl (upd (fun _ => 0) 0 (-1))))) (h6 : F (N0 + 172) = some (.inl (cI, 20, .inl (upd (fun _ => 0) 0 97)))) (h7 : F (N0 + 173) = some (.inl (cI, 20, .inl (upd (fun _ => 0) 0 0)))) (h8 : F (N0 + 174) = some (.inl (cI, 20, .inl (upd (fun _ => 0) 0 0)))) (h9 : F (N0 + 175) = some (.inl (cI, 20, .inl (upd (fun _ => 0) 0 (-1))))) : Met l yX9_copies wsX9_copies ({ frames := 1, cells := 0, slots := 0, locals := 25 }) (va_Pc [.ref (N0 + 171), .ref (N0 + 166)] (fP N0 D vwCl (fty cI cC cL cD cII cTr cTm cIt cB) (fen ql) F n)) (fQv N0 D vwCl (fty cI cC cL cD cII cTr cTm cIt cB) (fun (_ : Unit) => True) (fun _ => (fu (fu (fu (fu (fu F (N0 + 171) (.inr (11, [.ref (N0 + 172), .ref (N0 + 173), .ref (N0 + 174), .ref (N0 + 175), .int 1]))) (N0 + 172) (.inl (cI, 20, .inl (upd (upd (fun _ => 0) 0 97) 0 97)))) (N0 + 173) (.inl (cI, 20, .inl (upd (upd (fun _ => 0) 0 0) 0 0)))) (N0 + 174) (.inl (cI, 20, .inl (upd (upd (fun _ => 0) 0 0) 0 0)))) (N0 + 175) (.inl (cI, 20, .inl (upd (upd (fun _ => 0) 0 (-1)) 0 (-1)))))) (fun _ => n)) 0 0 (fA N0) := by
  refine fx_start 3 rfl rfl (Nat.le_of_ble_eq_true rfl) ?_ rfl
  intro p e s m below meth c ls S hr hlocks hin hG hl
  have hl : lv_has ls 3 [(0, .ref (N0 + 171)), (1, .ref (N0 + 166))] := hl
  have lt_h0 := hG.1.lt h0
  have lt_h1 := hG.1.lt h1
  have lt_h2 := hG.1.lt h2
  have lt_h3 := hG.1.lt h3
  have lt_h4 := hG.1.lt h4
  have lt_h5 := hG.1.lt h5
  have lt_h6 := hG.1.lt h6
  have lt_h7 := hG.1.lt h7
  have lt_h8 := hG.1.lt h8
  have lt_h9 := hG.1.lt h9
  refine lv_aload_n S.1 S.2.1 dX9_copies_0 rfl (lv_at hl 0 rfl) ?_
  refine lv_aload_n S.1 S.2.1 dX9_copies_1 rfl (lv_at hl 1 rfl) ?_
  refine gx_get (C := RX9) (T := TX9) (N := 5) S hG h0 i_X9_copies_X9 rfl 4 (by decide) (by decide +kernel) rfl dX9_copies_2 ?_
  refine gx_put (C := RX9) (T := TX9) (N := 5) (ty := .int) (v := .int 1) (fs' := [.ref (N0 + 172), .ref (N0 + 173), .ref (N0 + 174), .ref (N0 + 175), .int 1]) S hG h1 i_X9_copies_X9 rfl 4 (by decide) tyX9 tyX9_ok nmX9 (by decide +kernel) rfl (by decide +kernel) rfl rfl (Nat.le_of_ble_eq_true rfl) rfl dX9_copies_5 (fun H locs hG => ?_)
  refine lv_iconst (v := 0) S.1 S.2.1 dX9_copies_8 (by decide) ?_
  refine lv_istore_n (lv' := [(2, .int 0), (0, .ref (N0 + 171)), (1, .ref (N0 + 166))]) S.1 S.2.1 dX9_copies_9 rfl hl (by decide) rfl (fun ls hl => ?_)
  refine lv_iload_n S.1 S.2.1 dX9_copies_10 rfl (lv_at hl 0 rfl) ?_
  refine lv_aload_n S.1 S.2.1 dX9_copies_11 rfl (lv_at hl 1 rfl) ?_
  refine gx_get (C := RX9) (T := TX9) (N := 5) S hG fu_s i_X9_copies_X9 rfl 4 (by decide) (by decide +kernel) rfl dX9_copies_12 ?_
  refine lv_icmp_ge (tgt := 53) S.1 S.2.1 dX9_copies_15 (by decide) (fun c => absurd c (by decide)) (fun _ => ?_)
  refine lv_aload_n S.1 S.2.1 dX9_copies_18 rfl (lv_at hl 1 rfl) ?_
  refine lv_iload_n S.1 S.2.1 dX9_copies_19 rfl (lv_at hl 0 rfl) ?_
  refine lv_aload_n S.1 S.2.1 dX9_copies_20 rfl (lv_at hl 2 rfl) ?_
  refine gx_get (C := RX9) (T := TX9) (N := 5) S hG (fu_at (by omega) h0) i_X9_copies_X9 rfl 0 (by decide) (by decide +kernel) rfl dX9_copies_21 ?_
  refine lv_iload_n S.1 S.2.1 dX9_copies_24 rfl (lv_at hl 0 rfl) ?_
  refine gx_iald (v := 97) S hG 0 (fu_at (by omega) h2) rfl (fin_l (by decide)) (by decide) dX9_copies_25 ?_
  refine lv_aload_n S.1 S.2.1 dX9_copies_26 rfl (lv_at hl 2 rfl) ?_
  refine gx_get (C := RX9) (T := TX9) (N := 5) S hG (fu_at (by omega) h0) i_X9_copies_X9 rfl 1 (by decide) (by decide +kernel) rfl dX9_copies_27 ?_
  refine lv_iload_n S.1 S.2.1 dX9_copies_30 rfl (lv_at hl 0 rfl) ?_
  refine gx_iald (v := 0) S hG 0 (fu_at (by omega) h3) rfl (fin_l (by decide)) (by decide) dX9_copies_31 ?_
  refine lv_aload_n S.1 S.2.1 dX9_copies_32 rfl (lv_at hl 2 rfl) ?_
  refine gx_get (C := RX9) (T := TX9) (N := 5) S hG (fu_at (by omega) h0) i_X9_copies_X9 rfl 2 (by decide) (by decide +kernel) rfl dX9_copies_33 ?_
  refine lv_iload_n S.1 S.2.1 dX9_copies_36 rfl (lv_at hl 0 rfl) ?_
  refine gx_iald (v := 0) S hG 0 (fu_at (by omega) h4) rfl (fin_l (by decide)) (by decide) dX9_copies_37 ?_
  refine lv_aload_n S.1 S.2.1 dX9_copies_38 rfl (lv_at hl 2 rfl) ?_
  refine gx_get (C := RX9) (T := TX9) (N := 5) S hG (fu_at (by omega) h0) i_X9_copies_X9 rfl 3 (by decide) (by decide +kernel) rfl dX9_copies_39 ?_
  refine lv_iload_n S.1 S.2.1 dX9_copies_42 rfl (lv_at hl 0 rfl) ?_
  refine gx_iald (v := (-1)) S hG 0 (fu_at (by omega) h5) rfl (fin_l (by decide)) (by decide) dX9_copies_43 ?_
  refine fx_cVv (As := [.int 0, .int 97, .int 0, .int 0, .int (-1)]) (rest := []) S hG (k468_X9_sets (by omega) fu_s (fu_at (by omega) h6) (fu_at (by omega) h7) (fu_at (by omega) h8) (fu_at (by omega) h9)) fu_s rfl (cwV 5 S.2.2.2.2 gX9_copies_X9_sets rfl rfl rfl (by decide +kernel) ⟨Nat.le_of_ble_eq_true rfl, Nat.le_of_ble_eq_true rfl⟩) rfl hl.1 rfl (Nat.le_of_ble_eq_true rfl) dX9_copies_44 ⟨Nat.le_of_ble_eq_true rfl, Nat.le_of_ble_eq_true rfl⟩ (fun _ H locs hp hG => ?_)
  refine lv_iinc (v := 1) (lv' := [(2, .int 1), (0, .ref (N0 + 171)), (1, .ref (N0 + 166))]) S.1 S.2.1 dX9_copies_47 hl (k := 0) rfl (by decide) (by decide) rfl (fun ls hl => ?_)
  refine lv_goto (tgt := 10) S.1 S.2.1 dX9_copies_50 (by decide) ?_
  refine lv_iload_n S.1 S.2.1 dX9_copies_10 rfl (lv_at hl 0 rfl) ?_
  refine lv_aload_n S.1 S.2.1 dX9_copies_11 rfl (lv_at hl 1 rfl) ?_
  refine gx_get (C := RX9) (T := TX9) (N := 5) S hG (fu_at (by omega) (fu_at (by omega) (fu_at (by omega) (fu_at (by omega) fu_s)))) i_X9_copies_X9 rfl 4 (by decide) (by decide +kernel) rfl dX9_copies_12 ?_
  refine lv_icmp_ge (tgt := 53) S.1 S.2.1 dX9_copies_15 (by decide) (fun _ => ?_) (fun c => absurd (by decide) c)
  exact fx_vret S hr hlocks () hG trivial dX9_copies_53
theorem k470_X10_copyTree {n : Nat} (hn : N0 + 231 ≤ n) (h0 : F (N0 + 164) = some (.inr (12, [.ref (N0 + 165), .int 0, .ref (N0 + 181), .int 0, .int 0, .int 0, .int (-1), .ref (ql 24), .ref (N0 + 182), .ref (N0 + 187), .ref (N0 + 208), .ref (N0 + 209), .ref (N0 + 210), .ref (N0 + 211), .ref (N0 + 212), .int 0, .ref (N0 + 213), .ref (N0 + 218), .ref (N0 + 223), .ref (N0 + 224), .ref (N0 + 225), .ref (N0 + 226), .ref (N0 + 227), .int 0, .int 0, .ref (N0 + 228), .null, .int (-1), .int 0, .int 0, .int 0]))) (h1 : F (N0 + 165) = some (.inl (cTm, 3, .inr (.inr (.inr (.inr (va_up (va_up (va_up (fun _ => none) 0 (some (N0 + 166))) 1 (some (N0 + 171))) 2 (some (N0 + 176))))))))) (h2 : F (N0 + 166) = some (.inr (11, [.ref (N0 + 167), .ref (N0 + 168), .ref (N0 + 169), .ref (N0 + 170), .int 1]))) (h3 : F (N0 + 171) = some (.inr (11, [.ref (N0 + 172), .ref (N0 + 173), .ref (N0 + 174), .ref (N0 + 175), .int 1]))) (h4 : F (N0 + 167) = some (.inl (cI, 20, .inl (upd (fun _ => 0) 0 97)))) (h5 : F (N0 + 168) = some (.inl (cI, 20, .inl (upd (fun _ => 0) 0 0)))) (h6 : F (N0 + 169) = some (.inl (cI, 20, .inl (upd (fun _ => 0) 0 0)))) (h7 : F (N0 + 170) = some (.inl (cI, 20, .inl (upd (fun _ => 0) 0 (-1))))) (h8 : F (N0 + 172) = some (.inl (cI, 20, .inl (upd (fun _ => 0) 0 97)))) (h9 : F (N0 + 173) = some (.inl (cI, 20, .inl (upd (fun _ => 0) 0 0)))) (h10 : F (N0 + 174) = some (.inl (cI, 20, .inl (upd (fun _ => 0) 0 0)))) (h11 : F (N0 + 175) = some (.inl (cI, 20, .inl (upd (fun _ => 0) 0 (-1))))) : Met l yX10_copyTree wsX10_copyTree ({ frames := 3, cells := 0, slots := 0, locals := 64 }) (va_Pc [.ref (N0 + 164), .int 0, .int 1] (fP N0 D vwCl (fty cI cC cL cD cII cTr cTm cIt cB) (fen ql) F n)) (fQi N0 D vwCl (fty cI cC cL cD cII cTr cTm cIt cB) (fun (r : Int32) (_ : Unit) => r = 1) (fun _ => (fu (fu (fu (fu (fu (fu F (N0 + 164) (.inr (12, [.ref (N0 + 165), .int 0, .ref (N0 + 181), .int 0, .int 0, .int 0, .int (-1), .ref (ql 24), .ref (N0 + 182), .ref (N0 + 187), .ref (N0 + 208), .ref (N0 + 209), .ref (N0 + 210), .ref (N0 + 211), .ref (N0 + 212), .int 0, .ref (N0 + 213), .ref (N0 + 218), .ref (N0 + 223), .ref (N0 + 224), .ref (N0 + 225), .ref (N0 + 226), .ref (N0 + 227), .int 0, .int 0, .ref (N0 + 228), .null, .int (-1), .int 0, .int 0, .int 0]))) (N0 + 171) (.inr (11, [.ref (N0 + 172), .ref (N0 + 173), .ref (N0 + 174), .ref (N0 + 175), .int 1]))) (N0 + 172) (.inl (cI, 20, .inl (upd (upd (fun _ => 0) 0 97) 0 97)))) (N0 + 173) (.inl (cI, 20, .inl (upd (upd (fun _ => 0) 0 0) 0 0)))) (N0 + 174) (.inl (cI, 20, .inl (upd (upd (fun _ => 0) 0 0) 0 0)))) (N0 + 175) (.inl (cI, 20, .inl (upd (upd (fun _ => 0) 0 (-1)) 0 (-1)))))) (fun _ => n)) 0 0 (fA N0) := by
  refine fx_start 3 rfl rfl (Nat.le_of_ble_eq_true rfl) ?_ rfl
  intro p e s m below meth c ls S hr hlocks hin hG hl
  have hl : lv_has ls 3 [(0, .ref (N0 + 164)), (1, .int 0), (2, .int 1)] := hl
  have lt_h0 := hG.1.lt h0
  have lt_h1 := hG.1.lt h1
  have lt_h2 := hG.1.lt h2
  have lt_h3 := hG.1.lt h3
  have lt_h4 := hG.1.lt h4
  have lt_h5 := hG.1.lt h5
  have lt_h6 := hG.1.lt h6
  have lt_h7 := hG.1.lt h7
  have lt_h8 := hG.1.lt h8
  have lt_h9 := hG.1.lt h9
  have lt_h10 := hG.1.lt h10
  have lt_h11 := hG.1.lt h11
  refine lv_aload_n S.1 S.2.1 dX10_copyTree_0 rfl (lv_at hl 0 rfl) ?_
  refine lv_iload_n S.1 S.2.1 dX10_copyTree_1 rfl (lv_at hl 1 rfl) ?_
  refine lv_iload_n S.1 S.2.1 dX10_copyTree_2 rfl (lv_at hl 2 rfl) ?_
  refine fx_cVi (As := [.int 0, .int 1]) (rest := []) S hG (k467_X10_areNone (by omega) h0) h0 rfl (cwV 2 S.2.2.2.2 gX10_copyTree_X10_areNone rfl rfl rfl (by decide +kernel) ⟨Nat.le_of_ble_eq_true rfl, Nat.le_of_ble_eq_true rfl⟩) rfl hl.1 rfl (Nat.le_of_ble_eq_true rfl) dX10_copyTree_3 ⟨Nat.le_of_ble_eq_true rfl, Nat.le_of_ble_eq_true rfl⟩ (fun rv_1 _ H locs hp hG => ?_)
  subst rv_1
  refine lv_if_eq (tgt := 11) S.1 S.2.1 dX10_copyTree_6 (by decide) (fun _ => ?_) (fun c => absurd (by decide) c)
  refine lv_aload_n S.1 S.2.1 dX10_copyTree_11 rfl (lv_at hl 0 rfl) ?_
  refine gx_get (C := RX10) (T := TX10) (N := 31) S hG fu_s i_X10_copyTree_X10 rfl 0 (by decide) (by decide +kernel) rfl dX10_copyTree_12 ?_
  refine lv_iload_n S.1 S.2.1 dX10_copyTree_15 rfl (lv_at hl 2 rfl) ?_
  refine gx_aldq (x := (N0 + 171)) S hG 6 rfl (fu_at (by omega) h1) rfl (fin_l (by decide)) (rfl) dX10_copyTree_16 ?_
  refine lv_aload_n S.1 S.2.1 dX10_copyTree_17 rfl (lv_at hl 0 rfl) ?_
  refine gx_get (C := RX10) (T := TX10) (N := 31) S hG fu_s i_X10_copyTree_X10 rfl 0 (by decide) (by decide +kernel) rfl dX10_copyTree_18 ?_
  refine lv_iload_n S.1 S.2.1 dX10_copyTree_21 rfl (lv_at hl 1 rfl) ?_
  refine gx_aldq (x := (N0 + 166)) S hG 6 rfl (fu_at (by omega) h1) rfl (fin_l (by decide)) (rfl) dX10_copyTree_22 ?_
  refine fx_cVNv (host := "TreeDifferModel") (As := [.ref (N0 + 166)]) (rest := []) S hG (k469_X9_copies (by omega) (fu_at (by omega) h2) (fu_at (by omega) h3) (fu_at (by omega) h4) (fu_at (by omega) h5) (fu_at (by omega) h6) (fu_at (by omega) h7) (fu_at (by omega) h8) (fu_at (by omega) h9) (fu_at (by omega) h10) (fu_at (by omega) h11)) (fu_at (by omega) h3) rfl ⟨(va_cnB 1 S.2.2.2.2 gX10_copyTree_X9_copies_n157 rfl rfl rfl (hG.nest (show _ ∈ fen2.2.2.1 from by decide)) (S.2.2.2.2 (.initialized RX9) (by decide +kernel)) (by decide +kernel) ⟨Nat.le_of_ble_eq_true rfl, Nat.le_of_ble_eq_true rfl⟩), S.2.2.2.2 (.instanceMethod yX9_copies) (by decide +kernel), S.2.2.2.2 (.selects RX9 yX9_copies yX9_copies) (by decide +kernel)⟩ rfl hl.1 rfl (Nat.le_of_ble_eq_true rfl) dX10_copyTree_23 ⟨Nat.le_of_ble_eq_true rfl, Nat.le_of_ble_eq_true rfl⟩ (fun _ H locs hp hG => ?_)
  refine lv_aload_n S.1 S.2.1 dX10_copyTree_26 rfl (lv_at hl 0 rfl) ?_
  refine gx_get (C := RX10) (T := TX10) (N := 31) S hG (fu_at (by omega) (fu_at (by omega) (fu_at (by omega) (fu_at (by omega) (fu_at (by omega) fu_s))))) i_X10_copyTree_X10 rfl 0 (by decide) (by decide +kernel) rfl dX10_copyTree_27 ?_
  refine lv_iload_n S.1 S.2.1 dX10_copyTree_30 rfl (lv_at hl 1 rfl) ?_
  refine gx_aldq (x := (N0 + 166)) S hG 6 rfl (fu_at (by omega) (fu_at (by omega) (fu_at (by omega) (fu_at (by omega) (fu_at (by omega) (fu_at (by omega) h1)))))) rfl (fin_l (by decide)) (rfl) dX10_copyTree_31 ?_
  refine gx_getN (C := RX9) (T := TX9) (N := 5) S hG (fu_at (by omega) (fu_at (by omega) (fu_at (by omega) (fu_at (by omega) (fu_at (by omega) (fu_at (by omega) h2)))))) i_X10_copyTree_X9 rfl 4 (by decide) (List.mem_of_getElem? (i := 4) rfl) rfl dX10_copyTree_32 ?_
  exact fx_iret S hr hlocks () hG (rfl) dX10_copyTree_35
theorem k471_X5_copyFrom {n : Nat} (hn : N0 + 231 ≤ n) (h0 : F (N0 + 143) = some (.inr (7, [.ref (N0 + 144), .ref (N0 + 145), .ref (N0 + 146), .ref (N0 + 147), .ref (N0 + 148), .ref (N0 + 149), .int 1]))) (h1 : F (N0 + 157) = some (.inr (7, [.ref (N0 + 158), .ref (N0 + 159), .ref (N0 + 160), .ref (N0 + 161), .ref (N0 + 162), .ref (N0 + 163), .int 1]))) (h2 : F (N0 + 144) = some (.inl (cC, 20, .inl (upd (fun _ => 0) 0 97)))) (h3 : F (N0 + 158) = some (.inl (cC, 20, .inl (upd (fun _ => 0) 0 97)))) (h4 : F (N0 + 145) = some (.inl (cI, 20, .inl (fun _ => 0)))) (h5 : F (N0 + 159) = some (.inl (cI, 20, .inl (fun _ => 0)))) (h6 : F (N0 + 146) = some (.inl (cI, 20, .inl (fun _ => 0)))) (h7 : F (N0 + 160) = some (.inl (cI, 20, .inl (fun _ => 0)))) (h8 : F (N0 + 147) = some (.inl (cI, 20, .inl (upd (fun _ => 0) 0 (-1))))) (h9 : F (N0 + 161) = some (.inl (cI, 20, .inl (upd (fun _ => 0) 0 (-1))))) : Met l yX5_copyFrom wsX5_copyFrom ({ frames := 1, cells := 0, slots := 0, locals := 40 }) (va_Pc [.ref (N0 + 157), .ref (N0 + 143)] (fP N0 D vwCl (fty cI cC cL cD cII cTr cTm cIt cB) (fen ql) F n)) (fQv N0 D vwCl (fty cI cC cL cD cII cTr cTm cIt cB) (fun (_ : Unit) => True) (fun _ => (fu (fu (fu (fu (fu F (N0 + 158) (.inl (cC, 20, .inl (upd (fun _ => 0) 0 97)))) (N0 + 159) (.inl (cI, 20, .inl (fun _ => 0)))) (N0 + 160) (.inl (cI, 20, .inl (fun _ => 0)))) (N0 + 161) (.inl (cI, 20, .inl (upd (fun _ => 0) 0 (-1))))) (N0 + 157) (.inr (7, [.ref (N0 + 158), .ref (N0 + 159), .ref (N0 + 160), .ref (N0 + 161), .ref (N0 + 162), .ref (N0 + 163), .int 1])))) (fun _ => n)) 0 0 (fA N0) := by
  refine fx_start 2 rfl rfl (Nat.le_of_ble_eq_true rfl) ?_ rfl
  intro p e s m below meth c ls S hr hlocks hin hG hl
  have hl : lv_has ls 2 [(0, .ref (N0 + 157)), (1, .ref (N0 + 143))] := hl
  have lt_h0 := hG.1.lt h0
  have lt_h1 := hG.1.lt h1
  have lt_h2 := hG.1.lt h2
  have lt_h3 := hG.1.lt h3
  have lt_h4 := hG.1.lt h4
  have lt_h5 := hG.1.lt h5
  have lt_h6 := hG.1.lt h6
  have lt_h7 := hG.1.lt h7
  have lt_h8 := hG.1.lt h8
  have lt_h9 := hG.1.lt h9
  refine lv_aload_n S.1 S.2.1 dX5_copyFrom_0 rfl (lv_at hl 1 rfl) ?_
  refine gx_get (C := RX5) (T := TX5) (N := 7) S hG h0 i_X5_copyFrom_X5 rfl 0 (by decide) (by decide +kernel) rfl dX5_copyFrom_1 ?_
  refine lv_iconst (v := 0) S.1 S.2.1 dX5_copyFrom_4 (by decide) ?_
  refine lv_aload_n S.1 S.2.1 dX5_copyFrom_5 rfl (lv_at hl 0 rfl) ?_
  refine gx_get (C := RX5) (T := TX5) (N := 7) S hG h1 i_X5_copyFrom_X5 rfl 0 (by decide) (by decide +kernel) rfl dX5_copyFrom_6 ?_
  refine lv_iconst (v := 0) S.1 S.2.1 dX5_copyFrom_9 (by decide) ?_
  refine lv_bipush (v := 20) S.1 S.2.1 dX5_copyFrom_10 (by decide) ?_
  refine gx_copyi (f' := upd (fun _ => 0) 0 97) S hG hl.1 (by decide +kernel) (by decide +kernel) (by decide +kernel) (by decide +kernel) 1 h2 h3 rfl rfl (by decide) (by decide) (by decide) (by decide) (by decide) (fun i _ => (ffitU ffit0 (by decide)) _) (Nat.le_of_ble_eq_true rfl) (Nat.le_of_ble_eq_true rfl) dX5_copyFrom_12 fcpy_same (fun H locs hG => ?_)
  refine lv_aload_n S.1 S.2.1 dX5_copyFrom_15 rfl (lv_at hl 1 rfl) ?_
  refine gx_get (C := RX5) (T := TX5) (N := 7) S hG (fu_at (by omega) h0) i_X5_copyFrom_X5 rfl 1 (by decide) (by decide +kernel) rfl dX5_copyFrom_16 ?_
  refine lv_iconst (v := 0) S.1 S.2.1 dX5_copyFrom_19 (by decide) ?_
  refine lv_aload_n S.1 S.2.1 dX5_copyFrom_20 rfl (lv_at hl 0 rfl) ?_
  refine gx_get (C := RX5) (T := TX5) (N := 7) S hG (fu_at (by omega) h1) i_X5_copyFrom_X5 rfl 1 (by decide) (by decide +kernel) rfl dX5_copyFrom_21 ?_
  refine lv_iconst (v := 0) S.1 S.2.1 dX5_copyFrom_24 (by decide) ?_
  refine lv_bipush (v := 20) S.1 S.2.1 dX5_copyFrom_25 (by decide) ?_
  refine gx_copyi (f' := fun _ => 0) S hG hl.1 (by decide +kernel) (by decide +kernel) (by decide +kernel) (by decide +kernel) 0 (fu_at (by omega) h4) (fu_at (by omega) h5) rfl rfl (by decide) (by decide) (by decide) (by decide) (by decide) (fun i _ => rfl) (Nat.le_of_ble_eq_true rfl) (Nat.le_of_ble_eq_true rfl) dX5_copyFrom_27 fcpy_same (fun H locs hG => ?_)
  refine lv_aload_n S.1 S.2.1 dX5_copyFrom_30 rfl (lv_at hl 1 rfl) ?_
  refine gx_get (C := RX5) (T := TX5) (N := 7) S hG (fu_at (by omega) (fu_at (by omega) h0)) i_X5_copyFrom_X5 rfl 2 (by decide) (by decide +kernel) rfl dX5_copyFrom_31 ?_
  refine lv_iconst (v := 0) S.1 S.2.1 dX5_copyFrom_34 (by decide) ?_
  refine lv_aload_n S.1 S.2.1 dX5_copyFrom_35 rfl (lv_at hl 0 rfl) ?_
  refine gx_get (C := RX5) (T := TX5) (N := 7) S hG (fu_at (by omega) (fu_at (by omega) h1)) i_X5_copyFrom_X5 rfl 2 (by decide) (by decide +kernel) rfl dX5_copyFrom_36 ?_
  refine lv_iconst (v := 0) S.1 S.2.1 dX5_copyFrom_39 (by decide) ?_
  refine lv_bipush (v := 20) S.1 S.2.1 dX5_copyFrom_40 (by decide) ?_
  refine gx_copyi (f' := fun _ => 0) S hG hl.1 (by decide +kernel) (by decide +kernel) (by decide +kernel) (by decide +kernel) 0 (fu_at (by omega) (fu_at (by omega) h6)) (fu_at (by omega) (fu_at (by omega) h7)) rfl rfl (by decide) (by decide) (by decide) (by decide) (by decide) (fun i _ => rfl) (Nat.le_of_ble_eq_true rfl) (Nat.le_of_ble_eq_true rfl) dX5_copyFrom_42 fcpy_same (fun H locs hG => ?_)
  refine lv_aload_n S.1 S.2.1 dX5_copyFrom_45 rfl (lv_at hl 1 rfl) ?_
  refine gx_get (C := RX5) (T := TX5) (N := 7) S hG (fu_at (by omega) (fu_at (by omega) (fu_at (by omega) h0))) i_X5_copyFrom_X5 rfl 3 (by decide) (by decide +kernel) rfl dX5_copyFrom_46 ?_
  refine lv_iconst (v := 0) S.1 S.2.1 dX5_copyFrom_49 (by decide) ?_
  refine lv_aload_n S.1 S.2.1 dX5_copyFrom_50 rfl (lv_at hl 0 rfl) ?_
  refine gx_get (C := RX5) (T := TX5) (N := 7) S hG (fu_at (by omega) (fu_at (by omega) (fu_at (by omega) h1))) i_X5_copyFrom_X5 rfl 3 (by decide) (by decide +kernel) rfl dX5_copyFrom_51 ?_
  refine lv_iconst (v := 0) S.1 S.2.1 dX5_copyFrom_54 (by decide) ?_
  refine lv_bipush (v := 20) S.1 S.2.1 dX5_copyFrom_55 (by decide) ?_
  refine gx_copyi (f' := upd (fun _ => 0) 0 (-1)) S hG hl.1 (by decide +kernel) (by decide +kernel) (by decide +kernel) (by decide +kernel) 0 (fu_at (by omega) (fu_at (by omega) (fu_at (by omega) h8))) (fu_at (by omega) (fu_at (by omega) (fu_at (by omega) h9))) rfl rfl (by decide) (by decide) (by decide) (by decide) (by decide) (fun i _ => rfl) (Nat.le_of_ble_eq_true rfl) (Nat.le_of_ble_eq_true rfl) dX5_copyFrom_57 fcpy_same (fun H locs hG => ?_)
  refine lv_aload_n S.1 S.2.1 dX5_copyFrom_60 rfl (lv_at hl 0 rfl) ?_
  refine lv_aload_n S.1 S.2.1 dX5_copyFrom_61 rfl (lv_at hl 1 rfl) ?_
  refine gx_get (C := RX5) (T := TX5) (N := 7) S hG (fu_at (by omega) (fu_at (by omega) (fu_at (by omega) (fu_at (by omega) h0)))) i_X5_copyFrom_X5 rfl 6 (by decide) (by decide +kernel) rfl dX5_copyFrom_62 ?_
  refine gx_put (C := RX5) (T := TX5) (N := 7) (ty := .int) (v := .int 1) (fs' := [.ref (N0 + 158), .ref (N0 + 159), .ref (N0 + 160), .ref (N0 + 161), .ref (N0 + 162), .ref (N0 + 163), .int 1]) S hG (fu_at (by omega) (fu_at (by omega) (fu_at (by omega) (fu_at (by omega) h1)))) i_X5_copyFrom_X5 rfl 6 (by decide) tyX5 tyX5_ok nmX5 (by decide +kernel) rfl (by decide +kernel) rfl rfl (Nat.le_of_ble_eq_true rfl) rfl dX5_copyFrom_65 (fun H locs hG => ?_)
  exact fx_vret S hr hlocks () hG trivial dX5_copyFrom_68
theorem k472_X7_copyTree {n : Nat} (hn : N0 + 231 ≤ n) (h0 : F N0 = some (.inr (9, [.ref (N0 + 1), .ref (N0 + 2), .ref (N0 + 11), .ref (N0 + 13), .ref (N0 + 63), .ref (N0 + 65), .ref (N0 + 85), .int (-1), .int (-1), .int 32]))) (h1 : F (N0 + 1) = some (.inl (cTr, 3, .inr (.inr (.inr (.inr (va_up (va_up (va_up (fun _ => none) 0 (some (N0 + 143))) 1 (some (N0 + 150))) 2 (some (N0 + 157))))))))) (h2 : F (N0 + 143) = some (.inr (7, [.ref (N0 + 144), .ref (N0 + 145), .ref (N0 + 146), .ref (N0 + 147), .ref (N0 + 148), .ref (N0 + 149), .int 1]))) (h3 : F (N0 + 157) = some (.inr (7, [.ref (N0 + 158), .ref (N0 + 159), .ref (N0 + 160), .ref (N0 + 161), .ref (N0 + 162), .ref (N0 + 163), .int 1]))) (h4 : F (N0 + 144) = some (.inl (cC, 20, .inl (upd (fun _ => 0) 0 97)))) (h5 : F (N0 + 158) = some (.inl (cC, 20, .inl (upd (fun _ => 0) 0 97)))) (h6 : F (N0 + 145) = some (.inl (cI, 20, .inl (fun _ => 0)))) (h7 : F (N0 + 159) = some (.inl (cI, 20, .inl (fun _ => 0)))) (h8 : F (N0 + 146) = some (.inl (cI, 20, .inl (fun _ => 0)))) (h9 : F (N0 + 160) = some (.inl (cI, 20, .inl (fun _ => 0)))) (h10 : F (N0 + 147) = some (.inl (cI, 20, .inl (upd (fun _ => 0) 0 (-1))))) (h11 : F (N0 + 161) = some (.inl (cI, 20, .inl (upd (fun _ => 0) 0 (-1))))) : Met l yX7_copyTree wsX7_copyTree ({ frames := 2, cells := 0, slots := 0, locals := 61 }) (va_Pc [.ref N0, .int 0, .int 2] (fP N0 D vwCl (fty cI cC cL cD cII cTr cTm cIt cB) (fen ql) F n)) (fQi N0 D vwCl (fty cI cC cL cD cII cTr cTm cIt cB) (fun (r : Int32) (_ : Unit) => r = 1) (fun _ => (fu (fu (fu (fu (fu F (N0 + 158) (.inl (cC, 20, .inl (upd (fun _ => 0) 0 97)))) (N0 + 159) (.inl (cI, 20, .inl (fun _ => 0)))) (N0 + 160) (.inl (cI, 20, .inl (fun _ => 0)))) (N0 + 161) (.inl (cI, 20, .inl (upd (fun _ => 0) 0 (-1))))) (N0 + 157) (.inr (7, [.ref (N0 + 158), .ref (N0 + 159), .ref (N0 + 160), .ref (N0 + 161), .ref (N0 + 162), .ref (N0 + 163), .int 1])))) (fun _ => n)) 0 0 (fA N0) := by
  refine fx_start 5 rfl rfl (Nat.le_of_ble_eq_true rfl) ?_ rfl
  intro p e s m below meth c ls S hr hlocks hin hG hl
  have hl : lv_has ls 5 [(0, .ref N0), (1, .int 0), (2, .int 2)] := hl
  have lt_h0 := hG.1.lt h0
  have lt_h1 := hG.1.lt h1
  have lt_h2 := hG.1.lt h2
  have lt_h3 := hG.1.lt h3
  have lt_h4 := hG.1.lt h4
  have lt_h5 := hG.1.lt h5
  have lt_h6 := hG.1.lt h6
  have lt_h7 := hG.1.lt h7
  have lt_h8 := hG.1.lt h8
  have lt_h9 := hG.1.lt h9
  have lt_h10 := hG.1.lt h10
  have lt_h11 := hG.1.lt h11
  refine lv_aload_n S.1 S.2.1 dX7_copyTree_0 rfl (lv_at hl 0 rfl) ?_
  refine lv_iload_n S.1 S.2.1 dX7_copyTree_1 rfl (lv_at hl 1 rfl) ?_
  refine fx_cVr (As := [.int 0]) (rest := []) S hG (k26_X7_treeAt (by omega) h0 h1) h0 rfl (cwV 1 S.2.2.2.2 gX7_copyTree_X7_treeAt rfl rfl rfl (by decide +kernel) ⟨Nat.le_of_ble_eq_true rfl, Nat.le_of_ble_eq_true rfl⟩) rfl hl.1 rfl (Nat.le_of_ble_eq_true rfl) dX7_copyTree_2 ⟨Nat.le_of_ble_eq_true rfl, Nat.le_of_ble_eq_true rfl⟩ (fun rv_1 _ H locs hp hG => ?_)
  subst rv_1
  refine lv_astore_n (lv' := [(3, .ref (N0 + 143)), (0, .ref N0), (1, .int 0), (2, .int 2)]) S.1 S.2.1 dX7_copyTree_5 rfl hl (by decide) rfl (fun ls hl => ?_)
  refine lv_aload_n S.1 S.2.1 dX7_copyTree_6 rfl (lv_at hl 1 rfl) ?_
  refine lv_iload_n S.1 S.2.1 dX7_copyTree_7 rfl (lv_at hl 3 rfl) ?_
  refine fx_cVr (As := [.int 2]) (rest := []) S hG (k48_X7_treeAt (by omega) h0 h1) h0 rfl (cwV 1 S.2.2.2.2 gX7_copyTree_X7_treeAt rfl rfl rfl (by decide +kernel) ⟨Nat.le_of_ble_eq_true rfl, Nat.le_of_ble_eq_true rfl⟩) rfl hl.1 rfl (Nat.le_of_ble_eq_true rfl) dX7_copyTree_8 ⟨Nat.le_of_ble_eq_true rfl, Nat.le_of_ble_eq_true rfl⟩ (fun rv_2 _ H locs hp hG => ?_)
  subst rv_2
  refine lv_astore (lv' := [(4, .ref (N0 + 157)), (3, .ref (N0 + 143)), (0, .ref N0), (1, .int 0), (2, .int 2)]) S.1 S.2.1 dX7_copyTree_11 hl (by decide) rfl (fun ls hl => ?_)
  refine lv_aload S.1 S.2.1 dX7_copyTree_13 (lv_at hl 0 rfl) ?_
  refine lv_aload_n S.1 S.2.1 dX7_copyTree_15 rfl (lv_at hl 1 rfl) ?_
  refine fx_cVv (As := [.ref (N0 + 143)]) (rest := []) S hG (k471_X5_copyFrom (by omega) h2 h3 h4 h5 h6 h7 h8 h9 h10 h11) h3 rfl (cwV 1 S.2.2.2.2 gX7_copyTree_X5_copyFrom rfl rfl rfl (by decide +kernel) ⟨Nat.le_of_ble_eq_true rfl, Nat.le_of_ble_eq_true rfl⟩) rfl hl.1 rfl (Nat.le_of_ble_eq_true rfl) dX7_copyTree_16 ⟨Nat.le_of_ble_eq_true rfl, Nat.le_of_ble_eq_true rfl⟩ (fun _ H locs hp hG => ?_)
  refine lv_aload S.1 S.2.1 dX7_copyTree_19 (lv_at hl 0 rfl) ?_
  refine gx_get (C := RX5) (T := TX5) (N := 7) S hG fu_s i_X7_copyTree_X5 rfl 6 (by decide) (by decide +kernel) rfl dX7_copyTree_21 ?_
  exact fx_iret S hr hlocks () hG (rfl) dX7_copyTree_24
theorem k473_L_copyTree {n : Nat} (hn : N0 + 231 ≤ n) (h0 : F N0 = some (.inr (9, [.ref (N0 + 1), .ref (N0 + 2), .ref (N0 + 11), .ref (N0 + 13), .ref (N0 + 63), .ref (N0 + 65), .ref (N0 + 85), .int (-1), .int (-1), .int 32]))) (h1 : F (N0 + 1) = some (.inl (cTr, 3, .inr (.inr (.inr (.inr (va_up (va_up (va_up (fun _ => none) 0 (some (N0 + 143))) 1 (some (N0 + 150))) 2 (some (N0 + 157))))))))) (h2 : F (N0 + 143) = some (.inr (7, [.ref (N0 + 144), .ref (N0 + 145), .ref (N0 + 146), .ref (N0 + 147), .ref (N0 + 148), .ref (N0 + 149), .int 1]))) (h3 : F (N0 + 157) = some (.inr (7, [.ref (N0 + 158), .ref (N0 + 159), .ref (N0 + 160), .ref (N0 + 161), .ref (N0 + 162), .ref (N0 + 163), .int 1]))) (h4 : F (N0 + 144) = some (.inl (cC, 20, .inl (upd (fun _ => 0) 0 97)))) (h5 : F (N0 + 158) = some (.inl (cC, 20, .inl (upd (fun _ => 0) 0 97)))) (h6 : F (N0 + 145) = some (.inl (cI, 20, .inl (fun _ => 0)))) (h7 : F (N0 + 159) = some (.inl (cI, 20, .inl (fun _ => 0)))) (h8 : F (N0 + 146) = some (.inl (cI, 20, .inl (fun _ => 0)))) (h9 : F (N0 + 160) = some (.inl (cI, 20, .inl (fun _ => 0)))) (h10 : F (N0 + 147) = some (.inl (cI, 20, .inl (upd (fun _ => 0) 0 (-1))))) (h11 : F (N0 + 161) = some (.inl (cI, 20, .inl (upd (fun _ => 0) 0 (-1))))) (h12 : F (N0 + 229) = some (.inl (cL, 1, .inr (.inl (fun _ => 0))))) : Met l yL_copyTree wsL_copyTree ({ frames := 3, cells := 0, slots := 0, locals := 85 }) (va_Pc [.ref N0, .int 0, .int 2, .ref (N0 + 229)] (fP N0 D vwCl (fty cI cC cL cD cII cTr cTm cIt cB) (fen ql) F n)) (fQi N0 D vwCl (fty cI cC cL cD cII cTr cTm cIt cB) (fun (r : Int32) (_ : Unit) => r = 0) (fun _ => (fu (fu (fu (fu (fu (fu F (N0 + 158) (.inl (cC, 20, .inl (upd (fun _ => 0) 0 97)))) (N0 + 159) (.inl (cI, 20, .inl (fun _ => 0)))) (N0 + 160) (.inl (cI, 20, .inl (fun _ => 0)))) (N0 + 161) (.inl (cI, 20, .inl (upd (fun _ => 0) 0 (-1))))) (N0 + 157) (.inr (7, [.ref (N0 + 158), .ref (N0 + 159), .ref (N0 + 160), .ref (N0 + 161), .ref (N0 + 162), .ref (N0 + 163), .int 1]))) (N0 + 229) (.inl (cL, 1, .inr (.inl (vp_updL (fun _ => 0) 0 1)))))) (fun _ => n)) 0 0 (fA N0) := by
  refine fx_startW (hh := [(0, 10, 13, 19)]) 5 rfl rfl (Nat.le_of_ble_eq_true rfl) ?_ rfl
  intro p e s m below meth c ls S htab hr hlocks hG hl
  have hl : lv_has ls 5 [(0, .ref N0), (1, .int 0), (2, .int 2), (3, .ref (N0 + 229))] := hl
  have lt_h0 := hG.1.lt h0
  have lt_h1 := hG.1.lt h1
  have lt_h2 := hG.1.lt h2
  have lt_h3 := hG.1.lt h3
  have lt_h4 := hG.1.lt h4
  have lt_h5 := hG.1.lt h5
  have lt_h6 := hG.1.lt h6
  have lt_h7 := hG.1.lt h7
  have lt_h8 := hG.1.lt h8
  have lt_h9 := hG.1.lt h9
  have lt_h10 := hG.1.lt h10
  have lt_h11 := hG.1.lt h11
  have lt_h12 := hG.1.lt h12
  refine lv_aload_n S.1 S.2.1 dL_copyTree_0 rfl (lv_at hl 3 rfl) ?_
  refine lv_iconst (v := 0) S.1 S.2.1 dL_copyTree_1 (by decide) ?_
  refine lv_aload_n S.1 S.2.1 dL_copyTree_2 rfl (lv_at hl 0 rfl) ?_
  refine lv_iload_n S.1 S.2.1 dL_copyTree_3 rfl (lv_at hl 1 rfl) ?_
  refine lv_iload_n S.1 S.2.1 dL_copyTree_4 rfl (lv_at hl 2 rfl) ?_
  refine fx_cVi (As := [.int 0, .int 2]) (rest := [.int 0, .ref (N0 + 229)]) S hG (k472_X7_copyTree (by omega) h0 h1 h2 h3 h4 h5 h6 h7 h8 h9 h10 h11) h0 rfl (cwV 2 S.2.2.2.2 gL_copyTree_X7_copyTree rfl rfl rfl (by decide +kernel) ⟨Nat.le_of_ble_eq_true rfl, Nat.le_of_ble_eq_true rfl⟩) rfl hl.1 rfl (Nat.le_of_ble_eq_true rfl) dL_copyTree_5 ⟨Nat.le_of_ble_eq_true rfl, Nat.le_of_ble_eq_true rfl⟩ (fun rv_1 _ H locs hp hG => ?_)
  subst rv_1
  refine lv_i2l (v := 1) S.1 S.2.1 dL_copyTree_8 (by decide) ?_
  refine gx_last (f' := vp_updL (fun _ => 0) 0 1) S hG 2 (fu_at (by omega) (fu_at (by omega) (fu_at (by omega) (fu_at (by omega) (fu_at (by omega) h12))))) rfl (fin_l (by decide)) dL_copyTree_9 rfl (fun H locs hG => ?_)
  refine lv_goto (tgt := 17) S.1 S.2.1 dL_copyTree_10 (by decide) ?_
  refine lv_iconst (v := 0) S.1 S.2.1 dL_copyTree_17 (by decide) ?_
  exact fx_iret S hr hlocks () hG (rfl) dL_copyTree_18
theorem k474_X10_areNone {n : Nat} (hn : N0 + 231 ≤ n) (h0 : F (N0 + 164) = some (.inr (12, [.ref (N0 + 165), .int 0, .ref (N0 + 181), .int 0, .int 0, .int 0, .int (-1), .ref (ql 24), .ref (N0 + 182), .ref (N0 + 187), .ref (N0 + 208), .ref (N0 + 209), .ref (N0 + 210), .ref (N0 + 211), .ref (N0 + 212), .int 0, .ref (N0 + 213), .ref (N0 + 218), .ref (N0 + 223), .ref (N0 + 224), .ref (N0 + 225), .ref (N0 + 226), .ref (N0 + 227), .int 0, .int 0, .ref (N0 + 228), .null, .int (-1), .int 0, .int 0, .int 0]))) : Met l yX10_areNone wsX10_areNone ({ frames := 2, cells := 0, slots := 0, locals := 42 }) (va_Pc [.ref (N0 + 164), .int 0, .int 2] (fP N0 D vwCl (fty cI cC cL cD cII cTr cTm cIt cB) (fen ql) F n)) (fQi N0 D vwCl (fty cI cC cL cD cII cTr cTm cIt cB) (fun (r : Int32) (_ : Unit) => r = 0) (fun _ => (fu F (N0 + 164) (.inr (12, [.ref (N0 + 165), .int 0, .ref (N0 + 181), .int 0, .int 0, .int 0, .int (-1), .ref (ql 24), .ref (N0 + 182), .ref (N0 + 187), .ref (N0 + 208), .ref (N0 + 209), .ref (N0 + 210), .ref (N0 + 211), .ref (N0 + 212), .int 0, .ref (N0 + 213), .ref (N0 + 218), .ref (N0 + 223), .ref (N0 + 224), .ref (N0 + 225), .ref (N0 + 226), .ref (N0 + 227), .int 0, .int 0, .ref (N0 + 228), .null, .int (-1), .int 0, .int 0, .int 0])))) (fun _ => n)) 0 0 (fA N0) := by
  refine fx_start 3 rfl rfl (Nat.le_of_ble_eq_true rfl) ?_ rfl
  intro p e s m below meth c ls S hr hlocks hin hG hl
  have hl : lv_has ls 3 [(0, .ref (N0 + 164)), (1, .int 0), (2, .int 2)] := hl
  have lt_h0 := hG.1.lt h0
  refine lv_aload_n S.1 S.2.1 dX10_areNone_0 rfl (lv_at hl 0 rfl) ?_
  refine lv_iload_n S.1 S.2.1 dX10_areNone_1 rfl (lv_at hl 1 rfl) ?_
  refine fx_cSi (As := [.int 0]) (rest := [.ref (N0 + 164)]) S hG (k34_X10_isTree (by omega)) (cwS 1 S.2.2.2.2 gX10_areNone_X10_isTree rfl rfl rfl (by decide +kernel) ⟨Nat.le_of_ble_eq_true rfl, Nat.le_of_ble_eq_true rfl⟩) rfl hl.1 rfl (Nat.le_of_ble_eq_true rfl) dX10_areNone_2 ⟨Nat.le_of_ble_eq_true rfl, Nat.le_of_ble_eq_true rfl⟩ (fun rv_1 _ H locs hp hG => ?_)
  subst rv_1
  refine lv_if_eq (tgt := 19) S.1 S.2.1 dX10_areNone_5 (by decide) (fun c => absurd c (by decide)) (fun _ => ?_)
  refine lv_iload_n S.1 S.2.1 dX10_areNone_8 rfl (lv_at hl 2 rfl) ?_
  refine fx_cSi (As := [.int 2]) (rest := [.ref (N0 + 164)]) S hG (k52_X10_isTree (by omega)) (cwS 1 S.2.2.2.2 gX10_areNone_X10_isTree rfl rfl rfl (by decide +kernel) ⟨Nat.le_of_ble_eq_true rfl, Nat.le_of_ble_eq_true rfl⟩) rfl hl.1 rfl (Nat.le_of_ble_eq_true rfl) dX10_areNone_9 ⟨Nat.le_of_ble_eq_true rfl, Nat.le_of_ble_eq_true rfl⟩ (fun rv_2 _ H locs hp hG => ?_)
  subst rv_2
  refine lv_if_eq (tgt := 19) S.1 S.2.1 dX10_areNone_12 (by decide) (fun c => absurd c (by decide)) (fun _ => ?_)
  refine lv_iconst (v := 0) S.1 S.2.1 dX10_areNone_15 (by decide) ?_
  refine lv_goto (tgt := 20) S.1 S.2.1 dX10_areNone_16 (by decide) ?_
  refine gx_put (C := RX10) (T := TX10) (N := 31) (ty := .int) (v := .int 0) (fs' := [.ref (N0 + 165), .int 0, .ref (N0 + 181), .int 0, .int 0, .int 0, .int (-1), .ref (ql 24), .ref (N0 + 182), .ref (N0 + 187), .ref (N0 + 208), .ref (N0 + 209), .ref (N0 + 210), .ref (N0 + 211), .ref (N0 + 212), .int 0, .ref (N0 + 213), .ref (N0 + 218), .ref (N0 + 223), .ref (N0 + 224), .ref (N0 + 225), .ref (N0 + 226), .ref (N0 + 227), .int 0, .int 0, .ref (N0 + 228), .null, .int (-1), .int 0, .int 0, .int 0]) S hG h0 i_X10_areNone_X10 rfl 1 (by decide) tyX10 tyX10_ok nmX10 (by decide +kernel) rfl (by decide +kernel) rfl rfl (Nat.le_of_ble_eq_true rfl) rfl dX10_areNone_20 (fun H locs hG => ?_)
  refine lv_aload_n S.1 S.2.1 dX10_areNone_23 rfl (lv_at hl 0 rfl) ?_
  refine gx_get (C := RX10) (T := TX10) (N := 31) S hG fu_s i_X10_areNone_X10 rfl 1 (by decide) (by decide +kernel) rfl dX10_areNone_24 ?_
  refine lv_if_le (tgt := 34) S.1 S.2.1 dX10_areNone_27 (by decide) (fun _ => ?_) (fun c => absurd (by decide) c)
  refine lv_iconst (v := 0) S.1 S.2.1 dX10_areNone_34 (by decide) ?_
  exact fx_zret S hr (rfl) hlocks () hG (rfl) dX10_areNone_35
theorem k475_X9_sets {n : Nat} (hn : N0 + 231 ≤ n) (h0 : F (N0 + 176) = some (.inr (11, [.ref (N0 + 177), .ref (N0 + 178), .ref (N0 + 179), .ref (N0 + 180), .int 1]))) (h1 : F (N0 + 177) = some (.inl (cI, 20, .inl (upd (fun _ => 0) 0 97)))) (h2 : F (N0 + 178) = some (.inl (cI, 20, .inl (upd (fun _ => 0) 0 0)))) (h3 : F (N0 + 179) = some (.inl (cI, 20, .inl (upd (fun _ => 0) 0 0)))) (h4 : F (N0 + 180) = some (.inl (cI, 20, .inl (upd (fun _ => 0) 0 (-1))))) : Met l yX9_sets wsX9_sets ({ frames := 0, cells := 0, slots := 0, locals := 0 }) (va_Pc [.ref (N0 + 176), .int 0, .int 97, .int 0, .int 0, .int (-1)] (fP N0 D vwCl (fty cI cC cL cD cII cTr cTm cIt cB) (fen ql) F n)) (fQv N0 D vwCl (fty cI cC cL cD cII cTr cTm cIt cB) (fun (_ : Unit) => True) (fun _ => (fu (fu (fu (fu F (N0 + 177) (.inl (cI, 20, .inl (upd (upd (fun _ => 0) 0 97) 0 97)))) (N0 + 178) (.inl (cI, 20, .inl (upd (upd (fun _ => 0) 0 0) 0 0)))) (N0 + 179) (.inl (cI, 20, .inl (upd (upd (fun _ => 0) 0 0) 0 0)))) (N0 + 180) (.inl (cI, 20, .inl (upd (upd (fun _ => 0) 0 (-1)) 0 (-1)))))) (fun _ => n)) 0 0 (fA N0) := by
  refine fx_start 6 rfl rfl (Nat.le_of_ble_eq_true rfl) ?_ rfl
  intro p e s m below meth c ls S hr hlocks hin hG hl
  have hl : lv_has ls 6 [(0, .ref (N0 + 176)), (1, .int 0), (2, .int 97), (3, .int 0), (4, .int 0), (5, .int (-1))] := hl
  have lt_h0 := hG.1.lt h0
  have lt_h1 := hG.1.lt h1
  have lt_h2 := hG.1.lt h2
  have lt_h3 := hG.1.lt h3
  have lt_h4 := hG.1.lt h4
  refine lv_aload_n S.1 S.2.1 dX9_sets_0 rfl (lv_at hl 0 rfl) ?_
  refine gx_get (C := RX9) (T := TX9) (N := 5) S hG h0 i_X9_sets_X9 rfl 0 (by decide) (by decide +kernel) rfl dX9_sets_1 ?_
  refine lv_iload_n S.1 S.2.1 dX9_sets_4 rfl (lv_at hl 1 rfl) ?_
  refine lv_iload_n S.1 S.2.1 dX9_sets_5 rfl (lv_at hl 2 rfl) ?_
  refine gx_iast (f' := upd (upd (fun _ => 0) 0 97) 0 97) S hG 0 h1 rfl (fin_l (by decide)) dX9_sets_6 (rfl) (fun H locs hG => ?_)
  refine lv_aload_n S.1 S.2.1 dX9_sets_7 rfl (lv_at hl 0 rfl) ?_
  refine gx_get (C := RX9) (T := TX9) (N := 5) S hG (fu_at (by omega) h0) i_X9_sets_X9 rfl 1 (by decide) (by decide +kernel) rfl dX9_sets_8 ?_
  refine lv_iload_n S.1 S.2.1 dX9_sets_11 rfl (lv_at hl 1 rfl) ?_
  refine lv_iload_n S.1 S.2.1 dX9_sets_12 rfl (lv_at hl 3 rfl) ?_
  refine gx_iast (f' := upd (upd (fun _ => 0) 0 0) 0 0) S hG 0 (fu_at (by omega) h2) rfl (fin_l (by decide)) dX9_sets_13 (rfl) (fun H locs hG => ?_)
  refine lv_aload_n S.1 S.2.1 dX9_sets_14 rfl (lv_at hl 0 rfl) ?_
  refine gx_get (C := RX9) (T := TX9) (N := 5) S hG (fu_at (by omega) (fu_at (by omega) h0)) i_X9_sets_X9 rfl 2 (by decide) (by decide +kernel) rfl dX9_sets_15 ?_
  refine lv_iload_n S.1 S.2.1 dX9_sets_18 rfl (lv_at hl 1 rfl) ?_
  refine lv_iload S.1 S.2.1 dX9_sets_19 (lv_at hl 4 rfl) ?_
  refine gx_iast (f' := upd (upd (fun _ => 0) 0 0) 0 0) S hG 0 (fu_at (by omega) (fu_at (by omega) h3)) rfl (fin_l (by decide)) dX9_sets_21 (rfl) (fun H locs hG => ?_)
  refine lv_aload_n S.1 S.2.1 dX9_sets_22 rfl (lv_at hl 0 rfl) ?_
  refine gx_get (C := RX9) (T := TX9) (N := 5) S hG (fu_at (by omega) (fu_at (by omega) (fu_at (by omega) h0))) i_X9_sets_X9 rfl 3 (by decide) (by decide +kernel) rfl dX9_sets_23 ?_
  refine lv_iload_n S.1 S.2.1 dX9_sets_26 rfl (lv_at hl 1 rfl) ?_
  refine lv_iload S.1 S.2.1 dX9_sets_27 (lv_at hl 5 rfl) ?_
  refine gx_iast (f' := upd (upd (fun _ => 0) 0 (-1)) 0 (-1)) S hG 0 (fu_at (by omega) (fu_at (by omega) (fu_at (by omega) h4))) rfl (fin_l (by decide)) dX9_sets_29 (rfl) (fun H locs hG => ?_)
  exact fx_vret S hr hlocks () hG trivial dX9_sets_30
theorem k476_X9_copies {n : Nat} (hn : N0 + 231 ≤ n) (h0 : F (N0 + 166) = some (.inr (11, [.ref (N0 + 167), .ref (N0 + 168), .ref (N0 + 169), .ref (N0 + 170), .int 1]))) (h1 : F (N0 + 176) = some (.inr (11, [.ref (N0 + 177), .ref (N0 + 178), .ref (N0 + 179), .ref (N0 + 180), .int 1]))) (h2 : F (N0 + 167) = some (.inl (cI, 20, .inl (upd (fun _ => 0) 0 97)))) (h3 : F (N0 + 168) = some (.inl (cI, 20, .inl (upd (fun _ => 0) 0 0)))) (h4 : F (N0 + 169) = some (.inl (cI, 20, .inl (upd (fun _ => 0) 0 0)))) (h5 : F (N0 + 170) = some (.inl (cI, 20, .inl (upd (fun _ => 0) 0 (-1))))) (h6 : F (N0 + 177) = some (.inl (cI, 20, .inl (upd (fun _ => 0) 0 97)))) (h7 : F (N0 + 178) = some (.inl (cI, 20, .inl (upd (fun _ => 0) 0 0)))) (h8 : F (N0 + 179) = some (.inl (cI, 20, .inl (upd (fun _ => 0) 0 0)))) (h9 : F (N0 + 180) = some (.inl (cI, 20, .inl (upd (fun _ => 0) 0 (-1))))) : Met l yX9_copies wsX9_copies ({ frames := 1, cells := 0, slots := 0, locals := 25 }) (va_Pc [.ref (N0 + 176), .ref (N0 + 166)] (fP N0 D vwCl (fty cI cC cL cD cII cTr cTm cIt cB) (fen ql) F n)) (fQv N0 D vwCl (fty cI cC cL cD cII cTr cTm cIt cB) (fun (_ : Unit) => True) (fun _ => (fu (fu (fu (fu (fu F (N0 + 176) (.inr (11, [.ref (N0 + 177), .ref (N0 + 178), .ref (N0 + 179), .ref (N0 + 180), .int 1]))) (N0 + 177) (.inl (cI, 20, .inl (upd (upd (fun _ => 0) 0 97) 0 97)))) (N0 + 178) (.inl (cI, 20, .inl (upd (upd (fun _ => 0) 0 0) 0 0)))) (N0 + 179) (.inl (cI, 20, .inl (upd (upd (fun _ => 0) 0 0) 0 0)))) (N0 + 180) (.inl (cI, 20, .inl (upd (upd (fun _ => 0) 0 (-1)) 0 (-1)))))) (fun _ => n)) 0 0 (fA N0) := by
  refine fx_start 3 rfl rfl (Nat.le_of_ble_eq_true rfl) ?_ rfl
  intro p e s m below meth c ls S hr hlocks hin hG hl
  have hl : lv_has ls 3 [(0, .ref (N0 + 176)), (1, .ref (N0 + 166))] := hl
  have lt_h0 := hG.1.lt h0
  have lt_h1 := hG.1.lt h1
  have lt_h2 := hG.1.lt h2
  have lt_h3 := hG.1.lt h3
  have lt_h4 := hG.1.lt h4
  have lt_h5 := hG.1.lt h5
  have lt_h6 := hG.1.lt h6
  have lt_h7 := hG.1.lt h7
  have lt_h8 := hG.1.lt h8
  have lt_h9 := hG.1.lt h9
  refine lv_aload_n S.1 S.2.1 dX9_copies_0 rfl (lv_at hl 0 rfl) ?_
  refine lv_aload_n S.1 S.2.1 dX9_copies_1 rfl (lv_at hl 1 rfl) ?_
  refine gx_get (C := RX9) (T := TX9) (N := 5) S hG h0 i_X9_copies_X9 rfl 4 (by decide) (by decide +kernel) rfl dX9_copies_2 ?_
  refine gx_put (C := RX9) (T := TX9) (N := 5) (ty := .int) (v := .int 1) (fs' := [.ref (N0 + 177), .ref (N0 + 178), .ref (N0 + 179), .ref (N0 + 180), .int 1]) S hG h1 i_X9_copies_X9 rfl 4 (by decide) tyX9 tyX9_ok nmX9 (by decide +kernel) rfl (by decide +kernel) rfl rfl (Nat.le_of_ble_eq_true rfl) rfl dX9_copies_5 (fun H locs hG => ?_)
  refine lv_iconst (v := 0) S.1 S.2.1 dX9_copies_8 (by decide) ?_
  refine lv_istore_n (lv' := [(2, .int 0), (0, .ref (N0 + 176)), (1, .ref (N0 + 166))]) S.1 S.2.1 dX9_copies_9 rfl hl (by decide) rfl (fun ls hl => ?_)
  refine lv_iload_n S.1 S.2.1 dX9_copies_10 rfl (lv_at hl 0 rfl) ?_
  refine lv_aload_n S.1 S.2.1 dX9_copies_11 rfl (lv_at hl 1 rfl) ?_
  refine gx_get (C := RX9) (T := TX9) (N := 5) S hG fu_s i_X9_copies_X9 rfl 4 (by decide) (by decide +kernel) rfl dX9_copies_12 ?_
  refine lv_icmp_ge (tgt := 53) S.1 S.2.1 dX9_copies_15 (by decide) (fun c => absurd c (by decide)) (fun _ => ?_)
  refine lv_aload_n S.1 S.2.1 dX9_copies_18 rfl (lv_at hl 1 rfl) ?_
  refine lv_iload_n S.1 S.2.1 dX9_copies_19 rfl (lv_at hl 0 rfl) ?_
  refine lv_aload_n S.1 S.2.1 dX9_copies_20 rfl (lv_at hl 2 rfl) ?_
  refine gx_get (C := RX9) (T := TX9) (N := 5) S hG (fu_at (by omega) h0) i_X9_copies_X9 rfl 0 (by decide) (by decide +kernel) rfl dX9_copies_21 ?_
  refine lv_iload_n S.1 S.2.1 dX9_copies_24 rfl (lv_at hl 0 rfl) ?_
  refine gx_iald (v := 97) S hG 0 (fu_at (by omega) h2) rfl (fin_l (by decide)) (by decide) dX9_copies_25 ?_
  refine lv_aload_n S.1 S.2.1 dX9_copies_26 rfl (lv_at hl 2 rfl) ?_
  refine gx_get (C := RX9) (T := TX9) (N := 5) S hG (fu_at (by omega) h0) i_X9_copies_X9 rfl 1 (by decide) (by decide +kernel) rfl dX9_copies_27 ?_
  refine lv_iload_n S.1 S.2.1 dX9_copies_30 rfl (lv_at hl 0 rfl) ?_
  refine gx_iald (v := 0) S hG 0 (fu_at (by omega) h3) rfl (fin_l (by decide)) (by decide) dX9_copies_31 ?_
  refine lv_aload_n S.1 S.2.1 dX9_copies_32 rfl (lv_at hl 2 rfl) ?_
  refine gx_get (C := RX9) (T := TX9) (N := 5) S hG (fu_at (by omega) h0) i_X9_copies_X9 rfl 2 (by decide) (by decide +kernel) rfl dX9_copies_33 ?_
  refine lv_iload_n S.1 S.2.1 dX9_copies_36 rfl (lv_at hl 0 rfl) ?_
  refine gx_iald (v := 0) S hG 0 (fu_at (by omega) h4) rfl (fin_l (by decide)) (by decide) dX9_copies_37 ?_
  refine lv_aload_n S.1 S.2.1 dX9_copies_38 rfl (lv_at hl 2 rfl) ?_
  refine gx_get (C := RX9) (T := TX9) (N := 5) S hG (fu_at (by omega) h0) i_X9_copies_X9 rfl 3 (by decide) (by decide +kernel) rfl dX9_copies_39 ?_
  refine lv_iload_n S.1 S.2.1 dX9_copies_42 rfl (lv_at hl 0 rfl) ?_
  refine gx_iald (v := (-1)) S hG 0 (fu_at (by omega) h5) rfl (fin_l (by decide)) (by decide) dX9_copies_43 ?_
  refine fx_cVv (As := [.int 0, .int 97, .int 0, .int 0, .int (-1)]) (rest := []) S hG (k475_X9_sets (by omega) fu_s (fu_at (by omega) h6) (fu_at (by omega) h7) (fu_at (by omega) h8) (fu_at (by omega) h9)) fu_s rfl (cwV 5 S.2.2.2.2 gX9_copies_X9_sets rfl rfl rfl (by decide +kernel) ⟨Nat.le_of_ble_eq_true rfl, Nat.le_of_ble_eq_true rfl⟩) rfl hl.1 rfl (Nat.le_of_ble_eq_true rfl) dX9_copies_44 ⟨Nat.le_of_ble_eq_true rfl, Nat.le_of_ble_eq_true rfl⟩ (fun _ H locs hp hG => ?_)
  refine lv_iinc (v := 1) (lv' := [(2, .int 1), (0, .ref (N0 + 176)), (1, .ref (N0 + 166))]) S.1 S.2.1 dX9_copies_47 hl (k := 0) rfl (by decide) (by decide) rfl (fun ls hl => ?_)
  refine lv_goto (tgt := 10) S.1 S.2.1 dX9_copies_50 (by decide) ?_
  refine lv_iload_n S.1 S.2.1 dX9_copies_10 rfl (lv_at hl 0 rfl) ?_
  refine lv_aload_n S.1 S.2.1 dX9_copies_11 rfl (lv_at hl 1 rfl) ?_
  refine gx_get (C := RX9) (T := TX9) (N := 5) S hG (fu_at (by omega) (fu_at (by omega) (fu_at (by omega) (fu_at (by omega) fu_s)))) i_X9_copies_X9 rfl 4 (by decide) (by decide +kernel) rfl dX9_copies_12 ?_
  refine lv_icmp_ge (tgt := 53) S.1 S.2.1 dX9_copies_15 (by decide) (fun _ => ?_) (fun c => absurd (by decide) c)
  exact fx_vret S hr hlocks () hG trivial dX9_copies_53
theorem k477_X10_copyTree {n : Nat} (hn : N0 + 231 ≤ n) (h0 : F (N0 + 164) = some (.inr (12, [.ref (N0 + 165), .int 0, .ref (N0 + 181), .int 0, .int 0, .int 0, .int (-1), .ref (ql 24), .ref (N0 + 182), .ref (N0 + 187), .ref (N0 + 208), .ref (N0 + 209), .ref (N0 + 210), .ref (N0 + 211), .ref (N0 + 212), .int 0, .ref (N0 + 213), .ref (N0 + 218), .ref (N0 + 223), .ref (N0 + 224), .ref (N0 + 225), .ref (N0 + 226), .ref (N0 + 227), .int 0, .int 0, .ref (N0 + 228), .null, .int (-1), .int 0, .int 0, .int 0]))) (h1 : F (N0 + 165) = some (.inl (cTm, 3, .inr (.inr (.inr (.inr (va_up (va_up (va_up (fun _ => none) 0 (some (N0 + 166))) 1 (some (N0 + 171))) 2 (some (N0 + 176))))))))) (h2 : F (N0 + 166) = some (.inr (11, [.ref (N0 + 167), .ref (N0 + 168), .ref (N0 + 169), .ref (N0 + 170), .int 1]))) (h3 : F (N0 + 176) = some (.inr (11, [.ref (N0 + 177), .ref (N0 + 178), .ref (N0 + 179), .ref (N0 + 180), .int 1]))) (h4 : F (N0 + 167) = some (.inl (cI, 20, .inl (upd (fun _ => 0) 0 97)))) (h5 : F (N0 + 168) = some (.inl (cI, 20, .inl (upd (fun _ => 0) 0 0)))) (h6 : F (N0 + 169) = some (.inl (cI, 20, .inl (upd (fun _ => 0) 0 0)))) (h7 : F (N0 + 170) = some (.inl (cI, 20, .inl (upd (fun _ => 0) 0 (-1))))) (h8 : F (N0 + 177) = some (.inl (cI, 20, .inl (upd (fun _ => 0) 0 97)))) (h9 : F (N0 + 178) = some (.inl (cI, 20, .inl (upd (fun _ => 0) 0 0)))) (h10 : F (N0 + 179) = some (.inl (cI, 20, .inl (upd (fun _ => 0) 0 0)))) (h11 : F (N0 + 180) = some (.inl (cI, 20, .inl (upd (fun _ => 0) 0 (-1))))) : Met l yX10_copyTree wsX10_copyTree ({ frames := 3, cells := 0, slots := 0, locals := 64 }) (va_Pc [.ref (N0 + 164), .int 0, .int 2] (fP N0 D vwCl (fty cI cC cL cD cII cTr cTm cIt cB) (fen ql) F n)) (fQi N0 D vwCl (fty cI cC cL cD cII cTr cTm cIt cB) (fun (r : Int32) (_ : Unit) => r = 1) (fun _ => (fu (fu (fu (fu (fu (fu F (N0 + 164) (.inr (12, [.ref (N0 + 165), .int 0, .ref (N0 + 181), .int 0, .int 0, .int 0, .int (-1), .ref (ql 24), .ref (N0 + 182), .ref (N0 + 187), .ref (N0 + 208), .ref (N0 + 209), .ref (N0 + 210), .ref (N0 + 211), .ref (N0 + 212), .int 0, .ref (N0 + 213), .ref (N0 + 218), .ref (N0 + 223), .ref (N0 + 224), .ref (N0 + 225), .ref (N0 + 226), .ref (N0 + 227), .int 0, .int 0, .ref (N0 + 228), .null, .int (-1), .int 0, .int 0, .int 0]))) (N0 + 176) (.inr (11, [.ref (N0 + 177), .ref (N0 + 178), .ref (N0 + 179), .ref (N0 + 180), .int 1]))) (N0 + 177) (.inl (cI, 20, .inl (upd (upd (fun _ => 0) 0 97) 0 97)))) (N0 + 178) (.inl (cI, 20, .inl (upd (upd (fun _ => 0) 0 0) 0 0)))) (N0 + 179) (.inl (cI, 20, .inl (upd (upd (fun _ => 0) 0 0) 0 0)))) (N0 + 180) (.inl (cI, 20, .inl (upd (upd (fun _ => 0) 0 (-1)) 0 (-1)))))) (fun _ => n)) 0 0 (fA N0) := by
  refine fx_start 3 rfl rfl (Nat.le_of_ble_eq_true rfl) ?_ rfl
  intro p e s m below meth c ls S hr hlocks hin hG hl
  have hl : lv_has ls 3 [(0, .ref (N0 + 164)), (1, .int 0), (2, .int 2)] := hl
  have lt_h0 := hG.1.lt h0
  have lt_h1 := hG.1.lt h1
  have lt_h2 := hG.1.lt h2
  have lt_h3 := hG.1.lt h3
  have lt_h4 := hG.1.lt h4
  have lt_h5 := hG.1.lt h5
  have lt_h6 := hG.1.lt h6
  have lt_h7 := hG.1.lt h7
  have lt_h8 := hG.1.lt h8
  have lt_h9 := hG.1.lt h9
  have lt_h10 := hG.1.lt h10
  have lt_h11 := hG.1.lt h11
  refine lv_aload_n S.1 S.2.1 dX10_copyTree_0 rfl (lv_at hl 0 rfl) ?_
  refine lv_iload_n S.1 S.2.1 dX10_copyTree_1 rfl (lv_at hl 1 rfl) ?_
  refine lv_iload_n S.1 S.2.1 dX10_copyTree_2 rfl (lv_at hl 2 rfl) ?_
  refine fx_cVi (As := [.int 0, .int 2]) (rest := []) S hG (k474_X10_areNone (by omega) h0) h0 rfl (cwV 2 S.2.2.2.2 gX10_copyTree_X10_areNone rfl rfl rfl (by decide +kernel) ⟨Nat.le_of_ble_eq_true rfl, Nat.le_of_ble_eq_true rfl⟩) rfl hl.1 rfl (Nat.le_of_ble_eq_true rfl) dX10_copyTree_3 ⟨Nat.le_of_ble_eq_true rfl, Nat.le_of_ble_eq_true rfl⟩ (fun rv_1 _ H locs hp hG => ?_)
  subst rv_1
  refine lv_if_eq (tgt := 11) S.1 S.2.1 dX10_copyTree_6 (by decide) (fun _ => ?_) (fun c => absurd (by decide) c)
  refine lv_aload_n S.1 S.2.1 dX10_copyTree_11 rfl (lv_at hl 0 rfl) ?_
  refine gx_get (C := RX10) (T := TX10) (N := 31) S hG fu_s i_X10_copyTree_X10 rfl 0 (by decide) (by decide +kernel) rfl dX10_copyTree_12 ?_
  refine lv_iload_n S.1 S.2.1 dX10_copyTree_15 rfl (lv_at hl 2 rfl) ?_
  refine gx_aldq (x := (N0 + 176)) S hG 6 rfl (fu_at (by omega) h1) rfl (fin_l (by decide)) (rfl) dX10_copyTree_16 ?_
  refine lv_aload_n S.1 S.2.1 dX10_copyTree_17 rfl (lv_at hl 0 rfl) ?_
  refine gx_get (C := RX10) (T := TX10) (N := 31) S hG fu_s i_X10_copyTree_X10 rfl 0 (by decide) (by decide +kernel) rfl dX10_copyTree_18 ?_
  refine lv_iload_n S.1 S.2.1 dX10_copyTree_21 rfl (lv_at hl 1 rfl) ?_
  refine gx_aldq (x := (N0 + 166)) S hG 6 rfl (fu_at (by omega) h1) rfl (fin_l (by decide)) (rfl) dX10_copyTree_22 ?_
  refine fx_cVNv (host := "TreeDifferModel") (As := [.ref (N0 + 166)]) (rest := []) S hG (k476_X9_copies (by omega) (fu_at (by omega) h2) (fu_at (by omega) h3) (fu_at (by omega) h4) (fu_at (by omega) h5) (fu_at (by omega) h6) (fu_at (by omega) h7) (fu_at (by omega) h8) (fu_at (by omega) h9) (fu_at (by omega) h10) (fu_at (by omega) h11)) (fu_at (by omega) h3) rfl ⟨(va_cnB 1 S.2.2.2.2 gX10_copyTree_X9_copies_n157 rfl rfl rfl (hG.nest (show _ ∈ fen2.2.2.1 from by decide)) (S.2.2.2.2 (.initialized RX9) (by decide +kernel)) (by decide +kernel) ⟨Nat.le_of_ble_eq_true rfl, Nat.le_of_ble_eq_true rfl⟩), S.2.2.2.2 (.instanceMethod yX9_copies) (by decide +kernel), S.2.2.2.2 (.selects RX9 yX9_copies yX9_copies) (by decide +kernel)⟩ rfl hl.1 rfl (Nat.le_of_ble_eq_true rfl) dX10_copyTree_23 ⟨Nat.le_of_ble_eq_true rfl, Nat.le_of_ble_eq_true rfl⟩ (fun _ H locs hp hG => ?_)
  refine lv_aload_n S.1 S.2.1 dX10_copyTree_26 rfl (lv_at hl 0 rfl) ?_
  refine gx_get (C := RX10) (T := TX10) (N := 31) S hG (fu_at (by omega) (fu_at (by omega) (fu_at (by omega) (fu_at (by omega) (fu_at (by omega) fu_s))))) i_X10_copyTree_X10 rfl 0 (by decide) (by decide +kernel) rfl dX10_copyTree_27 ?_
  refine lv_iload_n S.1 S.2.1 dX10_copyTree_30 rfl (lv_at hl 1 rfl) ?_
  refine gx_aldq (x := (N0 + 166)) S hG 6 rfl (fu_at (by omega) (fu_at (by omega) (fu_at (by omega) (fu_at (by omega) (fu_at (by omega) (fu_at (by omega) h1)))))) rfl (fin_l (by decide)) (rfl) dX10_copyTree_31 ?_
  refine gx_getN (C := RX9) (T := TX9) (N := 5) S hG (fu_at (by omega) (fu_at (by omega) (fu_at (by omega) (fu_at (by omega) (fu_at (by omega) (fu_at (by omega) h2)))))) i_X10_copyTree_X9 rfl 4 (by decide) (List.mem_of_getElem? (i := 4) rfl) rfl dX10_copyTree_32 ?_
  exact fx_iret S hr hlocks () hG (rfl) dX10_copyTree_35
theorem k478_X7_treeAt {n : Nat} {a2 : Int32} (g_a2_ge_3 : 3 ≤ a2) (hst : l.stackTraces = false) (hn : N0 + 231 ≤ n)  : vx_Met l yX7_treeAt wsX7_treeAt ({ frames := 6, cells := 1, slots := 6, locals := 82 }) (va_Pc [.ref N0, .int a2] (fP N0 D vwCl (fty cI cC cL cD cII cTr cTm cIt cB) (fen ql) F n)) (fNo N0 D vwCl (fty cI cC cL cD cII cTr cTm cIt cB) F n) (fXC N0 D vwCl (fty cI cC cL cD cII cTr cTm cIt cB) "java/lang/IndexOutOfBoundsException" F n) 1 6 (fA N0) := by
  refine fx_startX 2 rfl rfl (Nat.le_of_ble_eq_true rfl) ?_ rfl
  intro p e s m below meth c ls S htab hlocks hG hl
  have hl : lv_has ls 2 [(0, .ref N0), (1, .int a2)] := hl
  refine lv_iload_n S.1 S.2.1 dX7_treeAt_0 rfl (lv_at hl 1 rfl) ?_
  refine lv_if_lt (tgt := 9) S.1 S.2.1 dX7_treeAt_1 (by decide) (fun c => absurd c (Int32.not_lt.mpr (Int32.le_trans (by decide) g_a2_ge_3))) (fun _ => ?_)
  refine lv_iload_n S.1 S.2.1 dX7_treeAt_4 rfl (lv_at hl 1 rfl) ?_
  refine lv_iconst (v := 3) S.1 S.2.1 dX7_treeAt_5 (by decide) ?_
  refine lv_icmp_lt (tgt := 20) S.1 S.2.1 dX7_treeAt_6 (by decide) (fun c => absurd c (Int32.not_lt.mpr (Int32.le_trans (by decide) g_a2_ge_3))) (fun _ => ?_)
  exact fx_throwW (text := "no such tree") S hG hl.1 hst (by decide) (by decide +kernel) (by decide +kernel) (List.mem_of_getElem? (i := 20) rfl) (by decide +kernel) (by decide +kernel) (by decide +kernel) (List.mem_of_getElem? (i := 2) rfl) (List.mem_of_getElem? (i := 0) rfl) (List.mem_of_getElem? (i := 1) rfl) (List.mem_of_getElem? (i := 2) rfl) dX7_treeAt_9 dX7_treeAt_12 dX7_treeAt_13 dX7_treeAt_16 dX7_treeAt_19 htab (by decide) (Nat.le_of_ble_eq_true rfl) (by decide) (by decide) hlocks (by decide) (by decide)
theorem k479_X7_copyTree {n : Nat} {a2 : Int32} (g_a2_ge_3 : 3 ≤ a2) (hst : l.stackTraces = false) (hn : N0 + 231 ≤ n) (h0 : F N0 = some (.inr (9, [.ref (N0 + 1), .ref (N0 + 2), .ref (N0 + 11), .ref (N0 + 13), .ref (N0 + 63), .ref (N0 + 65), .ref (N0 + 85), .int (-1), .int (-1), .int 32]))) (h1 : F (N0 + 1) = some (.inl (cTr, 3, .inr (.inr (.inr (.inr (va_up (va_up (va_up (fun _ => none) 0 (some (N0 + 143))) 1 (some (N0 + 150))) 2 (some (N0 + 157))))))))) : vx_Met l yX7_copyTree wsX7_copyTree ({ frames := 7, cells := 1, slots := 6, locals := 103 }) (va_Pc [.ref N0, .int 0, .int a2] (fP N0 D vwCl (fty cI cC cL cD cII cTr cTm cIt cB) (fen ql) F n)) (fNo N0 D vwCl (fty cI cC cL cD cII cTr cTm cIt cB) F n) (fXC N0 D vwCl (fty cI cC cL cD cII cTr cTm cIt cB) "java/lang/IndexOutOfBoundsException" F n) 1 6 (fA N0) := by
  refine fx_startX 5 rfl rfl (Nat.le_of_ble_eq_true rfl) ?_ rfl
  intro p e s m below meth c ls S htab hlocks hG hl
  have hl : lv_has ls 5 [(0, .ref N0), (1, .int 0), (2, .int a2)] := hl
  have lt_h0 := hG.1.lt h0
  have lt_h1 := hG.1.lt h1
  refine lv_aload_n S.1 S.2.1 dX7_copyTree_0 rfl (lv_at hl 0 rfl) ?_
  refine lv_iload_n S.1 S.2.1 dX7_copyTree_1 rfl (lv_at hl 1 rfl) ?_
  refine fx_cVr (As := [.int 0]) (rest := []) S hG (k26_X7_treeAt (by omega) h0 h1) h0 rfl (cwV 1 S.2.2.2.2 gX7_copyTree_X7_treeAt rfl rfl rfl (by decide +kernel) ⟨Nat.le_of_ble_eq_true rfl, Nat.le_of_ble_eq_true rfl⟩) rfl hl.1 rfl (Nat.le_of_ble_eq_true rfl) dX7_copyTree_2 ⟨Nat.le_of_ble_eq_true rfl, Nat.le_of_ble_eq_true rfl⟩ (fun rv_1 _ H locs hp hG => ?_)
  subst rv_1
  refine lv_astore_n (lv' := [(3, .ref (N0 + 143)), (0, .ref N0), (1, .int 0), (2, .int a2)]) S.1 S.2.1 dX7_copyTree_5 rfl hl (by decide) rfl (fun ls hl => ?_)
  refine lv_aload_n S.1 S.2.1 dX7_copyTree_6 rfl (lv_at hl 1 rfl) ?_
  refine lv_iload_n S.1 S.2.1 dX7_copyTree_7 rfl (lv_at hl 3 rfl) ?_
  refine fx_xV (As := [.int a2]) (rest := []) S hG (k478_X7_treeAt g_a2_ge_3 hst (by omega)) h0 rfl (cwV 1 S.2.2.2.2 gX7_copyTree_X7_treeAt rfl rfl rfl (by decide +kernel) ⟨Nat.le_of_ble_eq_true rfl, Nat.le_of_ble_eq_true rfl⟩) rfl hl.1 rfl (Nat.le_of_ble_eq_true rfl) dX7_copyTree_8 ⟨Nat.le_of_ble_eq_true rfl, Nat.le_of_ble_eq_true rfl⟩ (fun ceq_2 q_2 H locs n_3 hn_3 hG h1q_2 h2q_2 h3q_2 => ?_)
  exact fx_out htab hlocks hG (by omega) h1q_2 h2q_2 h3q_2 (by decide) (by decide)
theorem k480_L_copyTree {n : Nat} {a2 : Int32} (g_a2_ge_3 : 3 ≤ a2) (hst : l.stackTraces = false) (hn : N0 + 231 ≤ n) (h0 : F N0 = some (.inr (9, [.ref (N0 + 1), .ref (N0 + 2), .ref (N0 + 11), .ref (N0 + 13), .ref (N0 + 63), .ref (N0 + 65), .ref (N0 + 85), .int (-1), .int (-1), .int 32]))) (h1 : F (N0 + 1) = some (.inl (cTr, 3, .inr (.inr (.inr (.inr (va_up (va_up (va_up (fun _ => none) 0 (some (N0 + 143))) 1 (some (N0 + 150))) 2 (some (N0 + 157))))))))) : Met l yL_copyTree wsL_copyTree ({ frames := 8, cells := 1, slots := 6, locals := 127 }) (va_Pc [.ref N0, .int 0, .int a2, .ref (N0 + 229)] (fP N0 D vwCl (fty cI cC cL cD cII cTr cTm cIt cB) (fen ql) F n)) (fQi N0 D vwCl (fty cI cC cL cD cII cTr cTm cIt cB) (fun (r : Int32) (u : Nat) => r = 1 ∧ n ≤ u) (fun _ => F) (fun u => u)) 1 6 (fA N0) := by
  refine fx_startW (hh := [(0, 10, 13, 19)]) 5 rfl rfl (Nat.le_of_ble_eq_true rfl) ?_ rfl
  intro p e s m below meth c ls S htab hr hlocks hG hl
  have hl : lv_has ls 5 [(0, .ref N0), (1, .int 0), (2, .int a2), (3, .ref (N0 + 229))] := hl
  have lt_h0 := hG.1.lt h0
  have lt_h1 := hG.1.lt h1
  refine lv_aload_n S.1 S.2.1 dL_copyTree_0 rfl (lv_at hl 3 rfl) ?_
  refine lv_iconst (v := 0) S.1 S.2.1 dL_copyTree_1 (by decide) ?_
  refine lv_aload_n S.1 S.2.1 dL_copyTree_2 rfl (lv_at hl 0 rfl) ?_
  refine lv_iload_n S.1 S.2.1 dL_copyTree_3 rfl (lv_at hl 1 rfl) ?_
  refine lv_iload_n S.1 S.2.1 dL_copyTree_4 rfl (lv_at hl 2 rfl) ?_
  refine fx_xV (As := [.int 0, .int a2]) (rest := [.int 0, .ref (N0 + 229)]) S hG (k479_X7_copyTree g_a2_ge_3 hst (by omega) h0 h1) h0 rfl (cwV 2 S.2.2.2.2 gL_copyTree_X7_copyTree rfl rfl rfl (by decide +kernel) ⟨Nat.le_of_ble_eq_true rfl, Nat.le_of_ble_eq_true rfl⟩) rfl hl.1 rfl (Nat.le_of_ble_eq_true rfl) dL_copyTree_5 ⟨Nat.le_of_ble_eq_true rfl, Nat.le_of_ble_eq_true rfl⟩ (fun ceq_1 q_1 H locs n_2 hn_2 hG h1q_1 h2q_1 h3q_1 => ?_)
  refine fx_catch (hh := [(0, 10, 13, 19)]) S htab hG h1q_1 h2q_1 h3q_1 [] ⟨0, 10, 13, 19⟩ [] rfl [] (fun z hz => absurd hz List.not_mem_nil) (by decide) (by decide) (by decide +kernel) (List.mem_of_getElem? (i := 2) rfl) ?_
  refine lv_astore (lv' := [(4, .ref q_1), (0, .ref N0), (1, .int 0), (2, .int a2), (3, .ref (N0 + 229))]) S.1 S.2.1 dL_copyTree_13 hl (by decide) rfl (fun ls hl => ?_)
  refine lv_iconst (v := 1) S.1 S.2.1 dL_copyTree_15 (by decide) ?_
  exact fx_iret S hr hlocks n_2 hG (⟨rfl, hn_2⟩) dL_copyTree_16
theorem k481_X10_isBetween {n : Nat} {a2 : Int32} (g_a2_ge_3 : 3 ≤ a2) (hn : N0 + 231 ≤ n)  : Met l yX10_isBetween wsX10_isBetween ({ frames := 0, cells := 0, slots := 0, locals := 0 }) (va_Pc [.int a2, .int 0, .int 2] (fP N0 D vwCl (fty cI cC cL cD cII cTr cTm cIt cB) (fen ql) F n)) (fQi N0 D vwCl (fty cI cC cL cD cII cTr cTm cIt cB) (fun (r : Int32) (_ : Unit) => r = 0) (fun _ => F) (fun _ => n)) 0 0 (fA N0) := by
  refine fx_start 3 rfl rfl (Nat.le_of_ble_eq_true rfl) ?_ rfl
  intro p e s m below meth c ls S hr hlocks hin hG hl
  have hl : lv_has ls 3 [(0, .int a2), (1, .int 0), (2, .int 2)] := hl
  refine lv_iload_n S.1 S.2.1 dX10_isBetween_0 rfl (lv_at hl 1 rfl) ?_
  refine lv_iload_n S.1 S.2.1 dX10_isBetween_1 rfl (lv_at hl 0 rfl) ?_
  refine lv_icmp_gt (tgt := 14) S.1 S.2.1 dX10_isBetween_2 (by decide) (fun c => absurd c (Int32.not_lt.mpr (Int32.le_trans (by decide) g_a2_ge_3))) (fun _ => ?_)
  refine lv_iload_n S.1 S.2.1 dX10_isBetween_5 rfl (lv_at hl 0 rfl) ?_
  refine lv_iload_n S.1 S.2.1 dX10_isBetween_6 rfl (lv_at hl 2 rfl) ?_
  refine lv_icmp_gt (tgt := 14) S.1 S.2.1 dX10_isBetween_7 (by decide) (fun _ => ?_) (fun c => absurd (Int32.lt_of_lt_of_le (by decide) g_a2_ge_3) c)
  refine lv_iconst (v := 0) S.1 S.2.1 dX10_isBetween_14 (by decide) ?_
  exact fx_zret S hr (rfl) hlocks () hG (rfl) dX10_isBetween_15
theorem k482_X10_isTree {n : Nat} {a2 : Int32} (g_a2_ge_3 : 3 ≤ a2) (hn : N0 + 231 ≤ n)  : Met l yX10_isTree wsX10_isTree ({ frames := 1, cells := 0, slots := 0, locals := 22 }) (va_Pc [.int a2] (fP N0 D vwCl (fty cI cC cL cD cII cTr cTm cIt cB) (fen ql) F n)) (fQi N0 D vwCl (fty cI cC cL cD cII cTr cTm cIt cB) (fun (r : Int32) (_ : Unit) => r = 0) (fun _ => F) (fun _ => n)) 0 0 (fA N0) := by
  refine fx_start 1 rfl rfl (Nat.le_of_ble_eq_true rfl) ?_ rfl
  intro p e s m below meth c ls S hr hlocks hin hG hl
  have hl : lv_has ls 1 [(0, .int a2)] := hl
  refine lv_iload_n S.1 S.2.1 dX10_isTree_0 rfl (lv_at hl 0 rfl) ?_
  refine lv_iconst (v := 0) S.1 S.2.1 dX10_isTree_1 (by decide) ?_
  refine lv_iconst (v := 2) S.1 S.2.1 dX10_isTree_2 (by decide) ?_
  refine fx_cSi (As := [.int a2, .int 0, .int 2]) (rest := []) S hG (k481_X10_isBetween g_a2_ge_3 (by omega)) (cwS 3 S.2.2.2.2 gX10_isTree_X10_isBetween rfl rfl rfl (by decide +kernel) ⟨Nat.le_of_ble_eq_true rfl, Nat.le_of_ble_eq_true rfl⟩) rfl hl.1 rfl (Nat.le_of_ble_eq_true rfl) dX10_isTree_3 ⟨Nat.le_of_ble_eq_true rfl, Nat.le_of_ble_eq_true rfl⟩ (fun rv_1 _ H locs hp hG => ?_)
  subst rv_1
  exact fx_zret S hr (rfl) hlocks () hG (rfl) dX10_isTree_6
theorem k483_X10_areNone {n : Nat} {a2 : Int32} (g_a2_ge_3 : 3 ≤ a2) (hn : N0 + 231 ≤ n) (h0 : F (N0 + 164) = some (.inr (12, [.ref (N0 + 165), .int 0, .ref (N0 + 181), .int 0, .int 0, .int 0, .int (-1), .ref (ql 24), .ref (N0 + 182), .ref (N0 + 187), .ref (N0 + 208), .ref (N0 + 209), .ref (N0 + 210), .ref (N0 + 211), .ref (N0 + 212), .int 0, .ref (N0 + 213), .ref (N0 + 218), .ref (N0 + 223), .ref (N0 + 224), .ref (N0 + 225), .ref (N0 + 226), .ref (N0 + 227), .int 0, .int 0, .ref (N0 + 228), .null, .int (-1), .int 0, .int 0, .int 0]))) : Met l yX10_areNone wsX10_areNone ({ frames := 2, cells := 0, slots := 0, locals := 42 }) (va_Pc [.ref (N0 + 164), .int 0, .int a2] (fP N0 D vwCl (fty cI cC cL cD cII cTr cTm cIt cB) (fen ql) F n)) (fQi N0 D vwCl (fty cI cC cL cD cII cTr cTm cIt cB) (fun (r : Int32) (_ : Unit) => r = 1) (fun _ => (fu F (N0 + 164) (.inr (12, [.ref (N0 + 165), .int 1, .ref (N0 + 181), .int 0, .int 0, .int 0, .int (-1), .ref (ql 24), .ref (N0 + 182), .ref (N0 + 187), .ref (N0 + 208), .ref (N0 + 209), .ref (N0 + 210), .ref (N0 + 211), .ref (N0 + 212), .int 0, .ref (N0 + 213), .ref (N0 + 218), .ref (N0 + 223), .ref (N0 + 224), .ref (N0 + 225), .ref (N0 + 226), .ref (N0 + 227), .int 0, .int 0, .ref (N0 + 228), .null, .int (-1), .int 0, .int 0, .int 0])))) (fun _ => n)) 0 0 (fA N0) := by
  refine fx_start 3 rfl rfl (Nat.le_of_ble_eq_true rfl) ?_ rfl
  intro p e s m below meth c ls S hr hlocks hin hG hl
  have hl : lv_has ls 3 [(0, .ref (N0 + 164)), (1, .int 0), (2, .int a2)] := hl
  have lt_h0 := hG.1.lt h0
  refine lv_aload_n S.1 S.2.1 dX10_areNone_0 rfl (lv_at hl 0 rfl) ?_
  refine lv_iload_n S.1 S.2.1 dX10_areNone_1 rfl (lv_at hl 1 rfl) ?_
  refine fx_cSi (As := [.int 0]) (rest := [.ref (N0 + 164)]) S hG (k34_X10_isTree (by omega)) (cwS 1 S.2.2.2.2 gX10_areNone_X10_isTree rfl rfl rfl (by decide +kernel) ⟨Nat.le_of_ble_eq_true rfl, Nat.le_of_ble_eq_true rfl⟩) rfl hl.1 rfl (Nat.le_of_ble_eq_true rfl) dX10_areNone_2 ⟨Nat.le_of_ble_eq_true rfl, Nat.le_of_ble_eq_true rfl⟩ (fun rv_1 _ H locs hp hG => ?_)
  subst rv_1
  refine lv_if_eq (tgt := 19) S.1 S.2.1 dX10_areNone_5 (by decide) (fun c => absurd c (by decide)) (fun _ => ?_)
  refine lv_iload_n S.1 S.2.1 dX10_areNone_8 rfl (lv_at hl 2 rfl) ?_
  refine fx_cSi (As := [.int a2]) (rest := [.ref (N0 + 164)]) S hG (k482_X10_isTree g_a2_ge_3 (by omega)) (cwS 1 S.2.2.2.2 gX10_areNone_X10_isTree rfl rfl rfl (by decide +kernel) ⟨Nat.le_of_ble_eq_true rfl, Nat.le_of_ble_eq_true rfl⟩) rfl hl.1 rfl (Nat.le_of_ble_eq_true rfl) dX10_areNone_9 ⟨Nat.le_of_ble_eq_true rfl, Nat.le_of_ble_eq_true rfl⟩ (fun rv_2 _ H locs hp hG => ?_)
  subst rv_2
  refine lv_if_eq (tgt := 19) S.1 S.2.1 dX10_areNone_12 (by decide) (fun _ => ?_) (fun c => absurd (by decide) c)
  refine lv_iconst (v := 1) S.1 S.2.1 dX10_areNone_19 (by decide) ?_
  refine gx_put (C := RX10) (T := TX10) (N := 31) (ty := .int) (v := .int 1) (fs' := [.ref (N0 + 165), .int 1, .ref (N0 + 181), .int 0, .int 0, .int 0, .int (-1), .ref (ql 24), .ref (N0 + 182), .ref (N0 + 187), .ref (N0 + 208), .ref (N0 + 209), .ref (N0 + 210), .ref (N0 + 211), .ref (N0 + 212), .int 0, .ref (N0 + 213), .ref (N0 + 218), .ref (N0 + 223), .ref (N0 + 224), .ref (N0 + 225), .ref (N0 + 226), .ref (N0 + 227), .int 0, .int 0, .ref (N0 + 228), .null, .int (-1), .int 0, .int 0, .int 0]) S hG h0 i_X10_areNone_X10 rfl 1 (by decide) tyX10 tyX10_ok nmX10 (by decide +kernel) rfl (by decide +kernel) rfl rfl (Nat.le_of_ble_eq_true rfl) rfl dX10_areNone_20 (fun H locs hG => ?_)
  refine lv_aload_n S.1 S.2.1 dX10_areNone_23 rfl (lv_at hl 0 rfl) ?_
  refine gx_get (C := RX10) (T := TX10) (N := 31) S hG fu_s i_X10_areNone_X10 rfl 1 (by decide) (by decide +kernel) rfl dX10_areNone_24 ?_
  refine lv_if_le (tgt := 34) S.1 S.2.1 dX10_areNone_27 (by decide) (fun c => absurd c (by decide)) (fun _ => ?_)
  refine lv_iconst (v := 1) S.1 S.2.1 dX10_areNone_30 (by decide) ?_
  refine lv_goto (tgt := 35) S.1 S.2.1 dX10_areNone_31 (by decide) ?_
  exact fx_zret S hr (rfl) hlocks () hG (rfl) dX10_areNone_35
theorem k484_X10_copyTree {n : Nat} {a2 : Int32} (g_a2_ge_3 : 3 ≤ a2) (hn : N0 + 231 ≤ n) (h0 : F (N0 + 164) = some (.inr (12, [.ref (N0 + 165), .int 0, .ref (N0 + 181), .int 0, .int 0, .int 0, .int (-1), .ref (ql 24), .ref (N0 + 182), .ref (N0 + 187), .ref (N0 + 208), .ref (N0 + 209), .ref (N0 + 210), .ref (N0 + 211), .ref (N0 + 212), .int 0, .ref (N0 + 213), .ref (N0 + 218), .ref (N0 + 223), .ref (N0 + 224), .ref (N0 + 225), .ref (N0 + 226), .ref (N0 + 227), .int 0, .int 0, .ref (N0 + 228), .null, .int (-1), .int 0, .int 0, .int 0]))) : Met l yX10_copyTree wsX10_copyTree ({ frames := 3, cells := 0, slots := 0, locals := 64 }) (va_Pc [.ref (N0 + 164), .int 0, .int a2] (fP N0 D vwCl (fty cI cC cL cD cII cTr cTm cIt cB) (fen ql) F n)) (fQi N0 D vwCl (fty cI cC cL cD cII cTr cTm cIt cB) (fun (r : Int32) (_ : Unit) => r = 0) (fun _ => (fu F (N0 + 164) (.inr (12, [.ref (N0 + 165), .int 1, .ref (N0 + 181), .int 0, .int 0, .int 0, .int (-1), .ref (ql 24), .ref (N0 + 182), .ref (N0 + 187), .ref (N0 + 208), .ref (N0 + 209), .ref (N0 + 210), .ref (N0 + 211), .ref (N0 + 212), .int 0, .ref (N0 + 213), .ref (N0 + 218), .ref (N0 + 223), .ref (N0 + 224), .ref (N0 + 225), .ref (N0 + 226), .ref (N0 + 227), .int 0, .int 0, .ref (N0 + 228), .null, .int (-1), .int 0, .int 0, .int 0])))) (fun _ => n)) 0 0 (fA N0) := by
  refine fx_start 3 rfl rfl (Nat.le_of_ble_eq_true rfl) ?_ rfl
  intro p e s m below meth c ls S hr hlocks hin hG hl
  have hl : lv_has ls 3 [(0, .ref (N0 + 164)), (1, .int 0), (2, .int a2)] := hl
  have lt_h0 := hG.1.lt h0
  refine lv_aload_n S.1 S.2.1 dX10_copyTree_0 rfl (lv_at hl 0 rfl) ?_
  refine lv_iload_n S.1 S.2.1 dX10_copyTree_1 rfl (lv_at hl 1 rfl) ?_
  refine lv_iload_n S.1 S.2.1 dX10_copyTree_2 rfl (lv_at hl 2 rfl) ?_
  refine fx_cVi (As := [.int 0, .int a2]) (rest := []) S hG (k483_X10_areNone g_a2_ge_3 (by omega) h0) h0 rfl (cwV 2 S.2.2.2.2 gX10_copyTree_X10_areNone rfl rfl rfl (by decide +kernel) ⟨Nat.le_of_ble_eq_true rfl, Nat.le_of_ble_eq_true rfl⟩) rfl hl.1 rfl (Nat.le_of_ble_eq_true rfl) dX10_copyTree_3 ⟨Nat.le_of_ble_eq_true rfl, Nat.le_of_ble_eq_true rfl⟩ (fun rv_1 _ H locs hp hG => ?_)
  subst rv_1
  refine lv_if_eq (tgt := 11) S.1 S.2.1 dX10_copyTree_6 (by decide) (fun c => absurd c (by decide)) (fun _ => ?_)
  refine lv_iconst (v := 0) S.1 S.2.1 dX10_copyTree_9 (by decide) ?_
  exact fx_iret S hr hlocks () hG (rfl) dX10_copyTree_10
theorem k485_X7_copyTree {n : Nat} {a2 : Int32} (g_a2_le_m1 : a2 ≤ (-1)) (hst : l.stackTraces = false) (hn : N0 + 231 ≤ n) (h0 : F N0 = some (.inr (9, [.ref (N0 + 1), .ref (N0 + 2), .ref (N0 + 11), .ref (N0 + 13), .ref (N0 + 63), .ref (N0 + 65), .ref (N0 + 85), .int (-1), .int (-1), .int 32]))) (h1 : F (N0 + 1) = some (.inl (cTr, 3, .inr (.inr (.inr (.inr (va_up (va_up (va_up (fun _ => none) 0 (some (N0 + 143))) 1 (some (N0 + 150))) 2 (some (N0 + 157))))))))) : vx_Met l yX7_copyTree wsX7_copyTree ({ frames := 7, cells := 1, slots := 6, locals := 103 }) (va_Pc [.ref N0, .int 1, .int a2] (fP N0 D vwCl (fty cI cC cL cD cII cTr cTm cIt cB) (fen ql) F n)) (fNo N0 D vwCl (fty cI cC cL cD cII cTr cTm cIt cB) F n) (fXC N0 D vwCl (fty cI cC cL cD cII cTr cTm cIt cB) "java/lang/IndexOutOfBoundsException" F n) 1 6 (fA N0) := by
  refine fx_startX 5 rfl rfl (Nat.le_of_ble_eq_true rfl) ?_ rfl
  intro p e s m below meth c ls S htab hlocks hG hl
  have hl : lv_has ls 5 [(0, .ref N0), (1, .int 1), (2, .int a2)] := hl
  have lt_h0 := hG.1.lt h0
  have lt_h1 := hG.1.lt h1
  refine lv_aload_n S.1 S.2.1 dX7_copyTree_0 rfl (lv_at hl 0 rfl) ?_
  refine lv_iload_n S.1 S.2.1 dX7_copyTree_1 rfl (lv_at hl 1 rfl) ?_
  refine fx_cVr (As := [.int 1]) (rest := []) S hG (k42_X7_treeAt (by omega) h0 h1) h0 rfl (cwV 1 S.2.2.2.2 gX7_copyTree_X7_treeAt rfl rfl rfl (by decide +kernel) ⟨Nat.le_of_ble_eq_true rfl, Nat.le_of_ble_eq_true rfl⟩) rfl hl.1 rfl (Nat.le_of_ble_eq_true rfl) dX7_copyTree_2 ⟨Nat.le_of_ble_eq_true rfl, Nat.le_of_ble_eq_true rfl⟩ (fun rv_1 _ H locs hp hG => ?_)
  subst rv_1
  refine lv_astore_n (lv' := [(3, .ref (N0 + 150)), (0, .ref N0), (1, .int 1), (2, .int a2)]) S.1 S.2.1 dX7_copyTree_5 rfl hl (by decide) rfl (fun ls hl => ?_)
  refine lv_aload_n S.1 S.2.1 dX7_copyTree_6 rfl (lv_at hl 1 rfl) ?_
  refine lv_iload_n S.1 S.2.1 dX7_copyTree_7 rfl (lv_at hl 3 rfl) ?_
  refine fx_xV (As := [.int a2]) (rest := []) S hG (k450_X7_treeAt g_a2_le_m1 hst (by omega)) h0 rfl (cwV 1 S.2.2.2.2 gX7_copyTree_X7_treeAt rfl rfl rfl (by decide +kernel) ⟨Nat.le_of_ble_eq_true rfl, Nat.le_of_ble_eq_true rfl⟩) rfl hl.1 rfl (Nat.le_of_ble_eq_true rfl) dX7_copyTree_8 ⟨Nat.le_of_ble_eq_true rfl, Nat.le_of_ble_eq_true rfl⟩ (fun ceq_2 q_2 H locs n_3 hn_3 hG h1q_2 h2q_2 h3q_2 => ?_)
  exact fx_out htab hlocks hG (by omega) h1q_2 h2q_2 h3q_2 (by decide) (by decide)
theorem k486_L_copyTree {n : Nat} {a2 : Int32} (g_a2_le_m1 : a2 ≤ (-1)) (hst : l.stackTraces = false) (hn : N0 + 231 ≤ n) (h0 : F N0 = some (.inr (9, [.ref (N0 + 1), .ref (N0 + 2), .ref (N0 + 11), .ref (N0 + 13), .ref (N0 + 63), .ref (N0 + 65), .ref (N0 + 85), .int (-1), .int (-1), .int 32]))) (h1 : F (N0 + 1) = some (.inl (cTr, 3, .inr (.inr (.inr (.inr (va_up (va_up (va_up (fun _ => none) 0 (some (N0 + 143))) 1 (some (N0 + 150))) 2 (some (N0 + 157))))))))) : Met l yL_copyTree wsL_copyTree ({ frames := 8, cells := 1, slots := 6, locals := 127 }) (va_Pc [.ref N0, .int 1, .int a2, .ref (N0 + 229)] (fP N0 D vwCl (fty cI cC cL cD cII cTr cTm cIt cB) (fen ql) F n)) (fQi N0 D vwCl (fty cI cC cL cD cII cTr cTm cIt cB) (fun (r : Int32) (u : Nat) => r = 1 ∧ n ≤ u) (fun _ => F) (fun u => u)) 1 6 (fA N0) := by
  refine fx_startW (hh := [(0, 10, 13, 19)]) 5 rfl rfl (Nat.le_of_ble_eq_true rfl) ?_ rfl
  intro p e s m below meth c ls S htab hr hlocks hG hl
  have hl : lv_has ls 5 [(0, .ref N0), (1, .int 1), (2, .int a2), (3, .ref (N0 + 229))] := hl
  have lt_h0 := hG.1.lt h0
  have lt_h1 := hG.1.lt h1
  refine lv_aload_n S.1 S.2.1 dL_copyTree_0 rfl (lv_at hl 3 rfl) ?_
  refine lv_iconst (v := 0) S.1 S.2.1 dL_copyTree_1 (by decide) ?_
  refine lv_aload_n S.1 S.2.1 dL_copyTree_2 rfl (lv_at hl 0 rfl) ?_
  refine lv_iload_n S.1 S.2.1 dL_copyTree_3 rfl (lv_at hl 1 rfl) ?_
  refine lv_iload_n S.1 S.2.1 dL_copyTree_4 rfl (lv_at hl 2 rfl) ?_
  refine fx_xV (As := [.int 1, .int a2]) (rest := [.int 0, .ref (N0 + 229)]) S hG (k485_X7_copyTree g_a2_le_m1 hst (by omega) h0 h1) h0 rfl (cwV 2 S.2.2.2.2 gL_copyTree_X7_copyTree rfl rfl rfl (by decide +kernel) ⟨Nat.le_of_ble_eq_true rfl, Nat.le_of_ble_eq_true rfl⟩) rfl hl.1 rfl (Nat.le_of_ble_eq_true rfl) dL_copyTree_5 ⟨Nat.le_of_ble_eq_true rfl, Nat.le_of_ble_eq_true rfl⟩ (fun ceq_1 q_1 H locs n_2 hn_2 hG h1q_1 h2q_1 h3q_1 => ?_)
  refine fx_catch (hh := [(0, 10, 13, 19)]) S htab hG h1q_1 h2q_1 h3q_1 [] ⟨0, 10, 13, 19⟩ [] rfl [] (fun z hz => absurd hz List.not_mem_nil) (by decide) (by decide) (by decide +kernel) (List.mem_of_getElem? (i := 2) rfl) ?_
  refine lv_astore (lv' := [(4, .ref q_1), (0, .ref N0), (1, .int 1), (2, .int a2), (3, .ref (N0 + 229))]) S.1 S.2.1 dL_copyTree_13 hl (by decide) rfl (fun ls hl => ?_)
  refine lv_iconst (v := 1) S.1 S.2.1 dL_copyTree_15 (by decide) ?_
  exact fx_iret S hr hlocks n_2 hG (⟨rfl, hn_2⟩) dL_copyTree_16
theorem k487_X10_areNone {n : Nat} {a2 : Int32} (g_a2_le_m1 : a2 ≤ (-1)) (hn : N0 + 231 ≤ n) (h0 : F (N0 + 164) = some (.inr (12, [.ref (N0 + 165), .int 0, .ref (N0 + 181), .int 0, .int 0, .int 0, .int (-1), .ref (ql 24), .ref (N0 + 182), .ref (N0 + 187), .ref (N0 + 208), .ref (N0 + 209), .ref (N0 + 210), .ref (N0 + 211), .ref (N0 + 212), .int 0, .ref (N0 + 213), .ref (N0 + 218), .ref (N0 + 223), .ref (N0 + 224), .ref (N0 + 225), .ref (N0 + 226), .ref (N0 + 227), .int 0, .int 0, .ref (N0 + 228), .null, .int (-1), .int 0, .int 0, .int 0]))) : Met l yX10_areNone wsX10_areNone ({ frames := 2, cells := 0, slots := 0, locals := 42 }) (va_Pc [.ref (N0 + 164), .int 1, .int a2] (fP N0 D vwCl (fty cI cC cL cD cII cTr cTm cIt cB) (fen ql) F n)) (fQi N0 D vwCl (fty cI cC cL cD cII cTr cTm cIt cB) (fun (r : Int32) (_ : Unit) => r = 1) (fun _ => (fu F (N0 + 164) (.inr (12, [.ref (N0 + 165), .int 1, .ref (N0 + 181), .int 0, .int 0, .int 0, .int (-1), .ref (ql 24), .ref (N0 + 182), .ref (N0 + 187), .ref (N0 + 208), .ref (N0 + 209), .ref (N0 + 210), .ref (N0 + 211), .ref (N0 + 212), .int 0, .ref (N0 + 213), .ref (N0 + 218), .ref (N0 + 223), .ref (N0 + 224), .ref (N0 + 225), .ref (N0 + 226), .ref (N0 + 227), .int 0, .int 0, .ref (N0 + 228), .null, .int (-1), .int 0, .int 0, .int 0])))) (fun _ => n)) 0 0 (fA N0) := by
  refine fx_start 3 rfl rfl (Nat.le_of_ble_eq_true rfl) ?_ rfl
  intro p e s m below meth c ls S hr hlocks hin hG hl
  have hl : lv_has ls 3 [(0, .ref (N0 + 164)), (1, .int 1), (2, .int a2)] := hl
  have lt_h0 := hG.1.lt h0
  refine lv_aload_n S.1 S.2.1 dX10_areNone_0 rfl (lv_at hl 0 rfl) ?_
  refine lv_iload_n S.1 S.2.1 dX10_areNone_1 rfl (lv_at hl 1 rfl) ?_
  refine fx_cSi (As := [.int 1]) (rest := [.ref (N0 + 164)]) S hG (k46_X10_isTree (by omega)) (cwS 1 S.2.2.2.2 gX10_areNone_X10_isTree rfl rfl rfl (by decide +kernel) ⟨Nat.le_of_ble_eq_true rfl, Nat.le_of_ble_eq_true rfl⟩) rfl hl.1 rfl (Nat.le_of_ble_eq_true rfl) dX10_areNone_2 ⟨Nat.le_of_ble_eq_true rfl, Nat.le_of_ble_eq_true rfl⟩ (fun rv_1 _ H locs hp hG => ?_)
  subst rv_1
  refine lv_if_eq (tgt := 19) S.1 S.2.1 dX10_areNone_5 (by decide) (fun c => absurd c (by decide)) (fun _ => ?_)
  refine lv_iload_n S.1 S.2.1 dX10_areNone_8 rfl (lv_at hl 2 rfl) ?_
  refine fx_cSi (As := [.int a2]) (rest := [.ref (N0 + 164)]) S hG (k454_X10_isTree g_a2_le_m1 (by omega)) (cwS 1 S.2.2.2.2 gX10_areNone_X10_isTree rfl rfl rfl (by decide +kernel) ⟨Nat.le_of_ble_eq_true rfl, Nat.le_of_ble_eq_true rfl⟩) rfl hl.1 rfl (Nat.le_of_ble_eq_true rfl) dX10_areNone_9 ⟨Nat.le_of_ble_eq_true rfl, Nat.le_of_ble_eq_true rfl⟩ (fun rv_2 _ H locs hp hG => ?_)
  subst rv_2
  refine lv_if_eq (tgt := 19) S.1 S.2.1 dX10_areNone_12 (by decide) (fun _ => ?_) (fun c => absurd (by decide) c)
  refine lv_iconst (v := 1) S.1 S.2.1 dX10_areNone_19 (by decide) ?_
  refine gx_put (C := RX10) (T := TX10) (N := 31) (ty := .int) (v := .int 1) (fs' := [.ref (N0 + 165), .int 1, .ref (N0 + 181), .int 0, .int 0, .int 0, .int (-1), .ref (ql 24), .ref (N0 + 182), .ref (N0 + 187), .ref (N0 + 208), .ref (N0 + 209), .ref (N0 + 210), .ref (N0 + 211), .ref (N0 + 212), .int 0, .ref (N0 + 213), .ref (N0 + 218), .ref (N0 + 223), .ref (N0 + 224), .ref (N0 + 225), .ref (N0 + 226), .ref (N0 + 227), .int 0, .int 0, .ref (N0 + 228), .null, .int (-1), .int 0, .int 0, .int 0]) S hG h0 i_X10_areNone_X10 rfl 1 (by decide) tyX10 tyX10_ok nmX10 (by decide +kernel) rfl (by decide +kernel) rfl rfl (Nat.le_of_ble_eq_true rfl) rfl dX10_areNone_20 (fun H locs hG => ?_)
  refine lv_aload_n S.1 S.2.1 dX10_areNone_23 rfl (lv_at hl 0 rfl) ?_
  refine gx_get (C := RX10) (T := TX10) (N := 31) S hG fu_s i_X10_areNone_X10 rfl 1 (by decide) (by decide +kernel) rfl dX10_areNone_24 ?_
  refine lv_if_le (tgt := 34) S.1 S.2.1 dX10_areNone_27 (by decide) (fun c => absurd c (by decide)) (fun _ => ?_)
  refine lv_iconst (v := 1) S.1 S.2.1 dX10_areNone_30 (by decide) ?_
  refine lv_goto (tgt := 35) S.1 S.2.1 dX10_areNone_31 (by decide) ?_
  exact fx_zret S hr (rfl) hlocks () hG (rfl) dX10_areNone_35
theorem k488_X10_copyTree {n : Nat} {a2 : Int32} (g_a2_le_m1 : a2 ≤ (-1)) (hn : N0 + 231 ≤ n) (h0 : F (N0 + 164) = some (.inr (12, [.ref (N0 + 165), .int 0, .ref (N0 + 181), .int 0, .int 0, .int 0, .int (-1), .ref (ql 24), .ref (N0 + 182), .ref (N0 + 187), .ref (N0 + 208), .ref (N0 + 209), .ref (N0 + 210), .ref (N0 + 211), .ref (N0 + 212), .int 0, .ref (N0 + 213), .ref (N0 + 218), .ref (N0 + 223), .ref (N0 + 224), .ref (N0 + 225), .ref (N0 + 226), .ref (N0 + 227), .int 0, .int 0, .ref (N0 + 228), .null, .int (-1), .int 0, .int 0, .int 0]))) : Met l yX10_copyTree wsX10_copyTree ({ frames := 3, cells := 0, slots := 0, locals := 64 }) (va_Pc [.ref (N0 + 164), .int 1, .int a2] (fP N0 D vwCl (fty cI cC cL cD cII cTr cTm cIt cB) (fen ql) F n)) (fQi N0 D vwCl (fty cI cC cL cD cII cTr cTm cIt cB) (fun (r : Int32) (_ : Unit) => r = 0) (fun _ => (fu F (N0 + 164) (.inr (12, [.ref (N0 + 165), .int 1, .ref (N0 + 181), .int 0, .int 0, .int 0, .int (-1), .ref (ql 24), .ref (N0 + 182), .ref (N0 + 187), .ref (N0 + 208), .ref (N0 + 209), .ref (N0 + 210), .ref (N0 + 211), .ref (N0 + 212), .int 0, .ref (N0 + 213), .ref (N0 + 218), .ref (N0 + 223), .ref (N0 + 224), .ref (N0 + 225), .ref (N0 + 226), .ref (N0 + 227), .int 0, .int 0, .ref (N0 + 228), .null, .int (-1), .int 0, .int 0, .int 0])))) (fun _ => n)) 0 0 (fA N0) := by
  refine fx_start 3 rfl rfl (Nat.le_of_ble_eq_true rfl) ?_ rfl
  intro p e s m below meth c ls S hr hlocks hin hG hl
  have hl : lv_has ls 3 [(0, .ref (N0 + 164)), (1, .int 1), (2, .int a2)] := hl
  have lt_h0 := hG.1.lt h0
  refine lv_aload_n S.1 S.2.1 dX10_copyTree_0 rfl (lv_at hl 0 rfl) ?_
  refine lv_iload_n S.1 S.2.1 dX10_copyTree_1 rfl (lv_at hl 1 rfl) ?_
  refine lv_iload_n S.1 S.2.1 dX10_copyTree_2 rfl (lv_at hl 2 rfl) ?_
  refine fx_cVi (As := [.int 1, .int a2]) (rest := []) S hG (k487_X10_areNone g_a2_le_m1 (by omega) h0) h0 rfl (cwV 2 S.2.2.2.2 gX10_copyTree_X10_areNone rfl rfl rfl (by decide +kernel) ⟨Nat.le_of_ble_eq_true rfl, Nat.le_of_ble_eq_true rfl⟩) rfl hl.1 rfl (Nat.le_of_ble_eq_true rfl) dX10_copyTree_3 ⟨Nat.le_of_ble_eq_true rfl, Nat.le_of_ble_eq_true rfl⟩ (fun rv_1 _ H locs hp hG => ?_)
  subst rv_1
  refine lv_if_eq (tgt := 11) S.1 S.2.1 dX10_copyTree_6 (by decide) (fun c => absurd c (by decide)) (fun _ => ?_)
  refine lv_iconst (v := 0) S.1 S.2.1 dX10_copyTree_9 (by decide) ?_
  exact fx_iret S hr hlocks () hG (rfl) dX10_copyTree_10
theorem k489_X5_copyFrom {n : Nat} (hn : N0 + 231 ≤ n) (h0 : F (N0 + 150) = some (.inr (7, [.ref (N0 + 151), .ref (N0 + 152), .ref (N0 + 153), .ref (N0 + 154), .ref (N0 + 155), .ref (N0 + 156), .int 1]))) (h1 : F (N0 + 143) = some (.inr (7, [.ref (N0 + 144), .ref (N0 + 145), .ref (N0 + 146), .ref (N0 + 147), .ref (N0 + 148), .ref (N0 + 149), .int 1]))) (h2 : F (N0 + 151) = some (.inl (cC, 20, .inl (upd (fun _ => 0) 0 97)))) (h3 : F (N0 + 144) = some (.inl (cC, 20, .inl (upd (fun _ => 0) 0 97)))) (h4 : F (N0 + 152) = some (.inl (cI, 20, .inl (fun _ => 0)))) (h5 : F (N0 + 145) = some (.inl (cI, 20, .inl (fun _ => 0)))) (h6 : F (N0 + 153) = some (.inl (cI, 20, .inl (fun _ => 0)))) (h7 : F (N0 + 146) = some (.inl (cI, 20, .inl (fun _ => 0)))) (h8 : F (N0 + 154) = some (.inl (cI, 20, .inl (upd (fun _ => 0) 0 (-1))))) (h9 : F (N0 + 147) = some (.inl (cI, 20, .inl (upd (fun _ => 0) 0 (-1))))) : Met l yX5_copyFrom wsX5_copyFrom ({ frames := 1, cells := 0, slots := 0, locals := 40 }) (va_Pc [.ref (N0 + 143), .ref (N0 + 150)] (fP N0 D vwCl (fty cI cC cL cD cII cTr cTm cIt cB) (fen ql) F n)) (fQv N0 D vwCl (fty cI cC cL cD cII cTr cTm cIt cB) (fun (_ : Unit) => True) (fun _ => (fu (fu (fu (fu (fu F (N0 + 144) (.inl (cC, 20, .inl (upd (fun _ => 0) 0 97)))) (N0 + 145) (.inl (cI, 20, .inl (fun _ => 0)))) (N0 + 146) (.inl (cI, 20, .inl (fun _ => 0)))) (N0 + 147) (.inl (cI, 20, .inl (upd (fun _ => 0) 0 (-1))))) (N0 + 143) (.inr (7, [.ref (N0 + 144), .ref (N0 + 145), .ref (N0 + 146), .ref (N0 + 147), .ref (N0 + 148), .ref (N0 + 149), .int 1])))) (fun _ => n)) 0 0 (fA N0) := by
  refine fx_start 2 rfl rfl (Nat.le_of_ble_eq_true rfl) ?_ rfl
  intro p e s m below meth c ls S hr hlocks hin hG hl
  have hl : lv_has ls 2 [(0, .ref (N0 + 143)), (1, .ref (N0 + 150))] := hl
  have lt_h0 := hG.1.lt h0
  have lt_h1 := hG.1.lt h1
  have lt_h2 := hG.1.lt h2
  have lt_h3 := hG.1.lt h3
  have lt_h4 := hG.1.lt h4
  have lt_h5 := hG.1.lt h5
  have lt_h6 := hG.1.lt h6
  have lt_h7 := hG.1.lt h7
  have lt_h8 := hG.1.lt h8
  have lt_h9 := hG.1.lt h9
  refine lv_aload_n S.1 S.2.1 dX5_copyFrom_0 rfl (lv_at hl 1 rfl) ?_
  refine gx_get (C := RX5) (T := TX5) (N := 7) S hG h0 i_X5_copyFrom_X5 rfl 0 (by decide) (by decide +kernel) rfl dX5_copyFrom_1 ?_
  refine lv_iconst (v := 0) S.1 S.2.1 dX5_copyFrom_4 (by decide) ?_
  refine lv_aload_n S.1 S.2.1 dX5_copyFrom_5 rfl (lv_at hl 0 rfl) ?_
  refine gx_get (C := RX5) (T := TX5) (N := 7) S hG h1 i_X5_copyFrom_X5 rfl 0 (by decide) (by decide +kernel) rfl dX5_copyFrom_6 ?_
  refine lv_iconst (v := 0) S.1 S.2.1 dX5_copyFrom_9 (by decide) ?_
  refine lv_bipush (v := 20) S.1 S.2.1 dX5_copyFrom_10 (by decide) ?_
  refine gx_copyi (f' := upd (fun _ => 0) 0 97) S hG hl.1 (by decide +kernel) (by decide +kernel) (by decide +kernel) (by decide +kernel) 1 h2 h3 rfl rfl (by decide) (by decide) (by decide) (by decide) (by decide) (fun i _ => (ffitU ffit0 (by decide)) _) (Nat.le_of_ble_eq_true rfl) (Nat.le_of_ble_eq_true rfl) dX5_copyFrom_12 fcpy_same (fun H locs hG => ?_)
  refine lv_aload_n S.1 S.2.1 dX5_copyFrom_15 rfl (lv_at hl 1 rfl) ?_
  refine gx_get (C := RX5) (T := TX5) (N := 7) S hG (fu_at (by omega) h0) i_X5_copyFrom_X5 rfl 1 (by decide) (by decide +kernel) rfl dX5_copyFrom_16 ?_
  refine lv_iconst (v := 0) S.1 S.2.1 dX5_copyFrom_19 (by decide) ?_
  refine lv_aload_n S.1 S.2.1 dX5_copyFrom_20 rfl (lv_at hl 0 rfl) ?_
  refine gx_get (C := RX5) (T := TX5) (N := 7) S hG (fu_at (by omega) h1) i_X5_copyFrom_X5 rfl 1 (by decide) (by decide +kernel) rfl dX5_copyFrom_21 ?_
  refine lv_iconst (v := 0) S.1 S.2.1 dX5_copyFrom_24 (by decide) ?_
  refine lv_bipush (v := 20) S.1 S.2.1 dX5_copyFrom_25 (by decide) ?_
  refine gx_copyi (f' := fun _ => 0) S hG hl.1 (by decide +kernel) (by decide +kernel) (by decide +kernel) (by decide +kernel) 0 (fu_at (by omega) h4) (fu_at (by omega) h5) rfl rfl (by decide) (by decide) (by decide) (by decide) (by decide) (fun i _ => rfl) (Nat.le_of_ble_eq_true rfl) (Nat.le_of_ble_eq_true rfl) dX5_copyFrom_27 fcpy_same (fun H locs hG => ?_)
  refine lv_aload_n S.1 S.2.1 dX5_copyFrom_30 rfl (lv_at hl 1 rfl) ?_
  refine gx_get (C := RX5) (T := TX5) (N := 7) S hG (fu_at (by omega) (fu_at (by omega) h0)) i_X5_copyFrom_X5 rfl 2 (by decide) (by decide +kernel) rfl dX5_copyFrom_31 ?_
  refine lv_iconst (v := 0) S.1 S.2.1 dX5_copyFrom_34 (by decide) ?_
  refine lv_aload_n S.1 S.2.1 dX5_copyFrom_35 rfl (lv_at hl 0 rfl) ?_
  refine gx_get (C := RX5) (T := TX5) (N := 7) S hG (fu_at (by omega) (fu_at (by omega) h1)) i_X5_copyFrom_X5 rfl 2 (by decide) (by decide +kernel) rfl dX5_copyFrom_36 ?_
  refine lv_iconst (v := 0) S.1 S.2.1 dX5_copyFrom_39 (by decide) ?_
  refine lv_bipush (v := 20) S.1 S.2.1 dX5_copyFrom_40 (by decide) ?_
  refine gx_copyi (f' := fun _ => 0) S hG hl.1 (by decide +kernel) (by decide +kernel) (by decide +kernel) (by decide +kernel) 0 (fu_at (by omega) (fu_at (by omega) h6)) (fu_at (by omega) (fu_at (by omega) h7)) rfl rfl (by decide) (by decide) (by decide) (by decide) (by decide) (fun i _ => rfl) (Nat.le_of_ble_eq_true rfl) (Nat.le_of_ble_eq_true rfl) dX5_copyFrom_42 fcpy_same (fun H locs hG => ?_)
  refine lv_aload_n S.1 S.2.1 dX5_copyFrom_45 rfl (lv_at hl 1 rfl) ?_
  refine gx_get (C := RX5) (T := TX5) (N := 7) S hG (fu_at (by omega) (fu_at (by omega) (fu_at (by omega) h0))) i_X5_copyFrom_X5 rfl 3 (by decide) (by decide +kernel) rfl dX5_copyFrom_46 ?_
  refine lv_iconst (v := 0) S.1 S.2.1 dX5_copyFrom_49 (by decide) ?_
  refine lv_aload_n S.1 S.2.1 dX5_copyFrom_50 rfl (lv_at hl 0 rfl) ?_
  refine gx_get (C := RX5) (T := TX5) (N := 7) S hG (fu_at (by omega) (fu_at (by omega) (fu_at (by omega) h1))) i_X5_copyFrom_X5 rfl 3 (by decide) (by decide +kernel) rfl dX5_copyFrom_51 ?_
  refine lv_iconst (v := 0) S.1 S.2.1 dX5_copyFrom_54 (by decide) ?_
  refine lv_bipush (v := 20) S.1 S.2.1 dX5_copyFrom_55 (by decide) ?_
  refine gx_copyi (f' := upd (fun _ => 0) 0 (-1)) S hG hl.1 (by decide +kernel) (by decide +kernel) (by decide +kernel) (by decide +kernel) 0 (fu_at (by omega) (fu_at (by omega) (fu_at (by omega) h8))) (fu_at (by omega) (fu_at (by omega) (fu_at (by omega) h9))) rfl rfl (by decide) (by decide) (by decide) (by decide) (by decide) (fun i _ => rfl) (Nat.le_of_ble_eq_true rfl) (Nat.le_of_ble_eq_true rfl) dX5_copyFrom_57 fcpy_same (fun H locs hG => ?_)
  refine lv_aload_n S.1 S.2.1 dX5_copyFrom_60 rfl (lv_at hl 0 rfl) ?_
  refine lv_aload_n S.1 S.2.1 dX5_copyFrom_61 rfl (lv_at hl 1 rfl) ?_
  refine gx_get (C := RX5) (T := TX5) (N := 7) S hG (fu_at (by omega) (fu_at (by omega) (fu_at (by omega) (fu_at (by omega) h0)))) i_X5_copyFrom_X5 rfl 6 (by decide) (by decide +kernel) rfl dX5_copyFrom_62 ?_
  refine gx_put (C := RX5) (T := TX5) (N := 7) (ty := .int) (v := .int 1) (fs' := [.ref (N0 + 144), .ref (N0 + 145), .ref (N0 + 146), .ref (N0 + 147), .ref (N0 + 148), .ref (N0 + 149), .int 1]) S hG (fu_at (by omega) (fu_at (by omega) (fu_at (by omega) (fu_at (by omega) h1)))) i_X5_copyFrom_X5 rfl 6 (by decide) tyX5 tyX5_ok nmX5 (by decide +kernel) rfl (by decide +kernel) rfl rfl (Nat.le_of_ble_eq_true rfl) rfl dX5_copyFrom_65 (fun H locs hG => ?_)
  exact fx_vret S hr hlocks () hG trivial dX5_copyFrom_68
theorem k490_X7_copyTree {n : Nat} (hn : N0 + 231 ≤ n) (h0 : F N0 = some (.inr (9, [.ref (N0 + 1), .ref (N0 + 2), .ref (N0 + 11), .ref (N0 + 13), .ref (N0 + 63), .ref (N0 + 65), .ref (N0 + 85), .int (-1), .int (-1), .int 32]))) (h1 : F (N0 + 1) = some (.inl (cTr, 3, .inr (.inr (.inr (.inr (va_up (va_up (va_up (fun _ => none) 0 (some (N0 + 143))) 1 (some (N0 + 150))) 2 (some (N0 + 157))))))))) (h2 : F (N0 + 150) = some (.inr (7, [.ref (N0 + 151), .ref (N0 + 152), .ref (N0 + 153), .ref (N0 + 154), .ref (N0 + 155), .ref (N0 + 156), .int 1]))) (h3 : F (N0 + 143) = some (.inr (7, [.ref (N0 + 144), .ref (N0 + 145), .ref (N0 + 146), .ref (N0 + 147), .ref (N0 + 148), .ref (N0 + 149), .int 1]))) (h4 : F (N0 + 151) = some (.inl (cC, 20, .inl (upd (fun _ => 0) 0 97)))) (h5 : F (N0 + 144) = some (.inl (cC, 20, .inl (upd (fun _ => 0) 0 97)))) (h6 : F (N0 + 152) = some (.inl (cI, 20, .inl (fun _ => 0)))) (h7 : F (N0 + 145) = some (.inl (cI, 20, .inl (fun _ => 0)))) (h8 : F (N0 + 153) = some (.inl (cI, 20, .inl (fun _ => 0)))) (h9 : F (N0 + 146) = some (.inl (cI, 20, .inl (fun _ => 0)))) (h10 : F (N0 + 154) = some (.inl (cI, 20, .inl (upd (fun _ => 0) 0 (-1))))) (h11 : F (N0 + 147) = some (.inl (cI, 20, .inl (upd (fun _ => 0) 0 (-1))))) : Met l yX7_copyTree wsX7_copyTree ({ frames := 2, cells := 0, slots := 0, locals := 61 }) (va_Pc [.ref N0, .int 1, .int 0] (fP N0 D vwCl (fty cI cC cL cD cII cTr cTm cIt cB) (fen ql) F n)) (fQi N0 D vwCl (fty cI cC cL cD cII cTr cTm cIt cB) (fun (r : Int32) (_ : Unit) => r = 1) (fun _ => (fu (fu (fu (fu (fu F (N0 + 144) (.inl (cC, 20, .inl (upd (fun _ => 0) 0 97)))) (N0 + 145) (.inl (cI, 20, .inl (fun _ => 0)))) (N0 + 146) (.inl (cI, 20, .inl (fun _ => 0)))) (N0 + 147) (.inl (cI, 20, .inl (upd (fun _ => 0) 0 (-1))))) (N0 + 143) (.inr (7, [.ref (N0 + 144), .ref (N0 + 145), .ref (N0 + 146), .ref (N0 + 147), .ref (N0 + 148), .ref (N0 + 149), .int 1])))) (fun _ => n)) 0 0 (fA N0) := by
  refine fx_start 5 rfl rfl (Nat.le_of_ble_eq_true rfl) ?_ rfl
  intro p e s m below meth c ls S hr hlocks hin hG hl
  have hl : lv_has ls 5 [(0, .ref N0), (1, .int 1), (2, .int 0)] := hl
  have lt_h0 := hG.1.lt h0
  have lt_h1 := hG.1.lt h1
  have lt_h2 := hG.1.lt h2
  have lt_h3 := hG.1.lt h3
  have lt_h4 := hG.1.lt h4
  have lt_h5 := hG.1.lt h5
  have lt_h6 := hG.1.lt h6
  have lt_h7 := hG.1.lt h7
  have lt_h8 := hG.1.lt h8
  have lt_h9 := hG.1.lt h9
  have lt_h10 := hG.1.lt h10
  have lt_h11 := hG.1.lt h11
  refine lv_aload_n S.1 S.2.1 dX7_copyTree_0 rfl (lv_at hl 0 rfl) ?_
  refine lv_iload_n S.1 S.2.1 dX7_copyTree_1 rfl (lv_at hl 1 rfl) ?_
  refine fx_cVr (As := [.int 1]) (rest := []) S hG (k42_X7_treeAt (by omega) h0 h1) h0 rfl (cwV 1 S.2.2.2.2 gX7_copyTree_X7_treeAt rfl rfl rfl (by decide +kernel) ⟨Nat.le_of_ble_eq_true rfl, Nat.le_of_ble_eq_true rfl⟩) rfl hl.1 rfl (Nat.le_of_ble_eq_true rfl) dX7_copyTree_2 ⟨Nat.le_of_ble_eq_true rfl, Nat.le_of_ble_eq_true rfl⟩ (fun rv_1 _ H locs hp hG => ?_)
  subst rv_1
  refine lv_astore_n (lv' := [(3, .ref (N0 + 150)), (0, .ref N0), (1, .int 1), (2, .int 0)]) S.1 S.2.1 dX7_copyTree_5 rfl hl (by decide) rfl (fun ls hl => ?_)
  refine lv_aload_n S.1 S.2.1 dX7_copyTree_6 rfl (lv_at hl 1 rfl) ?_
  refine lv_iload_n S.1 S.2.1 dX7_copyTree_7 rfl (lv_at hl 3 rfl) ?_
  refine fx_cVr (As := [.int 0]) (rest := []) S hG (k26_X7_treeAt (by omega) h0 h1) h0 rfl (cwV 1 S.2.2.2.2 gX7_copyTree_X7_treeAt rfl rfl rfl (by decide +kernel) ⟨Nat.le_of_ble_eq_true rfl, Nat.le_of_ble_eq_true rfl⟩) rfl hl.1 rfl (Nat.le_of_ble_eq_true rfl) dX7_copyTree_8 ⟨Nat.le_of_ble_eq_true rfl, Nat.le_of_ble_eq_true rfl⟩ (fun rv_2 _ H locs hp hG => ?_)
  subst rv_2
  refine lv_astore (lv' := [(4, .ref (N0 + 143)), (3, .ref (N0 + 150)), (0, .ref N0), (1, .int 1), (2, .int 0)]) S.1 S.2.1 dX7_copyTree_11 hl (by decide) rfl (fun ls hl => ?_)
  refine lv_aload S.1 S.2.1 dX7_copyTree_13 (lv_at hl 0 rfl) ?_
  refine lv_aload_n S.1 S.2.1 dX7_copyTree_15 rfl (lv_at hl 1 rfl) ?_
  refine fx_cVv (As := [.ref (N0 + 150)]) (rest := []) S hG (k489_X5_copyFrom (by omega) h2 h3 h4 h5 h6 h7 h8 h9 h10 h11) h3 rfl (cwV 1 S.2.2.2.2 gX7_copyTree_X5_copyFrom rfl rfl rfl (by decide +kernel) ⟨Nat.le_of_ble_eq_true rfl, Nat.le_of_ble_eq_true rfl⟩) rfl hl.1 rfl (Nat.le_of_ble_eq_true rfl) dX7_copyTree_16 ⟨Nat.le_of_ble_eq_true rfl, Nat.le_of_ble_eq_true rfl⟩ (fun _ H locs hp hG => ?_)
  refine lv_aload S.1 S.2.1 dX7_copyTree_19 (lv_at hl 0 rfl) ?_
  refine gx_get (C := RX5) (T := TX5) (N := 7) S hG fu_s i_X7_copyTree_X5 rfl 6 (by decide) (by decide +kernel) rfl dX7_copyTree_21 ?_
  exact fx_iret S hr hlocks () hG (rfl) dX7_copyTree_24
theorem k491_L_copyTree {n : Nat} (hn : N0 + 231 ≤ n) (h0 : F N0 = some (.inr (9, [.ref (N0 + 1), .ref (N0 + 2), .ref (N0 + 11), .ref (N0 + 13), .ref (N0 + 63), .ref (N0 + 65), .ref (N0 + 85), .int (-1), .int (-1), .int 32]))) (h1 : F (N0 + 1) = some (.inl (cTr, 3, .inr (.inr (.inr (.inr (va_up (va_up (va_up (fun _ => none) 0 (some (N0 + 143))) 1 (some (N0 + 150))) 2 (some (N0 + 157))))))))) (h2 : F (N0 + 150) = some (.inr (7, [.ref (N0 + 151), .ref (N0 + 152), .ref (N0 + 153), .ref (N0 + 154), .ref (N0 + 155), .ref (N0 + 156), .int 1]))) (h3 : F (N0 + 143) = some (.inr (7, [.ref (N0 + 144), .ref (N0 + 145), .ref (N0 + 146), .ref (N0 + 147), .ref (N0 + 148), .ref (N0 + 149), .int 1]))) (h4 : F (N0 + 151) = some (.inl (cC, 20, .inl (upd (fun _ => 0) 0 97)))) (h5 : F (N0 + 144) = some (.inl (cC, 20, .inl (upd (fun _ => 0) 0 97)))) (h6 : F (N0 + 152) = some (.inl (cI, 20, .inl (fun _ => 0)))) (h7 : F (N0 + 145) = some (.inl (cI, 20, .inl (fun _ => 0)))) (h8 : F (N0 + 153) = some (.inl (cI, 20, .inl (fun _ => 0)))) (h9 : F (N0 + 146) = some (.inl (cI, 20, .inl (fun _ => 0)))) (h10 : F (N0 + 154) = some (.inl (cI, 20, .inl (upd (fun _ => 0) 0 (-1))))) (h11 : F (N0 + 147) = some (.inl (cI, 20, .inl (upd (fun _ => 0) 0 (-1))))) (h12 : F (N0 + 229) = some (.inl (cL, 1, .inr (.inl (fun _ => 0))))) : Met l yL_copyTree wsL_copyTree ({ frames := 3, cells := 0, slots := 0, locals := 85 }) (va_Pc [.ref N0, .int 1, .int 0, .ref (N0 + 229)] (fP N0 D vwCl (fty cI cC cL cD cII cTr cTm cIt cB) (fen ql) F n)) (fQi N0 D vwCl (fty cI cC cL cD cII cTr cTm cIt cB) (fun (r : Int32) (_ : Unit) => r = 0) (fun _ => (fu (fu (fu (fu (fu (fu F (N0 + 144) (.inl (cC, 20, .inl (upd (fun _ => 0) 0 97)))) (N0 + 145) (.inl (cI, 20, .inl (fun _ => 0)))) (N0 + 146) (.inl (cI, 20, .inl (fun _ => 0)))) (N0 + 147) (.inl (cI, 20, .inl (upd (fun _ => 0) 0 (-1))))) (N0 + 143) (.inr (7, [.ref (N0 + 144), .ref (N0 + 145), .ref (N0 + 146), .ref (N0 + 147), .ref (N0 + 148), .ref (N0 + 149), .int 1]))) (N0 + 229) (.inl (cL, 1, .inr (.inl (vp_updL (fun _ => 0) 0 1)))))) (fun _ => n)) 0 0 (fA N0) := by
  refine fx_startW (hh := [(0, 10, 13, 19)]) 5 rfl rfl (Nat.le_of_ble_eq_true rfl) ?_ rfl
  intro p e s m below meth c ls S htab hr hlocks hG hl
  have hl : lv_has ls 5 [(0, .ref N0), (1, .int 1), (2, .int 0), (3, .ref (N0 + 229))] := hl
  have lt_h0 := hG.1.lt h0
  have lt_h1 := hG.1.lt h1
  have lt_h2 := hG.1.lt h2
  have lt_h3 := hG.1.lt h3
  have lt_h4 := hG.1.lt h4
  have lt_h5 := hG.1.lt h5
  have lt_h6 := hG.1.lt h6
  have lt_h7 := hG.1.lt h7
  have lt_h8 := hG.1.lt h8
  have lt_h9 := hG.1.lt h9
  have lt_h10 := hG.1.lt h10
  have lt_h11 := hG.1.lt h11
  have lt_h12 := hG.1.lt h12
  refine lv_aload_n S.1 S.2.1 dL_copyTree_0 rfl (lv_at hl 3 rfl) ?_
  refine lv_iconst (v := 0) S.1 S.2.1 dL_copyTree_1 (by decide) ?_
  refine lv_aload_n S.1 S.2.1 dL_copyTree_2 rfl (lv_at hl 0 rfl) ?_
  refine lv_iload_n S.1 S.2.1 dL_copyTree_3 rfl (lv_at hl 1 rfl) ?_
  refine lv_iload_n S.1 S.2.1 dL_copyTree_4 rfl (lv_at hl 2 rfl) ?_
  refine fx_cVi (As := [.int 1, .int 0]) (rest := [.int 0, .ref (N0 + 229)]) S hG (k490_X7_copyTree (by omega) h0 h1 h2 h3 h4 h5 h6 h7 h8 h9 h10 h11) h0 rfl (cwV 2 S.2.2.2.2 gL_copyTree_X7_copyTree rfl rfl rfl (by decide +kernel) ⟨Nat.le_of_ble_eq_true rfl, Nat.le_of_ble_eq_true rfl⟩) rfl hl.1 rfl (Nat.le_of_ble_eq_true rfl) dL_copyTree_5 ⟨Nat.le_of_ble_eq_true rfl, Nat.le_of_ble_eq_true rfl⟩ (fun rv_1 _ H locs hp hG => ?_)
  subst rv_1
  refine lv_i2l (v := 1) S.1 S.2.1 dL_copyTree_8 (by decide) ?_
  refine gx_last (f' := vp_updL (fun _ => 0) 0 1) S hG 2 (fu_at (by omega) (fu_at (by omega) (fu_at (by omega) (fu_at (by omega) (fu_at (by omega) h12))))) rfl (fin_l (by decide)) dL_copyTree_9 rfl (fun H locs hG => ?_)
  refine lv_goto (tgt := 17) S.1 S.2.1 dL_copyTree_10 (by decide) ?_
  refine lv_iconst (v := 0) S.1 S.2.1 dL_copyTree_17 (by decide) ?_
  exact fx_iret S hr hlocks () hG (rfl) dL_copyTree_18
theorem k492_X10_areNone {n : Nat} (hn : N0 + 231 ≤ n) (h0 : F (N0 + 164) = some (.inr (12, [.ref (N0 + 165), .int 0, .ref (N0 + 181), .int 0, .int 0, .int 0, .int (-1), .ref (ql 24), .ref (N0 + 182), .ref (N0 + 187), .ref (N0 + 208), .ref (N0 + 209), .ref (N0 + 210), .ref (N0 + 211), .ref (N0 + 212), .int 0, .ref (N0 + 213), .ref (N0 + 218), .ref (N0 + 223), .ref (N0 + 224), .ref (N0 + 225), .ref (N0 + 226), .ref (N0 + 227), .int 0, .int 0, .ref (N0 + 228), .null, .int (-1), .int 0, .int 0, .int 0]))) : Met l yX10_areNone wsX10_areNone ({ frames := 2, cells := 0, slots := 0, locals := 42 }) (va_Pc [.ref (N0 + 164), .int 1, .int 0] (fP N0 D vwCl (fty cI cC cL cD cII cTr cTm cIt cB) (fen ql) F n)) (fQi N0 D vwCl (fty cI cC cL cD cII cTr cTm cIt cB) (fun (r : Int32) (_ : Unit) => r = 0) (fun _ => (fu F (N0 + 164) (.inr (12, [.ref (N0 + 165), .int 0, .ref (N0 + 181), .int 0, .int 0, .int 0, .int (-1), .ref (ql 24), .ref (N0 + 182), .ref (N0 + 187), .ref (N0 + 208), .ref (N0 + 209), .ref (N0 + 210), .ref (N0 + 211), .ref (N0 + 212), .int 0, .ref (N0 + 213), .ref (N0 + 218), .ref (N0 + 223), .ref (N0 + 224), .ref (N0 + 225), .ref (N0 + 226), .ref (N0 + 227), .int 0, .int 0, .ref (N0 + 228), .null, .int (-1), .int 0, .int 0, .int 0])))) (fun _ => n)) 0 0 (fA N0) := by
  refine fx_start 3 rfl rfl (Nat.le_of_ble_eq_true rfl) ?_ rfl
  intro p e s m below meth c ls S hr hlocks hin hG hl
  have hl : lv_has ls 3 [(0, .ref (N0 + 164)), (1, .int 1), (2, .int 0)] := hl
  have lt_h0 := hG.1.lt h0
  refine lv_aload_n S.1 S.2.1 dX10_areNone_0 rfl (lv_at hl 0 rfl) ?_
  refine lv_iload_n S.1 S.2.1 dX10_areNone_1 rfl (lv_at hl 1 rfl) ?_
  refine fx_cSi (As := [.int 1]) (rest := [.ref (N0 + 164)]) S hG (k46_X10_isTree (by omega)) (cwS 1 S.2.2.2.2 gX10_areNone_X10_isTree rfl rfl rfl (by decide +kernel) ⟨Nat.le_of_ble_eq_true rfl, Nat.le_of_ble_eq_true rfl⟩) rfl hl.1 rfl (Nat.le_of_ble_eq_true rfl) dX10_areNone_2 ⟨Nat.le_of_ble_eq_true rfl, Nat.le_of_ble_eq_true rfl⟩ (fun rv_1 _ H locs hp hG => ?_)
  subst rv_1
  refine lv_if_eq (tgt := 19) S.1 S.2.1 dX10_areNone_5 (by decide) (fun c => absurd c (by decide)) (fun _ => ?_)
  refine lv_iload_n S.1 S.2.1 dX10_areNone_8 rfl (lv_at hl 2 rfl) ?_
  refine fx_cSi (As := [.int 0]) (rest := [.ref (N0 + 164)]) S hG (k34_X10_isTree (by omega)) (cwS 1 S.2.2.2.2 gX10_areNone_X10_isTree rfl rfl rfl (by decide +kernel) ⟨Nat.le_of_ble_eq_true rfl, Nat.le_of_ble_eq_true rfl⟩) rfl hl.1 rfl (Nat.le_of_ble_eq_true rfl) dX10_areNone_9 ⟨Nat.le_of_ble_eq_true rfl, Nat.le_of_ble_eq_true rfl⟩ (fun rv_2 _ H locs hp hG => ?_)
  subst rv_2
  refine lv_if_eq (tgt := 19) S.1 S.2.1 dX10_areNone_12 (by decide) (fun c => absurd c (by decide)) (fun _ => ?_)
  refine lv_iconst (v := 0) S.1 S.2.1 dX10_areNone_15 (by decide) ?_
  refine lv_goto (tgt := 20) S.1 S.2.1 dX10_areNone_16 (by decide) ?_
  refine gx_put (C := RX10) (T := TX10) (N := 31) (ty := .int) (v := .int 0) (fs' := [.ref (N0 + 165), .int 0, .ref (N0 + 181), .int 0, .int 0, .int 0, .int (-1), .ref (ql 24), .ref (N0 + 182), .ref (N0 + 187), .ref (N0 + 208), .ref (N0 + 209), .ref (N0 + 210), .ref (N0 + 211), .ref (N0 + 212), .int 0, .ref (N0 + 213), .ref (N0 + 218), .ref (N0 + 223), .ref (N0 + 224), .ref (N0 + 225), .ref (N0 + 226), .ref (N0 + 227), .int 0, .int 0, .ref (N0 + 228), .null, .int (-1), .int 0, .int 0, .int 0]) S hG h0 i_X10_areNone_X10 rfl 1 (by decide) tyX10 tyX10_ok nmX10 (by decide +kernel) rfl (by decide +kernel) rfl rfl (Nat.le_of_ble_eq_true rfl) rfl dX10_areNone_20 (fun H locs hG => ?_)
  refine lv_aload_n S.1 S.2.1 dX10_areNone_23 rfl (lv_at hl 0 rfl) ?_
  refine gx_get (C := RX10) (T := TX10) (N := 31) S hG fu_s i_X10_areNone_X10 rfl 1 (by decide) (by decide +kernel) rfl dX10_areNone_24 ?_
  refine lv_if_le (tgt := 34) S.1 S.2.1 dX10_areNone_27 (by decide) (fun _ => ?_) (fun c => absurd (by decide) c)
  refine lv_iconst (v := 0) S.1 S.2.1 dX10_areNone_34 (by decide) ?_
  exact fx_zret S hr (rfl) hlocks () hG (rfl) dX10_areNone_35
theorem k493_X9_copies {n : Nat} (hn : N0 + 231 ≤ n) (h0 : F (N0 + 171) = some (.inr (11, [.ref (N0 + 172), .ref (N0 + 173), .ref (N0 + 174), .ref (N0 + 175), .int 1]))) (h1 : F (N0 + 166) = some (.inr (11, [.ref (N0 + 167), .ref (N0 + 168), .ref (N0 + 169), .ref (N0 + 170), .int 1]))) (h2 : F (N0 + 172) = some (.inl (cI, 20, .inl (upd (fun _ => 0) 0 97)))) (h3 : F (N0 + 173) = some (.inl (cI, 20, .inl (upd (fun _ => 0) 0 0)))) (h4 : F (N0 + 174) = some (.inl (cI, 20, .inl (upd (fun _ => 0) 0 0)))) (h5 : F (N0 + 175) = some (.inl (cI, 20, .inl (upd (fun _ => 0) 0 (-1))))) (h6 : F (N0 + 167) = some (.inl (cI, 20, .inl (upd (fun _ => 0) 0 97)))) (h7 : F (N0 + 168) = some (.inl (cI, 20, .inl (upd (fun _ => 0) 0 0)))) (h8 : F (N0 + 169) = some (.inl (cI, 20, .inl (upd (fun _ => 0) 0 0)))) (h9 : F (N0 + 170) = some (.inl (cI, 20, .inl (upd (fun _ => 0) 0 (-1))))) : Met l yX9_copies wsX9_copies ({ frames := 1, cells := 0, slots := 0, locals := 25 }) (va_Pc [.ref (N0 + 166), .ref (N0 + 171)] (fP N0 D vwCl (fty cI cC cL cD cII cTr cTm cIt cB) (fen ql) F n)) (fQv N0 D vwCl (fty cI cC cL cD cII cTr cTm cIt cB) (fun (_ : Unit) => True) (fun _ => (fu (fu (fu (fu (fu F (N0 + 166) (.inr (11, [.ref (N0 + 167), .ref (N0 + 168), .ref (N0 + 169), .ref (N0 + 170), .int 1]))) (N0 + 167) (.inl (cI, 20, .inl (upd (upd (fun _ => 0) 0 97) 0 97)))) (N0 + 168) (.inl (cI, 20, .inl (upd (upd (fun _ => 0) 0 0) 0 0)))) (N0 + 169) (.inl (cI, 20, .inl (upd (upd (fun _ => 0) 0 0) 0 0)))) (N0 + 170) (.inl (cI, 20, .inl (upd (upd (fun _ => 0) 0 (-1)) 0 (-1)))))) (fun _ => n)) 0 0 (fA N0) := by
  refine fx_start 3 rfl rfl (Nat.le_of_ble_eq_true rfl) ?_ rfl
  intro p e s m below meth c ls S hr hlocks hin hG hl
  have hl : lv_has ls 3 [(0, .ref (N0 + 166)), (1, .ref (N0 + 171))] := hl
  have lt_h0 := hG.1.lt h0
  have lt_h1 := hG.1.lt h1
  have lt_h2 := hG.1.lt h2
  have lt_h3 := hG.1.lt h3
  have lt_h4 := hG.1.lt h4
  have lt_h5 := hG.1.lt h5
  have lt_h6 := hG.1.lt h6
  have lt_h7 := hG.1.lt h7
  have lt_h8 := hG.1.lt h8
  have lt_h9 := hG.1.lt h9
  refine lv_aload_n S.1 S.2.1 dX9_copies_0 rfl (lv_at hl 0 rfl) ?_
  refine lv_aload_n S.1 S.2.1 dX9_copies_1 rfl (lv_at hl 1 rfl) ?_
  refine gx_get (C := RX9) (T := TX9) (N := 5) S hG h0 i_X9_copies_X9 rfl 4 (by decide) (by decide +kernel) rfl dX9_copies_2 ?_
  refine gx_put (C := RX9) (T := TX9) (N := 5) (ty := .int) (v := .int 1) (fs' := [.ref (N0 + 167), .ref (N0 + 168), .ref (N0 + 169), .ref (N0 + 170), .int 1]) S hG h1 i_X9_copies_X9 rfl 4 (by decide) tyX9 tyX9_ok nmX9 (by decide +kernel) rfl (by decide +kernel) rfl rfl (Nat.le_of_ble_eq_true rfl) rfl dX9_copies_5 (fun H locs hG => ?_)
  refine lv_iconst (v := 0) S.1 S.2.1 dX9_copies_8 (by decide) ?_
  refine lv_istore_n (lv' := [(2, .int 0), (0, .ref (N0 + 166)), (1, .ref (N0 + 171))]) S.1 S.2.1 dX9_copies_9 rfl hl (by decide) rfl (fun ls hl => ?_)
  refine lv_iload_n S.1 S.2.1 dX9_copies_10 rfl (lv_at hl 0 rfl) ?_
  refine lv_aload_n S.1 S.2.1 dX9_copies_11 rfl (lv_at hl 1 rfl) ?_
  refine gx_get (C := RX9) (T := TX9) (N := 5) S hG fu_s i_X9_copies_X9 rfl 4 (by decide) (by decide +kernel) rfl dX9_copies_12 ?_
  refine lv_icmp_ge (tgt := 53) S.1 S.2.1 dX9_copies_15 (by decide) (fun c => absurd c (by decide)) (fun _ => ?_)
  refine lv_aload_n S.1 S.2.1 dX9_copies_18 rfl (lv_at hl 1 rfl) ?_
  refine lv_iload_n S.1 S.2.1 dX9_copies_19 rfl (lv_at hl 0 rfl) ?_
  refine lv_aload_n S.1 S.2.1 dX9_copies_20 rfl (lv_at hl 2 rfl) ?_
  refine gx_get (C := RX9) (T := TX9) (N := 5) S hG (fu_at (by omega) h0) i_X9_copies_X9 rfl 0 (by decide) (by decide +kernel) rfl dX9_copies_21 ?_
  refine lv_iload_n S.1 S.2.1 dX9_copies_24 rfl (lv_at hl 0 rfl) ?_
  refine gx_iald (v := 97) S hG 0 (fu_at (by omega) h2) rfl (fin_l (by decide)) (by decide) dX9_copies_25 ?_
  refine lv_aload_n S.1 S.2.1 dX9_copies_26 rfl (lv_at hl 2 rfl) ?_
  refine gx_get (C := RX9) (T := TX9) (N := 5) S hG (fu_at (by omega) h0) i_X9_copies_X9 rfl 1 (by decide) (by decide +kernel) rfl dX9_copies_27 ?_
  refine lv_iload_n S.1 S.2.1 dX9_copies_30 rfl (lv_at hl 0 rfl) ?_
  refine gx_iald (v := 0) S hG 0 (fu_at (by omega) h3) rfl (fin_l (by decide)) (by decide) dX9_copies_31 ?_
  refine lv_aload_n S.1 S.2.1 dX9_copies_32 rfl (lv_at hl 2 rfl) ?_
  refine gx_get (C := RX9) (T := TX9) (N := 5) S hG (fu_at (by omega) h0) i_X9_copies_X9 rfl 2 (by decide) (by decide +kernel) rfl dX9_copies_33 ?_
  refine lv_iload_n S.1 S.2.1 dX9_copies_36 rfl (lv_at hl 0 rfl) ?_
  refine gx_iald (v := 0) S hG 0 (fu_at (by omega) h4) rfl (fin_l (by decide)) (by decide) dX9_copies_37 ?_
  refine lv_aload_n S.1 S.2.1 dX9_copies_38 rfl (lv_at hl 2 rfl) ?_
  refine gx_get (C := RX9) (T := TX9) (N := 5) S hG (fu_at (by omega) h0) i_X9_copies_X9 rfl 3 (by decide) (by decide +kernel) rfl dX9_copies_39 ?_
  refine lv_iload_n S.1 S.2.1 dX9_copies_42 rfl (lv_at hl 0 rfl) ?_
  refine gx_iald (v := (-1)) S hG 0 (fu_at (by omega) h5) rfl (fin_l (by decide)) (by decide) dX9_copies_43 ?_
  refine fx_cVv (As := [.int 0, .int 97, .int 0, .int 0, .int (-1)]) (rest := []) S hG (k461_X9_sets (by omega) fu_s (fu_at (by omega) h6) (fu_at (by omega) h7) (fu_at (by omega) h8) (fu_at (by omega) h9)) fu_s rfl (cwV 5 S.2.2.2.2 gX9_copies_X9_sets rfl rfl rfl (by decide +kernel) ⟨Nat.le_of_ble_eq_true rfl, Nat.le_of_ble_eq_true rfl⟩) rfl hl.1 rfl (Nat.le_of_ble_eq_true rfl) dX9_copies_44 ⟨Nat.le_of_ble_eq_true rfl, Nat.le_of_ble_eq_true rfl⟩ (fun _ H locs hp hG => ?_)
  refine lv_iinc (v := 1) (lv' := [(2, .int 1), (0, .ref (N0 + 166)), (1, .ref (N0 + 171))]) S.1 S.2.1 dX9_copies_47 hl (k := 0) rfl (by decide) (by decide) rfl (fun ls hl => ?_)
  refine lv_goto (tgt := 10) S.1 S.2.1 dX9_copies_50 (by decide) ?_
  refine lv_iload_n S.1 S.2.1 dX9_copies_10 rfl (lv_at hl 0 rfl) ?_
  refine lv_aload_n S.1 S.2.1 dX9_copies_11 rfl (lv_at hl 1 rfl) ?_
  refine gx_get (C := RX9) (T := TX9) (N := 5) S hG (fu_at (by omega) (fu_at (by omega) (fu_at (by omega) (fu_at (by omega) fu_s)))) i_X9_copies_X9 rfl 4 (by decide) (by decide +kernel) rfl dX9_copies_12 ?_
  refine lv_icmp_ge (tgt := 53) S.1 S.2.1 dX9_copies_15 (by decide) (fun _ => ?_) (fun c => absurd (by decide) c)
  exact fx_vret S hr hlocks () hG trivial dX9_copies_53
theorem k494_X10_copyTree {n : Nat} (hn : N0 + 231 ≤ n) (h0 : F (N0 + 164) = some (.inr (12, [.ref (N0 + 165), .int 0, .ref (N0 + 181), .int 0, .int 0, .int 0, .int (-1), .ref (ql 24), .ref (N0 + 182), .ref (N0 + 187), .ref (N0 + 208), .ref (N0 + 209), .ref (N0 + 210), .ref (N0 + 211), .ref (N0 + 212), .int 0, .ref (N0 + 213), .ref (N0 + 218), .ref (N0 + 223), .ref (N0 + 224), .ref (N0 + 225), .ref (N0 + 226), .ref (N0 + 227), .int 0, .int 0, .ref (N0 + 228), .null, .int (-1), .int 0, .int 0, .int 0]))) (h1 : F (N0 + 165) = some (.inl (cTm, 3, .inr (.inr (.inr (.inr (va_up (va_up (va_up (fun _ => none) 0 (some (N0 + 166))) 1 (some (N0 + 171))) 2 (some (N0 + 176))))))))) (h2 : F (N0 + 171) = some (.inr (11, [.ref (N0 + 172), .ref (N0 + 173), .ref (N0 + 174), .ref (N0 + 175), .int 1]))) (h3 : F (N0 + 166) = some (.inr (11, [.ref (N0 + 167), .ref (N0 + 168), .ref (N0 + 169), .ref (N0 + 170), .int 1]))) (h4 : F (N0 + 172) = some (.inl (cI, 20, .inl (upd (fun _ => 0) 0 97)))) (h5 : F (N0 + 173) = some (.inl (cI, 20, .inl (upd (fun _ => 0) 0 0)))) (h6 : F (N0 + 174) = some (.inl (cI, 20, .inl (upd (fun _ => 0) 0 0)))) (h7 : F (N0 + 175) = some (.inl (cI, 20, .inl (upd (fun _ => 0) 0 (-1))))) (h8 : F (N0 + 167) = some (.inl (cI, 20, .inl (upd (fun _ => 0) 0 97)))) (h9 : F (N0 + 168) = some (.inl (cI, 20, .inl (upd (fun _ => 0) 0 0)))) (h10 : F (N0 + 169) = some (.inl (cI, 20, .inl (upd (fun _ => 0) 0 0)))) (h11 : F (N0 + 170) = some (.inl (cI, 20, .inl (upd (fun _ => 0) 0 (-1))))) : Met l yX10_copyTree wsX10_copyTree ({ frames := 3, cells := 0, slots := 0, locals := 64 }) (va_Pc [.ref (N0 + 164), .int 1, .int 0] (fP N0 D vwCl (fty cI cC cL cD cII cTr cTm cIt cB) (fen ql) F n)) (fQi N0 D vwCl (fty cI cC cL cD cII cTr cTm cIt cB) (fun (r : Int32) (_ : Unit) => r = 1) (fun _ => (fu (fu (fu (fu (fu (fu F (N0 + 164) (.inr (12, [.ref (N0 + 165), .int 0, .ref (N0 + 181), .int 0, .int 0, .int 0, .int (-1), .ref (ql 24), .ref (N0 + 182), .ref (N0 + 187), .ref (N0 + 208), .ref (N0 + 209), .ref (N0 + 210), .ref (N0 + 211), .ref (N0 + 212), .int 0, .ref (N0 + 213), .ref (N0 + 218), .ref (N0 + 223), .ref (N0 + 224), .ref (N0 + 225), .ref (N0 + 226), .ref (N0 + 227), .int 0, .int 0, .ref (N0 + 228), .null, .int (-1), .int 0, .int 0, .int 0]))) (N0 + 166) (.inr (11, [.ref (N0 + 167), .ref (N0 + 168), .ref (N0 + 169), .ref (N0 + 170), .int 1]))) (N0 + 167) (.inl (cI, 20, .inl (upd (upd (fun _ => 0) 0 97) 0 97)))) (N0 + 168) (.inl (cI, 20, .inl (upd (upd (fun _ => 0) 0 0) 0 0)))) (N0 + 169) (.inl (cI, 20, .inl (upd (upd (fun _ => 0) 0 0) 0 0)))) (N0 + 170) (.inl (cI, 20, .inl (upd (upd (fun _ => 0) 0 (-1)) 0 (-1)))))) (fun _ => n)) 0 0 (fA N0) := by
  refine fx_start 3 rfl rfl (Nat.le_of_ble_eq_true rfl) ?_ rfl
  intro p e s m below meth c ls S hr hlocks hin hG hl
  have hl : lv_has ls 3 [(0, .ref (N0 + 164)), (1, .int 1), (2, .int 0)] := hl
  have lt_h0 := hG.1.lt h0
  have lt_h1 := hG.1.lt h1
  have lt_h2 := hG.1.lt h2
  have lt_h3 := hG.1.lt h3
  have lt_h4 := hG.1.lt h4
  have lt_h5 := hG.1.lt h5
  have lt_h6 := hG.1.lt h6
  have lt_h7 := hG.1.lt h7
  have lt_h8 := hG.1.lt h8
  have lt_h9 := hG.1.lt h9
  have lt_h10 := hG.1.lt h10
  have lt_h11 := hG.1.lt h11
  refine lv_aload_n S.1 S.2.1 dX10_copyTree_0 rfl (lv_at hl 0 rfl) ?_
  refine lv_iload_n S.1 S.2.1 dX10_copyTree_1 rfl (lv_at hl 1 rfl) ?_
  refine lv_iload_n S.1 S.2.1 dX10_copyTree_2 rfl (lv_at hl 2 rfl) ?_
  refine fx_cVi (As := [.int 1, .int 0]) (rest := []) S hG (k492_X10_areNone (by omega) h0) h0 rfl (cwV 2 S.2.2.2.2 gX10_copyTree_X10_areNone rfl rfl rfl (by decide +kernel) ⟨Nat.le_of_ble_eq_true rfl, Nat.le_of_ble_eq_true rfl⟩) rfl hl.1 rfl (Nat.le_of_ble_eq_true rfl) dX10_copyTree_3 ⟨Nat.le_of_ble_eq_true rfl, Nat.le_of_ble_eq_true rfl⟩ (fun rv_1 _ H locs hp hG => ?_)
  subst rv_1
  refine lv_if_eq (tgt := 11) S.1 S.2.1 dX10_copyTree_6 (by decide) (fun _ => ?_) (fun c => absurd (by decide) c)
  refine lv_aload_n S.1 S.2.1 dX10_copyTree_11 rfl (lv_at hl 0 rfl) ?_
  refine gx_get (C := RX10) (T := TX10) (N := 31) S hG fu_s i_X10_copyTree_X10 rfl 0 (by decide) (by decide +kernel) rfl dX10_copyTree_12 ?_
  refine lv_iload_n S.1 S.2.1 dX10_copyTree_15 rfl (lv_at hl 2 rfl) ?_
  refine gx_aldq (x := (N0 + 166)) S hG 6 rfl (fu_at (by omega) h1) rfl (fin_l (by decide)) (rfl) dX10_copyTree_16 ?_
  refine lv_aload_n S.1 S.2.1 dX10_copyTree_17 rfl (lv_at hl 0 rfl) ?_
  refine gx_get (C := RX10) (T := TX10) (N := 31) S hG fu_s i_X10_copyTree_X10 rfl 0 (by decide) (by decide +kernel) rfl dX10_copyTree_18 ?_
  refine lv_iload_n S.1 S.2.1 dX10_copyTree_21 rfl (lv_at hl 1 rfl) ?_
  refine gx_aldq (x := (N0 + 171)) S hG 6 rfl (fu_at (by omega) h1) rfl (fin_l (by decide)) (rfl) dX10_copyTree_22 ?_
  refine fx_cVNv (host := "TreeDifferModel") (As := [.ref (N0 + 171)]) (rest := []) S hG (k493_X9_copies (by omega) (fu_at (by omega) h2) (fu_at (by omega) h3) (fu_at (by omega) h4) (fu_at (by omega) h5) (fu_at (by omega) h6) (fu_at (by omega) h7) (fu_at (by omega) h8) (fu_at (by omega) h9) (fu_at (by omega) h10) (fu_at (by omega) h11)) (fu_at (by omega) h3) rfl ⟨(va_cnB 1 S.2.2.2.2 gX10_copyTree_X9_copies_n157 rfl rfl rfl (hG.nest (show _ ∈ fen2.2.2.1 from by decide)) (S.2.2.2.2 (.initialized RX9) (by decide +kernel)) (by decide +kernel) ⟨Nat.le_of_ble_eq_true rfl, Nat.le_of_ble_eq_true rfl⟩), S.2.2.2.2 (.instanceMethod yX9_copies) (by decide +kernel), S.2.2.2.2 (.selects RX9 yX9_copies yX9_copies) (by decide +kernel)⟩ rfl hl.1 rfl (Nat.le_of_ble_eq_true rfl) dX10_copyTree_23 ⟨Nat.le_of_ble_eq_true rfl, Nat.le_of_ble_eq_true rfl⟩ (fun _ H locs hp hG => ?_)
  refine lv_aload_n S.1 S.2.1 dX10_copyTree_26 rfl (lv_at hl 0 rfl) ?_
  refine gx_get (C := RX10) (T := TX10) (N := 31) S hG (fu_at (by omega) (fu_at (by omega) (fu_at (by omega) (fu_at (by omega) (fu_at (by omega) fu_s))))) i_X10_copyTree_X10 rfl 0 (by decide) (by decide +kernel) rfl dX10_copyTree_27 ?_
  refine lv_iload_n S.1 S.2.1 dX10_copyTree_30 rfl (lv_at hl 1 rfl) ?_
  refine gx_aldq (x := (N0 + 171)) S hG 6 rfl (fu_at (by omega) (fu_at (by omega) (fu_at (by omega) (fu_at (by omega) (fu_at (by omega) (fu_at (by omega) h1)))))) rfl (fin_l (by decide)) (rfl) dX10_copyTree_31 ?_
  refine gx_getN (C := RX9) (T := TX9) (N := 5) S hG (fu_at (by omega) (fu_at (by omega) (fu_at (by omega) (fu_at (by omega) (fu_at (by omega) (fu_at (by omega) h2)))))) i_X10_copyTree_X9 rfl 4 (by decide) (List.mem_of_getElem? (i := 4) rfl) rfl dX10_copyTree_32 ?_
  exact fx_iret S hr hlocks () hG (rfl) dX10_copyTree_35
theorem k495_X5_copyFrom {n : Nat} (hn : N0 + 231 ≤ n) (h0 : F (N0 + 150) = some (.inr (7, [.ref (N0 + 151), .ref (N0 + 152), .ref (N0 + 153), .ref (N0 + 154), .ref (N0 + 155), .ref (N0 + 156), .int 1]))) (h1 : F (N0 + 151) = some (.inl (cC, 20, .inl (upd (fun _ => 0) 0 97)))) (h2 : F (N0 + 152) = some (.inl (cI, 20, .inl (fun _ => 0)))) (h3 : F (N0 + 153) = some (.inl (cI, 20, .inl (fun _ => 0)))) (h4 : F (N0 + 154) = some (.inl (cI, 20, .inl (upd (fun _ => 0) 0 (-1))))) : Met l yX5_copyFrom wsX5_copyFrom ({ frames := 1, cells := 0, slots := 0, locals := 40 }) (va_Pc [.ref (N0 + 150), .ref (N0 + 150)] (fP N0 D vwCl (fty cI cC cL cD cII cTr cTm cIt cB) (fen ql) F n)) (fQv N0 D vwCl (fty cI cC cL cD cII cTr cTm cIt cB) (fun (_ : Unit) => True) (fun _ => (fu (fu (fu (fu (fu F (N0 + 151) (.inl (cC, 20, .inl (upd (fun _ => 0) 0 97)))) (N0 + 152) (.inl (cI, 20, .inl (fun _ => 0)))) (N0 + 153) (.inl (cI, 20, .inl (fun _ => 0)))) (N0 + 154) (.inl (cI, 20, .inl (upd (fun _ => 0) 0 (-1))))) (N0 + 150) (.inr (7, [.ref (N0 + 151), .ref (N0 + 152), .ref (N0 + 153), .ref (N0 + 154), .ref (N0 + 155), .ref (N0 + 156), .int 1])))) (fun _ => n)) 0 0 (fA N0) := by
  refine fx_start 2 rfl rfl (Nat.le_of_ble_eq_true rfl) ?_ rfl
  intro p e s m below meth c ls S hr hlocks hin hG hl
  have hl : lv_has ls 2 [(0, .ref (N0 + 150)), (1, .ref (N0 + 150))] := hl
  have lt_h0 := hG.1.lt h0
  have lt_h1 := hG.1.lt h1
  have lt_h2 := hG.1.lt h2
  have lt_h3 := hG.1.lt h3
  have lt_h4 := hG.1.lt h4
  refine lv_aload_n S.1 S.2.1 dX5_copyFrom_0 rfl (lv_at hl 1 rfl) ?_
  refine gx_get (C := RX5) (T := TX5) (N := 7) S hG h0 i_X5_copyFrom_X5 rfl 0 (by decide) (by decide +kernel) rfl dX5_copyFrom_1 ?_
  refine lv_iconst (v := 0) S.1 S.2.1 dX5_copyFrom_4 (by decide) ?_
  refine lv_aload_n S.1 S.2.1 dX5_copyFrom_5 rfl (lv_at hl 0 rfl) ?_
  refine gx_get (C := RX5) (T := TX5) (N := 7) S hG h0 i_X5_copyFrom_X5 rfl 0 (by decide) (by decide +kernel) rfl dX5_copyFrom_6 ?_
  refine lv_iconst (v := 0) S.1 S.2.1 dX5_copyFrom_9 (by decide) ?_
  refine lv_bipush (v := 20) S.1 S.2.1 dX5_copyFrom_10 (by decide) ?_
  refine gx_copyi (f' := upd (fun _ => 0) 0 97) S hG hl.1 (by decide +kernel) (by decide +kernel) (by decide +kernel) (by decide +kernel) 1 h1 h1 rfl rfl (by decide) (by decide) (by decide) (by decide) (by decide) (fun i _ => (ffitU ffit0 (by decide)) _) (Nat.le_of_ble_eq_true rfl) (Nat.le_of_ble_eq_true rfl) dX5_copyFrom_12 fcpy_same (fun H locs hG => ?_)
  refine lv_aload_n S.1 S.2.1 dX5_copyFrom_15 rfl (lv_at hl 1 rfl) ?_
  refine gx_get (C := RX5) (T := TX5) (N := 7) S hG (fu_at (by omega) h0) i_X5_copyFrom_X5 rfl 1 (by decide) (by decide +kernel) rfl dX5_copyFrom_16 ?_
  refine lv_iconst (v := 0) S.1 S.2.1 dX5_copyFrom_19 (by decide) ?_
  refine lv_aload_n S.1 S.2.1 dX5_copyFrom_20 rfl (lv_at hl 0 rfl) ?_
  refine gx_get (C := RX5) (T := TX5) (N := 7) S hG (fu_at (by omega) h0) i_X5_copyFrom_X5 rfl 1 (by decide) (by decide +kernel) rfl dX5_copyFrom_21 ?_
  refine lv_iconst (v := 0) S.1 S.2.1 dX5_copyFrom_24 (by decide) ?_
  refine lv_bipush (v := 20) S.1 S.2.1 dX5_copyFrom_25 (by decide) ?_
  refine gx_copyi (f' := fun _ => 0) S hG hl.1 (by decide +kernel) (by decide +kernel) (by decide +kernel) (by decide +kernel) 0 (fu_at (by omega) h2) (fu_at (by omega) h2) rfl rfl (by decide) (by decide) (by decide) (by decide) (by decide) (fun i _ => rfl) (Nat.le_of_ble_eq_true rfl) (Nat.le_of_ble_eq_true rfl) dX5_copyFrom_27 fcpy_same (fun H locs hG => ?_)
  refine lv_aload_n S.1 S.2.1 dX5_copyFrom_30 rfl (lv_at hl 1 rfl) ?_
  refine gx_get (C := RX5) (T := TX5) (N := 7) S hG (fu_at (by omega) (fu_at (by omega) h0)) i_X5_copyFrom_X5 rfl 2 (by decide) (by decide +kernel) rfl dX5_copyFrom_31 ?_
  refine lv_iconst (v := 0) S.1 S.2.1 dX5_copyFrom_34 (by decide) ?_
  refine lv_aload_n S.1 S.2.1 dX5_copyFrom_35 rfl (lv_at hl 0 rfl) ?_
  refine gx_get (C := RX5) (T := TX5) (N := 7) S hG (fu_at (by omega) (fu_at (by omega) h0)) i_X5_copyFrom_X5 rfl 2 (by decide) (by decide +kernel) rfl dX5_copyFrom_36 ?_
  refine lv_iconst (v := 0) S.1 S.2.1 dX5_copyFrom_39 (by decide) ?_
  refine lv_bipush (v := 20) S.1 S.2.1 dX5_copyFrom_40 (by decide) ?_
  refine gx_copyi (f' := fun _ => 0) S hG hl.1 (by decide +kernel) (by decide +kernel) (by decide +kernel) (by decide +kernel) 0 (fu_at (by omega) (fu_at (by omega) h3)) (fu_at (by omega) (fu_at (by omega) h3)) rfl rfl (by decide) (by decide) (by decide) (by decide) (by decide) (fun i _ => rfl) (Nat.le_of_ble_eq_true rfl) (Nat.le_of_ble_eq_true rfl) dX5_copyFrom_42 fcpy_same (fun H locs hG => ?_)
  refine lv_aload_n S.1 S.2.1 dX5_copyFrom_45 rfl (lv_at hl 1 rfl) ?_
  refine gx_get (C := RX5) (T := TX5) (N := 7) S hG (fu_at (by omega) (fu_at (by omega) (fu_at (by omega) h0))) i_X5_copyFrom_X5 rfl 3 (by decide) (by decide +kernel) rfl dX5_copyFrom_46 ?_
  refine lv_iconst (v := 0) S.1 S.2.1 dX5_copyFrom_49 (by decide) ?_
  refine lv_aload_n S.1 S.2.1 dX5_copyFrom_50 rfl (lv_at hl 0 rfl) ?_
  refine gx_get (C := RX5) (T := TX5) (N := 7) S hG (fu_at (by omega) (fu_at (by omega) (fu_at (by omega) h0))) i_X5_copyFrom_X5 rfl 3 (by decide) (by decide +kernel) rfl dX5_copyFrom_51 ?_
  refine lv_iconst (v := 0) S.1 S.2.1 dX5_copyFrom_54 (by decide) ?_
  refine lv_bipush (v := 20) S.1 S.2.1 dX5_copyFrom_55 (by decide) ?_
  refine gx_copyi (f' := upd (fun _ => 0) 0 (-1)) S hG hl.1 (by decide +kernel) (by decide +kernel) (by decide +kernel) (by decide +kernel) 0 (fu_at (by omega) (fu_at (by omega) (fu_at (by omega) h4))) (fu_at (by omega) (fu_at (by omega) (fu_at (by omega) h4))) rfl rfl (by decide) (by decide) (by decide) (by decide) (by decide) (fun i _ => rfl) (Nat.le_of_ble_eq_true rfl) (Nat.le_of_ble_eq_true rfl) dX5_copyFrom_57 fcpy_same (fun H locs hG => ?_)
  refine lv_aload_n S.1 S.2.1 dX5_copyFrom_60 rfl (lv_at hl 0 rfl) ?_
  refine lv_aload_n S.1 S.2.1 dX5_copyFrom_61 rfl (lv_at hl 1 rfl) ?_
  refine gx_get (C := RX5) (T := TX5) (N := 7) S hG (fu_at (by omega) (fu_at (by omega) (fu_at (by omega) (fu_at (by omega) h0)))) i_X5_copyFrom_X5 rfl 6 (by decide) (by decide +kernel) rfl dX5_copyFrom_62 ?_
  refine gx_put (C := RX5) (T := TX5) (N := 7) (ty := .int) (v := .int 1) (fs' := [.ref (N0 + 151), .ref (N0 + 152), .ref (N0 + 153), .ref (N0 + 154), .ref (N0 + 155), .ref (N0 + 156), .int 1]) S hG (fu_at (by omega) (fu_at (by omega) (fu_at (by omega) (fu_at (by omega) h0)))) i_X5_copyFrom_X5 rfl 6 (by decide) tyX5 tyX5_ok nmX5 (by decide +kernel) rfl (by decide +kernel) rfl rfl (Nat.le_of_ble_eq_true rfl) rfl dX5_copyFrom_65 (fun H locs hG => ?_)
  exact fx_vret S hr hlocks () hG trivial dX5_copyFrom_68
theorem k496_X7_copyTree {n : Nat} (hn : N0 + 231 ≤ n) (h0 : F N0 = some (.inr (9, [.ref (N0 + 1), .ref (N0 + 2), .ref (N0 + 11), .ref (N0 + 13), .ref (N0 + 63), .ref (N0 + 65), .ref (N0 + 85), .int (-1), .int (-1), .int 32]))) (h1 : F (N0 + 1) = some (.inl (cTr, 3, .inr (.inr (.inr (.inr (va_up (va_up (va_up (fun _ => none) 0 (some (N0 + 143))) 1 (some (N0 + 150))) 2 (some (N0 + 157))))))))) (h2 : F (N0 + 150) = some (.inr (7, [.ref (N0 + 151), .ref (N0 + 152), .ref (N0 + 153), .ref (N0 + 154), .ref (N0 + 155), .ref (N0 + 156), .int 1]))) (h3 : F (N0 + 151) = some (.inl (cC, 20, .inl (upd (fun _ => 0) 0 97)))) (h4 : F (N0 + 152) = some (.inl (cI, 20, .inl (fun _ => 0)))) (h5 : F (N0 + 153) = some (.inl (cI, 20, .inl (fun _ => 0)))) (h6 : F (N0 + 154) = some (.inl (cI, 20, .inl (upd (fun _ => 0) 0 (-1))))) : Met l yX7_copyTree wsX7_copyTree ({ frames := 2, cells := 0, slots := 0, locals := 61 }) (va_Pc [.ref N0, .int 1, .int 1] (fP N0 D vwCl (fty cI cC cL cD cII cTr cTm cIt cB) (fen ql) F n)) (fQi N0 D vwCl (fty cI cC cL cD cII cTr cTm cIt cB) (fun (r : Int32) (_ : Unit) => r = 1) (fun _ => (fu (fu (fu (fu (fu F (N0 + 151) (.inl (cC, 20, .inl (upd (fun _ => 0) 0 97)))) (N0 + 152) (.inl (cI, 20, .inl (fun _ => 0)))) (N0 + 153) (.inl (cI, 20, .inl (fun _ => 0)))) (N0 + 154) (.inl (cI, 20, .inl (upd (fun _ => 0) 0 (-1))))) (N0 + 150) (.inr (7, [.ref (N0 + 151), .ref (N0 + 152), .ref (N0 + 153), .ref (N0 + 154), .ref (N0 + 155), .ref (N0 + 156), .int 1])))) (fun _ => n)) 0 0 (fA N0) := by
  refine fx_start 5 rfl rfl (Nat.le_of_ble_eq_true rfl) ?_ rfl
  intro p e s m below meth c ls S hr hlocks hin hG hl
  have hl : lv_has ls 5 [(0, .ref N0), (1, .int 1), (2, .int 1)] := hl
  have lt_h0 := hG.1.lt h0
  have lt_h1 := hG.1.lt h1
  have lt_h2 := hG.1.lt h2
  have lt_h3 := hG.1.lt h3
  have lt_h4 := hG.1.lt h4
  have lt_h5 := hG.1.lt h5
  have lt_h6 := hG.1.lt h6
  refine lv_aload_n S.1 S.2.1 dX7_copyTree_0 rfl (lv_at hl 0 rfl) ?_
  refine lv_iload_n S.1 S.2.1 dX7_copyTree_1 rfl (lv_at hl 1 rfl) ?_
  refine fx_cVr (As := [.int 1]) (rest := []) S hG (k42_X7_treeAt (by omega) h0 h1) h0 rfl (cwV 1 S.2.2.2.2 gX7_copyTree_X7_treeAt rfl rfl rfl (by decide +kernel) ⟨Nat.le_of_ble_eq_true rfl, Nat.le_of_ble_eq_true rfl⟩) rfl hl.1 rfl (Nat.le_of_ble_eq_true rfl) dX7_copyTree_2 ⟨Nat.le_of_ble_eq_true rfl, Nat.le_of_ble_eq_true rfl⟩ (fun rv_1 _ H locs hp hG => ?_)
  subst rv_1
  refine lv_astore_n (lv' := [(3, .ref (N0 + 150)), (0, .ref N0), (1, .int 1), (2, .int 1)]) S.1 S.2.1 dX7_copyTree_5 rfl hl (by decide) rfl (fun ls hl => ?_)
  refine lv_aload_n S.1 S.2.1 dX7_copyTree_6 rfl (lv_at hl 1 rfl) ?_
  refine lv_iload_n S.1 S.2.1 dX7_copyTree_7 rfl (lv_at hl 3 rfl) ?_
  refine fx_cVr (As := [.int 1]) (rest := []) S hG (k42_X7_treeAt (by omega) h0 h1) h0 rfl (cwV 1 S.2.2.2.2 gX7_copyTree_X7_treeAt rfl rfl rfl (by decide +kernel) ⟨Nat.le_of_ble_eq_true rfl, Nat.le_of_ble_eq_true rfl⟩) rfl hl.1 rfl (Nat.le_of_ble_eq_true rfl) dX7_copyTree_8 ⟨Nat.le_of_ble_eq_true rfl, Nat.le_of_ble_eq_true rfl⟩ (fun rv_2 _ H locs hp hG => ?_)
  subst rv_2
  refine lv_astore (lv' := [(4, .ref (N0 + 150)), (3, .ref (N0 + 150)), (0, .ref N0), (1, .int 1), (2, .int 1)]) S.1 S.2.1 dX7_copyTree_11 hl (by decide) rfl (fun ls hl => ?_)
  refine lv_aload S.1 S.2.1 dX7_copyTree_13 (lv_at hl 0 rfl) ?_
  refine lv_aload_n S.1 S.2.1 dX7_copyTree_15 rfl (lv_at hl 1 rfl) ?_
  refine fx_cVv (As := [.ref (N0 + 150)]) (rest := []) S hG (k495_X5_copyFrom (by omega) h2 h3 h4 h5 h6) h2 rfl (cwV 1 S.2.2.2.2 gX7_copyTree_X5_copyFrom rfl rfl rfl (by decide +kernel) ⟨Nat.le_of_ble_eq_true rfl, Nat.le_of_ble_eq_true rfl⟩) rfl hl.1 rfl (Nat.le_of_ble_eq_true rfl) dX7_copyTree_16 ⟨Nat.le_of_ble_eq_true rfl, Nat.le_of_ble_eq_true rfl⟩ (fun _ H locs hp hG => ?_)
  refine lv_aload S.1 S.2.1 dX7_copyTree_19 (lv_at hl 0 rfl) ?_
  refine gx_get (C := RX5) (T := TX5) (N := 7) S hG fu_s i_X7_copyTree_X5 rfl 6 (by decide) (by decide +kernel) rfl dX7_copyTree_21 ?_
  exact fx_iret S hr hlocks () hG (rfl) dX7_copyTree_24
theorem k497_L_copyTree {n : Nat} (hn : N0 + 231 ≤ n) (h0 : F N0 = some (.inr (9, [.ref (N0 + 1), .ref (N0 + 2), .ref (N0 + 11), .ref (N0 + 13), .ref (N0 + 63), .ref (N0 + 65), .ref (N0 + 85), .int (-1), .int (-1), .int 32]))) (h1 : F (N0 + 1) = some (.inl (cTr, 3, .inr (.inr (.inr (.inr (va_up (va_up (va_up (fun _ => none) 0 (some (N0 + 143))) 1 (some (N0 + 150))) 2 (some (N0 + 157))))))))) (h2 : F (N0 + 150) = some (.inr (7, [.ref (N0 + 151), .ref (N0 + 152), .ref (N0 + 153), .ref (N0 + 154), .ref (N0 + 155), .ref (N0 + 156), .int 1]))) (h3 : F (N0 + 151) = some (.inl (cC, 20, .inl (upd (fun _ => 0) 0 97)))) (h4 : F (N0 + 152) = some (.inl (cI, 20, .inl (fun _ => 0)))) (h5 : F (N0 + 153) = some (.inl (cI, 20, .inl (fun _ => 0)))) (h6 : F (N0 + 154) = some (.inl (cI, 20, .inl (upd (fun _ => 0) 0 (-1))))) (h7 : F (N0 + 229) = some (.inl (cL, 1, .inr (.inl (fun _ => 0))))) : Met l yL_copyTree wsL_copyTree ({ frames := 3, cells := 0, slots := 0, locals := 85 }) (va_Pc [.ref N0, .int 1, .int 1, .ref (N0 + 229)] (fP N0 D vwCl (fty cI cC cL cD cII cTr cTm cIt cB) (fen ql) F n)) (fQi N0 D vwCl (fty cI cC cL cD cII cTr cTm cIt cB) (fun (r : Int32) (_ : Unit) => r = 0) (fun _ => (fu (fu (fu (fu (fu (fu F (N0 + 151) (.inl (cC, 20, .inl (upd (fun _ => 0) 0 97)))) (N0 + 152) (.inl (cI, 20, .inl (fun _ => 0)))) (N0 + 153) (.inl (cI, 20, .inl (fun _ => 0)))) (N0 + 154) (.inl (cI, 20, .inl (upd (fun _ => 0) 0 (-1))))) (N0 + 150) (.inr (7, [.ref (N0 + 151), .ref (N0 + 152), .ref (N0 + 153), .ref (N0 + 154), .ref (N0 + 155), .ref (N0 + 156), .int 1]))) (N0 + 229) (.inl (cL, 1, .inr (.inl (vp_updL (fun _ => 0) 0 1)))))) (fun _ => n)) 0 0 (fA N0) := by
  refine fx_startW (hh := [(0, 10, 13, 19)]) 5 rfl rfl (Nat.le_of_ble_eq_true rfl) ?_ rfl
  intro p e s m below meth c ls S htab hr hlocks hG hl
  have hl : lv_has ls 5 [(0, .ref N0), (1, .int 1), (2, .int 1), (3, .ref (N0 + 229))] := hl
  have lt_h0 := hG.1.lt h0
  have lt_h1 := hG.1.lt h1
  have lt_h2 := hG.1.lt h2
  have lt_h3 := hG.1.lt h3
  have lt_h4 := hG.1.lt h4
  have lt_h5 := hG.1.lt h5
  have lt_h6 := hG.1.lt h6
  have lt_h7 := hG.1.lt h7
  refine lv_aload_n S.1 S.2.1 dL_copyTree_0 rfl (lv_at hl 3 rfl) ?_
  refine lv_iconst (v := 0) S.1 S.2.1 dL_copyTree_1 (by decide) ?_
  refine lv_aload_n S.1 S.2.1 dL_copyTree_2 rfl (lv_at hl 0 rfl) ?_
  refine lv_iload_n S.1 S.2.1 dL_copyTree_3 rfl (lv_at hl 1 rfl) ?_
  refine lv_iload_n S.1 S.2.1 dL_copyTree_4 rfl (lv_at hl 2 rfl) ?_
  refine fx_cVi (As := [.int 1, .int 1]) (rest := [.int 0, .ref (N0 + 229)]) S hG (k496_X7_copyTree (by omega) h0 h1 h2 h3 h4 h5 h6) h0 rfl (cwV 2 S.2.2.2.2 gL_copyTree_X7_copyTree rfl rfl rfl (by decide +kernel) ⟨Nat.le_of_ble_eq_true rfl, Nat.le_of_ble_eq_true rfl⟩) rfl hl.1 rfl (Nat.le_of_ble_eq_true rfl) dL_copyTree_5 ⟨Nat.le_of_ble_eq_true rfl, Nat.le_of_ble_eq_true rfl⟩ (fun rv_1 _ H locs hp hG => ?_)
  subst rv_1
  refine lv_i2l (v := 1) S.1 S.2.1 dL_copyTree_8 (by decide) ?_
  refine gx_last (f' := vp_updL (fun _ => 0) 0 1) S hG 2 (fu_at (by omega) (fu_at (by omega) (fu_at (by omega) (fu_at (by omega) (fu_at (by omega) h7))))) rfl (fin_l (by decide)) dL_copyTree_9 rfl (fun H locs hG => ?_)
  refine lv_goto (tgt := 17) S.1 S.2.1 dL_copyTree_10 (by decide) ?_
  refine lv_iconst (v := 0) S.1 S.2.1 dL_copyTree_17 (by decide) ?_
  exact fx_iret S hr hlocks () hG (rfl) dL_copyTree_18
theorem k498_X10_areNone {n : Nat} (hn : N0 + 231 ≤ n) (h0 : F (N0 + 164) = some (.inr (12, [.ref (N0 + 165), .int 0, .ref (N0 + 181), .int 0, .int 0, .int 0, .int (-1), .ref (ql 24), .ref (N0 + 182), .ref (N0 + 187), .ref (N0 + 208), .ref (N0 + 209), .ref (N0 + 210), .ref (N0 + 211), .ref (N0 + 212), .int 0, .ref (N0 + 213), .ref (N0 + 218), .ref (N0 + 223), .ref (N0 + 224), .ref (N0 + 225), .ref (N0 + 226), .ref (N0 + 227), .int 0, .int 0, .ref (N0 + 228), .null, .int (-1), .int 0, .int 0, .int 0]))) : Met l yX10_areNone wsX10_areNone ({ frames := 2, cells := 0, slots := 0, locals := 42 }) (va_Pc [.ref (N0 + 164), .int 1, .int 1] (fP N0 D vwCl (fty cI cC cL cD cII cTr cTm cIt cB) (fen ql) F n)) (fQi N0 D vwCl (fty cI cC cL cD cII cTr cTm cIt cB) (fun (r : Int32) (_ : Unit) => r = 0) (fun _ => (fu F (N0 + 164) (.inr (12, [.ref (N0 + 165), .int 0, .ref (N0 + 181), .int 0, .int 0, .int 0, .int (-1), .ref (ql 24), .ref (N0 + 182), .ref (N0 + 187), .ref (N0 + 208), .ref (N0 + 209), .ref (N0 + 210), .ref (N0 + 211), .ref (N0 + 212), .int 0, .ref (N0 + 213), .ref (N0 + 218), .ref (N0 + 223), .ref (N0 + 224), .ref (N0 + 225), .ref (N0 + 226), .ref (N0 + 227), .int 0, .int 0, .ref (N0 + 228), .null, .int (-1), .int 0, .int 0, .int 0])))) (fun _ => n)) 0 0 (fA N0) := by
  refine fx_start 3 rfl rfl (Nat.le_of_ble_eq_true rfl) ?_ rfl
  intro p e s m below meth c ls S hr hlocks hin hG hl
  have hl : lv_has ls 3 [(0, .ref (N0 + 164)), (1, .int 1), (2, .int 1)] := hl
  have lt_h0 := hG.1.lt h0
  refine lv_aload_n S.1 S.2.1 dX10_areNone_0 rfl (lv_at hl 0 rfl) ?_
  refine lv_iload_n S.1 S.2.1 dX10_areNone_1 rfl (lv_at hl 1 rfl) ?_
  refine fx_cSi (As := [.int 1]) (rest := [.ref (N0 + 164)]) S hG (k46_X10_isTree (by omega)) (cwS 1 S.2.2.2.2 gX10_areNone_X10_isTree rfl rfl rfl (by decide +kernel) ⟨Nat.le_of_ble_eq_true rfl, Nat.le_of_ble_eq_true rfl⟩) rfl hl.1 rfl (Nat.le_of_ble_eq_true rfl) dX10_areNone_2 ⟨Nat.le_of_ble_eq_true rfl, Nat.le_of_ble_eq_true rfl⟩ (fun rv_1 _ H locs hp hG => ?_)
  subst rv_1
  refine lv_if_eq (tgt := 19) S.1 S.2.1 dX10_areNone_5 (by decide) (fun c => absurd c (by decide)) (fun _ => ?_)
  refine lv_iload_n S.1 S.2.1 dX10_areNone_8 rfl (lv_at hl 2 rfl) ?_
  refine fx_cSi (As := [.int 1]) (rest := [.ref (N0 + 164)]) S hG (k46_X10_isTree (by omega)) (cwS 1 S.2.2.2.2 gX10_areNone_X10_isTree rfl rfl rfl (by decide +kernel) ⟨Nat.le_of_ble_eq_true rfl, Nat.le_of_ble_eq_true rfl⟩) rfl hl.1 rfl (Nat.le_of_ble_eq_true rfl) dX10_areNone_9 ⟨Nat.le_of_ble_eq_true rfl, Nat.le_of_ble_eq_true rfl⟩ (fun rv_2 _ H locs hp hG => ?_)
  subst rv_2
  refine lv_if_eq (tgt := 19) S.1 S.2.1 dX10_areNone_12 (by decide) (fun c => absurd c (by decide)) (fun _ => ?_)
  refine lv_iconst (v := 0) S.1 S.2.1 dX10_areNone_15 (by decide) ?_
  refine lv_goto (tgt := 20) S.1 S.2.1 dX10_areNone_16 (by decide) ?_
  refine gx_put (C := RX10) (T := TX10) (N := 31) (ty := .int) (v := .int 0) (fs' := [.ref (N0 + 165), .int 0, .ref (N0 + 181), .int 0, .int 0, .int 0, .int (-1), .ref (ql 24), .ref (N0 + 182), .ref (N0 + 187), .ref (N0 + 208), .ref (N0 + 209), .ref (N0 + 210), .ref (N0 + 211), .ref (N0 + 212), .int 0, .ref (N0 + 213), .ref (N0 + 218), .ref (N0 + 223), .ref (N0 + 224), .ref (N0 + 225), .ref (N0 + 226), .ref (N0 + 227), .int 0, .int 0, .ref (N0 + 228), .null, .int (-1), .int 0, .int 0, .int 0]) S hG h0 i_X10_areNone_X10 rfl 1 (by decide) tyX10 tyX10_ok nmX10 (by decide +kernel) rfl (by decide +kernel) rfl rfl (Nat.le_of_ble_eq_true rfl) rfl dX10_areNone_20 (fun H locs hG => ?_)
  refine lv_aload_n S.1 S.2.1 dX10_areNone_23 rfl (lv_at hl 0 rfl) ?_
  refine gx_get (C := RX10) (T := TX10) (N := 31) S hG fu_s i_X10_areNone_X10 rfl 1 (by decide) (by decide +kernel) rfl dX10_areNone_24 ?_
  refine lv_if_le (tgt := 34) S.1 S.2.1 dX10_areNone_27 (by decide) (fun _ => ?_) (fun c => absurd (by decide) c)
  refine lv_iconst (v := 0) S.1 S.2.1 dX10_areNone_34 (by decide) ?_
  exact fx_zret S hr (rfl) hlocks () hG (rfl) dX10_areNone_35
theorem k499_X9_copies {n : Nat} (hn : N0 + 231 ≤ n) (h0 : F (N0 + 171) = some (.inr (11, [.ref (N0 + 172), .ref (N0 + 173), .ref (N0 + 174), .ref (N0 + 175), .int 1]))) (h1 : F (N0 + 172) = some (.inl (cI, 20, .inl (upd (fun _ => 0) 0 97)))) (h2 : F (N0 + 173) = some (.inl (cI, 20, .inl (upd (fun _ => 0) 0 0)))) (h3 : F (N0 + 174) = some (.inl (cI, 20, .inl (upd (fun _ => 0) 0 0)))) (h4 : F (N0 + 175) = some (.inl (cI, 20, .inl (upd (fun _ => 0) 0 (-1))))) : Met l yX9_copies wsX9_copies ({ frames := 1, cells := 0, slots := 0, locals := 25 }) (va_Pc [.ref (N0 + 171), .ref (N0 + 171)] (fP N0 D vwCl (fty cI cC cL cD cII cTr cTm cIt cB) (fen ql) F n)) (fQv N0 D vwCl (fty cI cC cL cD cII cTr cTm cIt cB) (fun (_ : Unit) => True) (fun _ => (fu (fu (fu (fu (fu F (N0 + 171) (.inr (11, [.ref (N0 + 172), .ref (N0 + 173), .ref (N0 + 174), .ref (N0 + 175), .int 1]))) (N0 + 172) (.inl (cI, 20, .inl (upd (upd (fun _ => 0) 0 97) 0 97)))) (N0 + 173) (.inl (cI, 20, .inl (upd (upd (fun _ => 0) 0 0) 0 0)))) (N0 + 174) (.inl (cI, 20, .inl (upd (upd (fun _ => 0) 0 0) 0 0)))) (N0 + 175) (.inl (cI, 20, .inl (upd (upd (fun _ => 0) 0 (-1)) 0 (-1)))))) (fun _ => n)) 0 0 (fA N0) := by
  refine fx_start 3 rfl rfl (Nat.le_of_ble_eq_true rfl) ?_ rfl
  intro p e s m below meth c ls S hr hlocks hin hG hl
  have hl : lv_has ls 3 [(0, .ref (N0 + 171)), (1, .ref (N0 + 171))] := hl
  have lt_h0 := hG.1.lt h0
  have lt_h1 := hG.1.lt h1
  have lt_h2 := hG.1.lt h2
  have lt_h3 := hG.1.lt h3
  have lt_h4 := hG.1.lt h4
  refine lv_aload_n S.1 S.2.1 dX9_copies_0 rfl (lv_at hl 0 rfl) ?_
  refine lv_aload_n S.1 S.2.1 dX9_copies_1 rfl (lv_at hl 1 rfl) ?_
  refine gx_get (C := RX9) (T := TX9) (N := 5) S hG h0 i_X9_copies_X9 rfl 4 (by decide) (by decide +kernel) rfl dX9_copies_2 ?_
  refine gx_put (C := RX9) (T := TX9) (N := 5) (ty := .int) (v := .int 1) (fs' := [.ref (N0 + 172), .ref (N0 + 173), .ref (N0 + 174), .ref (N0 + 175), .int 1]) S hG h0 i_X9_copies_X9 rfl 4 (by decide) tyX9 tyX9_ok nmX9 (by decide +kernel) rfl (by decide +kernel) rfl rfl (Nat.le_of_ble_eq_true rfl) rfl dX9_copies_5 (fun H locs hG => ?_)
  refine lv_iconst (v := 0) S.1 S.2.1 dX9_copies_8 (by decide) ?_
  refine lv_istore_n (lv' := [(2, .int 0), (0, .ref (N0 + 171)), (1, .ref (N0 + 171))]) S.1 S.2.1 dX9_copies_9 rfl hl (by decide) rfl (fun ls hl => ?_)
  refine lv_iload_n S.1 S.2.1 dX9_copies_10 rfl (lv_at hl 0 rfl) ?_
  refine lv_aload_n S.1 S.2.1 dX9_copies_11 rfl (lv_at hl 1 rfl) ?_
  refine gx_get (C := RX9) (T := TX9) (N := 5) S hG fu_s i_X9_copies_X9 rfl 4 (by decide) (by decide +kernel) rfl dX9_copies_12 ?_
  refine lv_icmp_ge (tgt := 53) S.1 S.2.1 dX9_copies_15 (by decide) (fun c => absurd c (by decide)) (fun _ => ?_)
  refine lv_aload_n S.1 S.2.1 dX9_copies_18 rfl (lv_at hl 1 rfl) ?_
  refine lv_iload_n S.1 S.2.1 dX9_copies_19 rfl (lv_at hl 0 rfl) ?_
  refine lv_aload_n S.1 S.2.1 dX9_copies_20 rfl (lv_at hl 2 rfl) ?_
  refine gx_get (C := RX9) (T := TX9) (N := 5) S hG fu_s i_X9_copies_X9 rfl 0 (by decide) (by decide +kernel) rfl dX9_copies_21 ?_
  refine lv_iload_n S.1 S.2.1 dX9_copies_24 rfl (lv_at hl 0 rfl) ?_
  refine gx_iald (v := 97) S hG 0 (fu_at (by omega) h1) rfl (fin_l (by decide)) (by decide) dX9_copies_25 ?_
  refine lv_aload_n S.1 S.2.1 dX9_copies_26 rfl (lv_at hl 2 rfl) ?_
  refine gx_get (C := RX9) (T := TX9) (N := 5) S hG fu_s i_X9_copies_X9 rfl 1 (by decide) (by decide +kernel) rfl dX9_copies_27 ?_
  refine lv_iload_n S.1 S.2.1 dX9_copies_30 rfl (lv_at hl 0 rfl) ?_
  refine gx_iald (v := 0) S hG 0 (fu_at (by omega) h2) rfl (fin_l (by decide)) (by decide) dX9_copies_31 ?_
  refine lv_aload_n S.1 S.2.1 dX9_copies_32 rfl (lv_at hl 2 rfl) ?_
  refine gx_get (C := RX9) (T := TX9) (N := 5) S hG fu_s i_X9_copies_X9 rfl 2 (by decide) (by decide +kernel) rfl dX9_copies_33 ?_
  refine lv_iload_n S.1 S.2.1 dX9_copies_36 rfl (lv_at hl 0 rfl) ?_
  refine gx_iald (v := 0) S hG 0 (fu_at (by omega) h3) rfl (fin_l (by decide)) (by decide) dX9_copies_37 ?_
  refine lv_aload_n S.1 S.2.1 dX9_copies_38 rfl (lv_at hl 2 rfl) ?_
  refine gx_get (C := RX9) (T := TX9) (N := 5) S hG fu_s i_X9_copies_X9 rfl 3 (by decide) (by decide +kernel) rfl dX9_copies_39 ?_
  refine lv_iload_n S.1 S.2.1 dX9_copies_42 rfl (lv_at hl 0 rfl) ?_
  refine gx_iald (v := (-1)) S hG 0 (fu_at (by omega) h4) rfl (fin_l (by decide)) (by decide) dX9_copies_43 ?_
  refine fx_cVv (As := [.int 0, .int 97, .int 0, .int 0, .int (-1)]) (rest := []) S hG (k468_X9_sets (by omega) fu_s (fu_at (by omega) h1) (fu_at (by omega) h2) (fu_at (by omega) h3) (fu_at (by omega) h4)) fu_s rfl (cwV 5 S.2.2.2.2 gX9_copies_X9_sets rfl rfl rfl (by decide +kernel) ⟨Nat.le_of_ble_eq_true rfl, Nat.le_of_ble_eq_true rfl⟩) rfl hl.1 rfl (Nat.le_of_ble_eq_true rfl) dX9_copies_44 ⟨Nat.le_of_ble_eq_true rfl, Nat.le_of_ble_eq_true rfl⟩ (fun _ H locs hp hG => ?_)
  refine lv_iinc (v := 1) (lv' := [(2, .int 1), (0, .ref (N0 + 171)), (1, .ref (N0 + 171))]) S.1 S.2.1 dX9_copies_47 hl (k := 0) rfl (by decide) (by decide) rfl (fun ls hl => ?_)
  refine lv_goto (tgt := 10) S.1 S.2.1 dX9_copies_50 (by decide) ?_
  refine lv_iload_n S.1 S.2.1 dX9_copies_10 rfl (lv_at hl 0 rfl) ?_
  refine lv_aload_n S.1 S.2.1 dX9_copies_11 rfl (lv_at hl 1 rfl) ?_
  refine gx_get (C := RX9) (T := TX9) (N := 5) S hG (fu_at (by omega) (fu_at (by omega) (fu_at (by omega) (fu_at (by omega) fu_s)))) i_X9_copies_X9 rfl 4 (by decide) (by decide +kernel) rfl dX9_copies_12 ?_
  refine lv_icmp_ge (tgt := 53) S.1 S.2.1 dX9_copies_15 (by decide) (fun _ => ?_) (fun c => absurd (by decide) c)
  exact fx_vret S hr hlocks () hG trivial dX9_copies_53
theorem k500_X10_copyTree {n : Nat} (hn : N0 + 231 ≤ n) (h0 : F (N0 + 164) = some (.inr (12, [.ref (N0 + 165), .int 0, .ref (N0 + 181), .int 0, .int 0, .int 0, .int (-1), .ref (ql 24), .ref (N0 + 182), .ref (N0 + 187), .ref (N0 + 208), .ref (N0 + 209), .ref (N0 + 210), .ref (N0 + 211), .ref (N0 + 212), .int 0, .ref (N0 + 213), .ref (N0 + 218), .ref (N0 + 223), .ref (N0 + 224), .ref (N0 + 225), .ref (N0 + 226), .ref (N0 + 227), .int 0, .int 0, .ref (N0 + 228), .null, .int (-1), .int 0, .int 0, .int 0]))) (h1 : F (N0 + 165) = some (.inl (cTm, 3, .inr (.inr (.inr (.inr (va_up (va_up (va_up (fun _ => none) 0 (some (N0 + 166))) 1 (some (N0 + 171))) 2 (some (N0 + 176))))))))) (h2 : F (N0 + 171) = some (.inr (11, [.ref (N0 + 172), .ref (N0 + 173), .ref (N0 + 174), .ref (N0 + 175), .int 1]))) (h3 : F (N0 + 172) = some (.inl (cI, 20, .inl (upd (fun _ => 0) 0 97)))) (h4 : F (N0 + 173) = some (.inl (cI, 20, .inl (upd (fun _ => 0) 0 0)))) (h5 : F (N0 + 174) = some (.inl (cI, 20, .inl (upd (fun _ => 0) 0 0)))) (h6 : F (N0 + 175) = some (.inl (cI, 20, .inl (upd (fun _ => 0) 0 (-1))))) : Met l yX10_copyTree wsX10_copyTree ({ frames := 3, cells := 0, slots := 0, locals := 64 }) (va_Pc [.ref (N0 + 164), .int 1, .int 1] (fP N0 D vwCl (fty cI cC cL cD cII cTr cTm cIt cB) (fen ql) F n)) (fQi N0 D vwCl (fty cI cC cL cD cII cTr cTm cIt cB) (fun (r : Int32) (_ : Unit) => r = 1) (fun _ => (fu (fu (fu (fu (fu (fu F (N0 + 164) (.inr (12, [.ref (N0 + 165), .int 0, .ref (N0 + 181), .int 0, .int 0, .int 0, .int (-1), .ref (ql 24), .ref (N0 + 182), .ref (N0 + 187), .ref (N0 + 208), .ref (N0 + 209), .ref (N0 + 210), .ref (N0 + 211), .ref (N0 + 212), .int 0, .ref (N0 + 213), .ref (N0 + 218), .ref (N0 + 223), .ref (N0 + 224), .ref (N0 + 225), .ref (N0 + 226), .ref (N0 + 227), .int 0, .int 0, .ref (N0 + 228), .null, .int (-1), .int 0, .int 0, .int 0]))) (N0 + 171) (.inr (11, [.ref (N0 + 172), .ref (N0 + 173), .ref (N0 + 174), .ref (N0 + 175), .int 1]))) (N0 + 172) (.inl (cI, 20, .inl (upd (upd (fun _ => 0) 0 97) 0 97)))) (N0 + 173) (.inl (cI, 20, .inl (upd (upd (fun _ => 0) 0 0) 0 0)))) (N0 + 174) (.inl (cI, 20, .inl (upd (upd (fun _ => 0) 0 0) 0 0)))) (N0 + 175) (.inl (cI, 20, .inl (upd (upd (fun _ => 0) 0 (-1)) 0 (-1)))))) (fun _ => n)) 0 0 (fA N0) := by
  refine fx_start 3 rfl rfl (Nat.le_of_ble_eq_true rfl) ?_ rfl
  intro p e s m below meth c ls S hr hlocks hin hG hl
  have hl : lv_has ls 3 [(0, .ref (N0 + 164)), (1, .int 1), (2, .int 1)] := hl
  have lt_h0 := hG.1.lt h0
  have lt_h1 := hG.1.lt h1
  have lt_h2 := hG.1.lt h2
  have lt_h3 := hG.1.lt h3
  have lt_h4 := hG.1.lt h4
  have lt_h5 := hG.1.lt h5
  have lt_h6 := hG.1.lt h6
  refine lv_aload_n S.1 S.2.1 dX10_copyTree_0 rfl (lv_at hl 0 rfl) ?_
  refine lv_iload_n S.1 S.2.1 dX10_copyTree_1 rfl (lv_at hl 1 rfl) ?_
  refine lv_iload_n S.1 S.2.1 dX10_copyTree_2 rfl (lv_at hl 2 rfl) ?_
  refine fx_cVi (As := [.int 1, .int 1]) (rest := []) S hG (k498_X10_areNone (by omega) h0) h0 rfl (cwV 2 S.2.2.2.2 gX10_copyTree_X10_areNone rfl rfl rfl (by decide +kernel) ⟨Nat.le_of_ble_eq_true rfl, Nat.le_of_ble_eq_true rfl⟩) rfl hl.1 rfl (Nat.le_of_ble_eq_true rfl) dX10_copyTree_3 ⟨Nat.le_of_ble_eq_true rfl, Nat.le_of_ble_eq_true rfl⟩ (fun rv_1 _ H locs hp hG => ?_)
  subst rv_1
  refine lv_if_eq (tgt := 11) S.1 S.2.1 dX10_copyTree_6 (by decide) (fun _ => ?_) (fun c => absurd (by decide) c)
  refine lv_aload_n S.1 S.2.1 dX10_copyTree_11 rfl (lv_at hl 0 rfl) ?_
  refine gx_get (C := RX10) (T := TX10) (N := 31) S hG fu_s i_X10_copyTree_X10 rfl 0 (by decide) (by decide +kernel) rfl dX10_copyTree_12 ?_
  refine lv_iload_n S.1 S.2.1 dX10_copyTree_15 rfl (lv_at hl 2 rfl) ?_
  refine gx_aldq (x := (N0 + 171)) S hG 6 rfl (fu_at (by omega) h1) rfl (fin_l (by decide)) (rfl) dX10_copyTree_16 ?_
  refine lv_aload_n S.1 S.2.1 dX10_copyTree_17 rfl (lv_at hl 0 rfl) ?_
  refine gx_get (C := RX10) (T := TX10) (N := 31) S hG fu_s i_X10_copyTree_X10 rfl 0 (by decide) (by decide +kernel) rfl dX10_copyTree_18 ?_
  refine lv_iload_n S.1 S.2.1 dX10_copyTree_21 rfl (lv_at hl 1 rfl) ?_
  refine gx_aldq (x := (N0 + 171)) S hG 6 rfl (fu_at (by omega) h1) rfl (fin_l (by decide)) (rfl) dX10_copyTree_22 ?_
  refine fx_cVNv (host := "TreeDifferModel") (As := [.ref (N0 + 171)]) (rest := []) S hG (k499_X9_copies (by omega) (fu_at (by omega) h2) (fu_at (by omega) h3) (fu_at (by omega) h4) (fu_at (by omega) h5) (fu_at (by omega) h6)) (fu_at (by omega) h2) rfl ⟨(va_cnB 1 S.2.2.2.2 gX10_copyTree_X9_copies_n157 rfl rfl rfl (hG.nest (show _ ∈ fen2.2.2.1 from by decide)) (S.2.2.2.2 (.initialized RX9) (by decide +kernel)) (by decide +kernel) ⟨Nat.le_of_ble_eq_true rfl, Nat.le_of_ble_eq_true rfl⟩), S.2.2.2.2 (.instanceMethod yX9_copies) (by decide +kernel), S.2.2.2.2 (.selects RX9 yX9_copies yX9_copies) (by decide +kernel)⟩ rfl hl.1 rfl (Nat.le_of_ble_eq_true rfl) dX10_copyTree_23 ⟨Nat.le_of_ble_eq_true rfl, Nat.le_of_ble_eq_true rfl⟩ (fun _ H locs hp hG => ?_)
  refine lv_aload_n S.1 S.2.1 dX10_copyTree_26 rfl (lv_at hl 0 rfl) ?_
  refine gx_get (C := RX10) (T := TX10) (N := 31) S hG (fu_at (by omega) (fu_at (by omega) (fu_at (by omega) (fu_at (by omega) (fu_at (by omega) fu_s))))) i_X10_copyTree_X10 rfl 0 (by decide) (by decide +kernel) rfl dX10_copyTree_27 ?_
  refine lv_iload_n S.1 S.2.1 dX10_copyTree_30 rfl (lv_at hl 1 rfl) ?_
  refine gx_aldq (x := (N0 + 171)) S hG 6 rfl (fu_at (by omega) (fu_at (by omega) (fu_at (by omega) (fu_at (by omega) (fu_at (by omega) (fu_at (by omega) h1)))))) rfl (fin_l (by decide)) (rfl) dX10_copyTree_31 ?_
  refine gx_getN (C := RX9) (T := TX9) (N := 5) S hG (fu_at (by omega) (fu_at (by omega) (fu_at (by omega) (fu_at (by omega) fu_s)))) i_X10_copyTree_X9 rfl 4 (by decide) (List.mem_of_getElem? (i := 4) rfl) rfl dX10_copyTree_32 ?_
  exact fx_iret S hr hlocks () hG (rfl) dX10_copyTree_35
theorem k501_X5_copyFrom {n : Nat} (hn : N0 + 231 ≤ n) (h0 : F (N0 + 150) = some (.inr (7, [.ref (N0 + 151), .ref (N0 + 152), .ref (N0 + 153), .ref (N0 + 154), .ref (N0 + 155), .ref (N0 + 156), .int 1]))) (h1 : F (N0 + 157) = some (.inr (7, [.ref (N0 + 158), .ref (N0 + 159), .ref (N0 + 160), .ref (N0 + 161), .ref (N0 + 162), .ref (N0 + 163), .int 1]))) (h2 : F (N0 + 151) = some (.inl (cC, 20, .inl (upd (fun _ => 0) 0 97)))) (h3 : F (N0 + 158) = some (.inl (cC, 20, .inl (upd (fun _ => 0) 0 97)))) (h4 : F (N0 + 152) = some (.inl (cI, 20, .inl (fun _ => 0)))) (h5 : F (N0 + 159) = some (.inl (cI, 20, .inl (fun _ => 0)))) (h6 : F (N0 + 153) = some (.inl (cI, 20, .inl (fun _ => 0)))) (h7 : F (N0 + 160) = some (.inl (cI, 20, .inl (fun _ => 0)))) (h8 : F (N0 + 154) = some (.inl (cI, 20, .inl (upd (fun _ => 0) 0 (-1))))) (h9 : F (N0 + 161) = some (.inl (cI, 20, .inl (upd (fun _ => 0) 0 (-1))))) : Met l yX5_copyFrom wsX5_copyFrom ({ frames := 1, cells := 0, slots := 0, locals := 40 }) (va_Pc [.ref (N0 + 157), .ref (N0 + 150)] (fP N0 D vwCl (fty cI cC cL cD cII cTr cTm cIt cB) (fen ql) F n)) (fQv N0 D vwCl (fty cI cC cL cD cII cTr cTm cIt cB) (fun (_ : Unit) => True) (fun _ => (fu (fu (fu (fu (fu F (N0 + 158) (.inl (cC, 20, .inl (upd (fun _ => 0) 0 97)))) (N0 + 159) (.inl (cI, 20, .inl (fun _ => 0)))) (N0 + 160) (.inl (cI, 20, .inl (fun _ => 0)))) (N0 + 161) (.inl (cI, 20, .inl (upd (fun _ => 0) 0 (-1))))) (N0 + 157) (.inr (7, [.ref (N0 + 158), .ref (N0 + 159), .ref (N0 + 160), .ref (N0 + 161), .ref (N0 + 162), .ref (N0 + 163), .int 1])))) (fun _ => n)) 0 0 (fA N0) := by
  refine fx_start 2 rfl rfl (Nat.le_of_ble_eq_true rfl) ?_ rfl
  intro p e s m below meth c ls S hr hlocks hin hG hl
  have hl : lv_has ls 2 [(0, .ref (N0 + 157)), (1, .ref (N0 + 150))] := hl
  have lt_h0 := hG.1.lt h0
  have lt_h1 := hG.1.lt h1
  have lt_h2 := hG.1.lt h2
  have lt_h3 := hG.1.lt h3
  have lt_h4 := hG.1.lt h4
  have lt_h5 := hG.1.lt h5
  have lt_h6 := hG.1.lt h6
  have lt_h7 := hG.1.lt h7
  have lt_h8 := hG.1.lt h8
  have lt_h9 := hG.1.lt h9
  refine lv_aload_n S.1 S.2.1 dX5_copyFrom_0 rfl (lv_at hl 1 rfl) ?_
  refine gx_get (C := RX5) (T := TX5) (N := 7) S hG h0 i_X5_copyFrom_X5 rfl 0 (by decide) (by decide +kernel) rfl dX5_copyFrom_1 ?_
  refine lv_iconst (v := 0) S.1 S.2.1 dX5_copyFrom_4 (by decide) ?_
  refine lv_aload_n S.1 S.2.1 dX5_copyFrom_5 rfl (lv_at hl 0 rfl) ?_
  refine gx_get (C := RX5) (T := TX5) (N := 7) S hG h1 i_X5_copyFrom_X5 rfl 0 (by decide) (by decide +kernel) rfl dX5_copyFrom_6 ?_
  refine lv_iconst (v := 0) S.1 S.2.1 dX5_copyFrom_9 (by decide) ?_
  refine lv_bipush (v := 20) S.1 S.2.1 dX5_copyFrom_10 (by decide) ?_
  refine gx_copyi (f' := upd (fun _ => 0) 0 97) S hG hl.1 (by decide +kernel) (by decide +kernel) (by decide +kernel) (by decide +kernel) 1 h2 h3 rfl rfl (by decide) (by decide) (by decide) (by decide) (by decide) (fun i _ => (ffitU ffit0 (by decide)) _) (Nat.le_of_ble_eq_true rfl) (Nat.le_of_ble_eq_true rfl) dX5_copyFrom_12 fcpy_same (fun H locs hG => ?_)
  refine lv_aload_n S.1 S.2.1 dX5_copyFrom_15 rfl (lv_at hl 1 rfl) ?_
  refine gx_get (C := RX5) (T := TX5) (N := 7) S hG (fu_at (by omega) h0) i_X5_copyFrom_X5 rfl 1 (by decide) (by decide +kernel) rfl dX5_copyFrom_16 ?_
  refine lv_iconst (v := 0) S.1 S.2.1 dX5_copyFrom_19 (by decide) ?_
  refine lv_aload_n S.1 S.2.1 dX5_copyFrom_20 rfl (lv_at hl 0 rfl) ?_
  refine gx_get (C := RX5) (T := TX5) (N := 7) S hG (fu_at (by omega) h1) i_X5_copyFrom_X5 rfl 1 (by decide) (by decide +kernel) rfl dX5_copyFrom_21 ?_
  refine lv_iconst (v := 0) S.1 S.2.1 dX5_copyFrom_24 (by decide) ?_
  refine lv_bipush (v := 20) S.1 S.2.1 dX5_copyFrom_25 (by decide) ?_
  refine gx_copyi (f' := fun _ => 0) S hG hl.1 (by decide +kernel) (by decide +kernel) (by decide +kernel) (by decide +kernel) 0 (fu_at (by omega) h4) (fu_at (by omega) h5) rfl rfl (by decide) (by decide) (by decide) (by decide) (by decide) (fun i _ => rfl) (Nat.le_of_ble_eq_true rfl) (Nat.le_of_ble_eq_true rfl) dX5_copyFrom_27 fcpy_same (fun H locs hG => ?_)
  refine lv_aload_n S.1 S.2.1 dX5_copyFrom_30 rfl (lv_at hl 1 rfl) ?_
  refine gx_get (C := RX5) (T := TX5) (N := 7) S hG (fu_at (by omega) (fu_at (by omega) h0)) i_X5_copyFrom_X5 rfl 2 (by decide) (by decide +kernel) rfl dX5_copyFrom_31 ?_
  refine lv_iconst (v := 0) S.1 S.2.1 dX5_copyFrom_34 (by decide) ?_
  refine lv_aload_n S.1 S.2.1 dX5_copyFrom_35 rfl (lv_at hl 0 rfl) ?_
  refine gx_get (C := RX5) (T := TX5) (N := 7) S hG (fu_at (by omega) (fu_at (by omega) h1)) i_X5_copyFrom_X5 rfl 2 (by decide) (by decide +kernel) rfl dX5_copyFrom_36 ?_
  refine lv_iconst (v := 0) S.1 S.2.1 dX5_copyFrom_39 (by decide) ?_
  refine lv_bipush (v := 20) S.1 S.2.1 dX5_copyFrom_40 (by decide) ?_
  refine gx_copyi (f' := fun _ => 0) S hG hl.1 (by decide +kernel) (by decide +kernel) (by decide +kernel) (by decide +kernel) 0 (fu_at (by omega) (fu_at (by omega) h6)) (fu_at (by omega) (fu_at (by omega) h7)) rfl rfl (by decide) (by decide) (by decide) (by decide) (by decide) (fun i _ => rfl) (Nat.le_of_ble_eq_true rfl) (Nat.le_of_ble_eq_true rfl) dX5_copyFrom_42 fcpy_same (fun H locs hG => ?_)
  refine lv_aload_n S.1 S.2.1 dX5_copyFrom_45 rfl (lv_at hl 1 rfl) ?_
  refine gx_get (C := RX5) (T := TX5) (N := 7) S hG (fu_at (by omega) (fu_at (by omega) (fu_at (by omega) h0))) i_X5_copyFrom_X5 rfl 3 (by decide) (by decide +kernel) rfl dX5_copyFrom_46 ?_
  refine lv_iconst (v := 0) S.1 S.2.1 dX5_copyFrom_49 (by decide) ?_
  refine lv_aload_n S.1 S.2.1 dX5_copyFrom_50 rfl (lv_at hl 0 rfl) ?_
  refine gx_get (C := RX5) (T := TX5) (N := 7) S hG (fu_at (by omega) (fu_at (by omega) (fu_at (by omega) h1))) i_X5_copyFrom_X5 rfl 3 (by decide) (by decide +kernel) rfl dX5_copyFrom_51 ?_
  refine lv_iconst (v := 0) S.1 S.2.1 dX5_copyFrom_54 (by decide) ?_
  refine lv_bipush (v := 20) S.1 S.2.1 dX5_copyFrom_55 (by decide) ?_
  refine gx_copyi (f' := upd (fun _ => 0) 0 (-1)) S hG hl.1 (by decide +kernel) (by decide +kernel) (by decide +kernel) (by decide +kernel) 0 (fu_at (by omega) (fu_at (by omega) (fu_at (by omega) h8))) (fu_at (by omega) (fu_at (by omega) (fu_at (by omega) h9))) rfl rfl (by decide) (by decide) (by decide) (by decide) (by decide) (fun i _ => rfl) (Nat.le_of_ble_eq_true rfl) (Nat.le_of_ble_eq_true rfl) dX5_copyFrom_57 fcpy_same (fun H locs hG => ?_)
  refine lv_aload_n S.1 S.2.1 dX5_copyFrom_60 rfl (lv_at hl 0 rfl) ?_
  refine lv_aload_n S.1 S.2.1 dX5_copyFrom_61 rfl (lv_at hl 1 rfl) ?_
  refine gx_get (C := RX5) (T := TX5) (N := 7) S hG (fu_at (by omega) (fu_at (by omega) (fu_at (by omega) (fu_at (by omega) h0)))) i_X5_copyFrom_X5 rfl 6 (by decide) (by decide +kernel) rfl dX5_copyFrom_62 ?_
  refine gx_put (C := RX5) (T := TX5) (N := 7) (ty := .int) (v := .int 1) (fs' := [.ref (N0 + 158), .ref (N0 + 159), .ref (N0 + 160), .ref (N0 + 161), .ref (N0 + 162), .ref (N0 + 163), .int 1]) S hG (fu_at (by omega) (fu_at (by omega) (fu_at (by omega) (fu_at (by omega) h1)))) i_X5_copyFrom_X5 rfl 6 (by decide) tyX5 tyX5_ok nmX5 (by decide +kernel) rfl (by decide +kernel) rfl rfl (Nat.le_of_ble_eq_true rfl) rfl dX5_copyFrom_65 (fun H locs hG => ?_)
  exact fx_vret S hr hlocks () hG trivial dX5_copyFrom_68
theorem k502_X7_copyTree {n : Nat} (hn : N0 + 231 ≤ n) (h0 : F N0 = some (.inr (9, [.ref (N0 + 1), .ref (N0 + 2), .ref (N0 + 11), .ref (N0 + 13), .ref (N0 + 63), .ref (N0 + 65), .ref (N0 + 85), .int (-1), .int (-1), .int 32]))) (h1 : F (N0 + 1) = some (.inl (cTr, 3, .inr (.inr (.inr (.inr (va_up (va_up (va_up (fun _ => none) 0 (some (N0 + 143))) 1 (some (N0 + 150))) 2 (some (N0 + 157))))))))) (h2 : F (N0 + 150) = some (.inr (7, [.ref (N0 + 151), .ref (N0 + 152), .ref (N0 + 153), .ref (N0 + 154), .ref (N0 + 155), .ref (N0 + 156), .int 1]))) (h3 : F (N0 + 157) = some (.inr (7, [.ref (N0 + 158), .ref (N0 + 159), .ref (N0 + 160), .ref (N0 + 161), .ref (N0 + 162), .ref (N0 + 163), .int 1]))) (h4 : F (N0 + 151) = some (.inl (cC, 20, .inl (upd (fun _ => 0) 0 97)))) (h5 : F (N0 + 158) = some (.inl (cC, 20, .inl (upd (fun _ => 0) 0 97)))) (h6 : F (N0 + 152) = some (.inl (cI, 20, .inl (fun _ => 0)))) (h7 : F (N0 + 159) = some (.inl (cI, 20, .inl (fun _ => 0)))) (h8 : F (N0 + 153) = some (.inl (cI, 20, .inl (fun _ => 0)))) (h9 : F (N0 + 160) = some (.inl (cI, 20, .inl (fun _ => 0)))) (h10 : F (N0 + 154) = some (.inl (cI, 20, .inl (upd (fun _ => 0) 0 (-1))))) (h11 : F (N0 + 161) = some (.inl (cI, 20, .inl (upd (fun _ => 0) 0 (-1))))) : Met l yX7_copyTree wsX7_copyTree ({ frames := 2, cells := 0, slots := 0, locals := 61 }) (va_Pc [.ref N0, .int 1, .int 2] (fP N0 D vwCl (fty cI cC cL cD cII cTr cTm cIt cB) (fen ql) F n)) (fQi N0 D vwCl (fty cI cC cL cD cII cTr cTm cIt cB) (fun (r : Int32) (_ : Unit) => r = 1) (fun _ => (fu (fu (fu (fu (fu F (N0 + 158) (.inl (cC, 20, .inl (upd (fun _ => 0) 0 97)))) (N0 + 159) (.inl (cI, 20, .inl (fun _ => 0)))) (N0 + 160) (.inl (cI, 20, .inl (fun _ => 0)))) (N0 + 161) (.inl (cI, 20, .inl (upd (fun _ => 0) 0 (-1))))) (N0 + 157) (.inr (7, [.ref (N0 + 158), .ref (N0 + 159), .ref (N0 + 160), .ref (N0 + 161), .ref (N0 + 162), .ref (N0 + 163), .int 1])))) (fun _ => n)) 0 0 (fA N0) := by
  refine fx_start 5 rfl rfl (Nat.le_of_ble_eq_true rfl) ?_ rfl
  intro p e s m below meth c ls S hr hlocks hin hG hl
  have hl : lv_has ls 5 [(0, .ref N0), (1, .int 1), (2, .int 2)] := hl
  have lt_h0 := hG.1.lt h0
  have lt_h1 := hG.1.lt h1
  have lt_h2 := hG.1.lt h2
  have lt_h3 := hG.1.lt h3
  have lt_h4 := hG.1.lt h4
  have lt_h5 := hG.1.lt h5
  have lt_h6 := hG.1.lt h6
  have lt_h7 := hG.1.lt h7
  have lt_h8 := hG.1.lt h8
  have lt_h9 := hG.1.lt h9
  have lt_h10 := hG.1.lt h10
  have lt_h11 := hG.1.lt h11
  refine lv_aload_n S.1 S.2.1 dX7_copyTree_0 rfl (lv_at hl 0 rfl) ?_
  refine lv_iload_n S.1 S.2.1 dX7_copyTree_1 rfl (lv_at hl 1 rfl) ?_
  refine fx_cVr (As := [.int 1]) (rest := []) S hG (k42_X7_treeAt (by omega) h0 h1) h0 rfl (cwV 1 S.2.2.2.2 gX7_copyTree_X7_treeAt rfl rfl rfl (by decide +kernel) ⟨Nat.le_of_ble_eq_true rfl, Nat.le_of_ble_eq_true rfl⟩) rfl hl.1 rfl (Nat.le_of_ble_eq_true rfl) dX7_copyTree_2 ⟨Nat.le_of_ble_eq_true rfl, Nat.le_of_ble_eq_true rfl⟩ (fun rv_1 _ H locs hp hG => ?_)
  subst rv_1
  refine lv_astore_n (lv' := [(3, .ref (N0 + 150)), (0, .ref N0), (1, .int 1), (2, .int 2)]) S.1 S.2.1 dX7_copyTree_5 rfl hl (by decide) rfl (fun ls hl => ?_)
  refine lv_aload_n S.1 S.2.1 dX7_copyTree_6 rfl (lv_at hl 1 rfl) ?_
  refine lv_iload_n S.1 S.2.1 dX7_copyTree_7 rfl (lv_at hl 3 rfl) ?_
  refine fx_cVr (As := [.int 2]) (rest := []) S hG (k48_X7_treeAt (by omega) h0 h1) h0 rfl (cwV 1 S.2.2.2.2 gX7_copyTree_X7_treeAt rfl rfl rfl (by decide +kernel) ⟨Nat.le_of_ble_eq_true rfl, Nat.le_of_ble_eq_true rfl⟩) rfl hl.1 rfl (Nat.le_of_ble_eq_true rfl) dX7_copyTree_8 ⟨Nat.le_of_ble_eq_true rfl, Nat.le_of_ble_eq_true rfl⟩ (fun rv_2 _ H locs hp hG => ?_)
  subst rv_2
  refine lv_astore (lv' := [(4, .ref (N0 + 157)), (3, .ref (N0 + 150)), (0, .ref N0), (1, .int 1), (2, .int 2)]) S.1 S.2.1 dX7_copyTree_11 hl (by decide) rfl (fun ls hl => ?_)
  refine lv_aload S.1 S.2.1 dX7_copyTree_13 (lv_at hl 0 rfl) ?_
  refine lv_aload_n S.1 S.2.1 dX7_copyTree_15 rfl (lv_at hl 1 rfl) ?_
  refine fx_cVv (As := [.ref (N0 + 150)]) (rest := []) S hG (k501_X5_copyFrom (by omega) h2 h3 h4 h5 h6 h7 h8 h9 h10 h11) h3 rfl (cwV 1 S.2.2.2.2 gX7_copyTree_X5_copyFrom rfl rfl rfl (by decide +kernel) ⟨Nat.le_of_ble_eq_true rfl, Nat.le_of_ble_eq_true rfl⟩) rfl hl.1 rfl (Nat.le_of_ble_eq_true rfl) dX7_copyTree_16 ⟨Nat.le_of_ble_eq_true rfl, Nat.le_of_ble_eq_true rfl⟩ (fun _ H locs hp hG => ?_)
  refine lv_aload S.1 S.2.1 dX7_copyTree_19 (lv_at hl 0 rfl) ?_
  refine gx_get (C := RX5) (T := TX5) (N := 7) S hG fu_s i_X7_copyTree_X5 rfl 6 (by decide) (by decide +kernel) rfl dX7_copyTree_21 ?_
  exact fx_iret S hr hlocks () hG (rfl) dX7_copyTree_24
theorem k503_L_copyTree {n : Nat} (hn : N0 + 231 ≤ n) (h0 : F N0 = some (.inr (9, [.ref (N0 + 1), .ref (N0 + 2), .ref (N0 + 11), .ref (N0 + 13), .ref (N0 + 63), .ref (N0 + 65), .ref (N0 + 85), .int (-1), .int (-1), .int 32]))) (h1 : F (N0 + 1) = some (.inl (cTr, 3, .inr (.inr (.inr (.inr (va_up (va_up (va_up (fun _ => none) 0 (some (N0 + 143))) 1 (some (N0 + 150))) 2 (some (N0 + 157))))))))) (h2 : F (N0 + 150) = some (.inr (7, [.ref (N0 + 151), .ref (N0 + 152), .ref (N0 + 153), .ref (N0 + 154), .ref (N0 + 155), .ref (N0 + 156), .int 1]))) (h3 : F (N0 + 157) = some (.inr (7, [.ref (N0 + 158), .ref (N0 + 159), .ref (N0 + 160), .ref (N0 + 161), .ref (N0 + 162), .ref (N0 + 163), .int 1]))) (h4 : F (N0 + 151) = some (.inl (cC, 20, .inl (upd (fun _ => 0) 0 97)))) (h5 : F (N0 + 158) = some (.inl (cC, 20, .inl (upd (fun _ => 0) 0 97)))) (h6 : F (N0 + 152) = some (.inl (cI, 20, .inl (fun _ => 0)))) (h7 : F (N0 + 159) = some (.inl (cI, 20, .inl (fun _ => 0)))) (h8 : F (N0 + 153) = some (.inl (cI, 20, .inl (fun _ => 0)))) (h9 : F (N0 + 160) = some (.inl (cI, 20, .inl (fun _ => 0)))) (h10 : F (N0 + 154) = some (.inl (cI, 20, .inl (upd (fun _ => 0) 0 (-1))))) (h11 : F (N0 + 161) = some (.inl (cI, 20, .inl (upd (fun _ => 0) 0 (-1))))) (h12 : F (N0 + 229) = some (.inl (cL, 1, .inr (.inl (fun _ => 0))))) : Met l yL_copyTree wsL_copyTree ({ frames := 3, cells := 0, slots := 0, locals := 85 }) (va_Pc [.ref N0, .int 1, .int 2, .ref (N0 + 229)] (fP N0 D vwCl (fty cI cC cL cD cII cTr cTm cIt cB) (fen ql) F n)) (fQi N0 D vwCl (fty cI cC cL cD cII cTr cTm cIt cB) (fun (r : Int32) (_ : Unit) => r = 0) (fun _ => (fu (fu (fu (fu (fu (fu F (N0 + 158) (.inl (cC, 20, .inl (upd (fun _ => 0) 0 97)))) (N0 + 159) (.inl (cI, 20, .inl (fun _ => 0)))) (N0 + 160) (.inl (cI, 20, .inl (fun _ => 0)))) (N0 + 161) (.inl (cI, 20, .inl (upd (fun _ => 0) 0 (-1))))) (N0 + 157) (.inr (7, [.ref (N0 + 158), .ref (N0 + 159), .ref (N0 + 160), .ref (N0 + 161), .ref (N0 + 162), .ref (N0 + 163), .int 1]))) (N0 + 229) (.inl (cL, 1, .inr (.inl (vp_updL (fun _ => 0) 0 1)))))) (fun _ => n)) 0 0 (fA N0) := by
  refine fx_startW (hh := [(0, 10, 13, 19)]) 5 rfl rfl (Nat.le_of_ble_eq_true rfl) ?_ rfl
  intro p e s m below meth c ls S htab hr hlocks hG hl
  have hl : lv_has ls 5 [(0, .ref N0), (1, .int 1), (2, .int 2), (3, .ref (N0 + 229))] := hl
  have lt_h0 := hG.1.lt h0
  have lt_h1 := hG.1.lt h1
  have lt_h2 := hG.1.lt h2
  have lt_h3 := hG.1.lt h3
  have lt_h4 := hG.1.lt h4
  have lt_h5 := hG.1.lt h5
  have lt_h6 := hG.1.lt h6
  have lt_h7 := hG.1.lt h7
  have lt_h8 := hG.1.lt h8
  have lt_h9 := hG.1.lt h9
  have lt_h10 := hG.1.lt h10
  have lt_h11 := hG.1.lt h11
  have lt_h12 := hG.1.lt h12
  refine lv_aload_n S.1 S.2.1 dL_copyTree_0 rfl (lv_at hl 3 rfl) ?_
  refine lv_iconst (v := 0) S.1 S.2.1 dL_copyTree_1 (by decide) ?_
  refine lv_aload_n S.1 S.2.1 dL_copyTree_2 rfl (lv_at hl 0 rfl) ?_
  refine lv_iload_n S.1 S.2.1 dL_copyTree_3 rfl (lv_at hl 1 rfl) ?_
  refine lv_iload_n S.1 S.2.1 dL_copyTree_4 rfl (lv_at hl 2 rfl) ?_
  refine fx_cVi (As := [.int 1, .int 2]) (rest := [.int 0, .ref (N0 + 229)]) S hG (k502_X7_copyTree (by omega) h0 h1 h2 h3 h4 h5 h6 h7 h8 h9 h10 h11) h0 rfl (cwV 2 S.2.2.2.2 gL_copyTree_X7_copyTree rfl rfl rfl (by decide +kernel) ⟨Nat.le_of_ble_eq_true rfl, Nat.le_of_ble_eq_true rfl⟩) rfl hl.1 rfl (Nat.le_of_ble_eq_true rfl) dL_copyTree_5 ⟨Nat.le_of_ble_eq_true rfl, Nat.le_of_ble_eq_true rfl⟩ (fun rv_1 _ H locs hp hG => ?_)
  subst rv_1
  refine lv_i2l (v := 1) S.1 S.2.1 dL_copyTree_8 (by decide) ?_
  refine gx_last (f' := vp_updL (fun _ => 0) 0 1) S hG 2 (fu_at (by omega) (fu_at (by omega) (fu_at (by omega) (fu_at (by omega) (fu_at (by omega) h12))))) rfl (fin_l (by decide)) dL_copyTree_9 rfl (fun H locs hG => ?_)
  refine lv_goto (tgt := 17) S.1 S.2.1 dL_copyTree_10 (by decide) ?_
  refine lv_iconst (v := 0) S.1 S.2.1 dL_copyTree_17 (by decide) ?_
  exact fx_iret S hr hlocks () hG (rfl) dL_copyTree_18
theorem k504_X10_areNone {n : Nat} (hn : N0 + 231 ≤ n) (h0 : F (N0 + 164) = some (.inr (12, [.ref (N0 + 165), .int 0, .ref (N0 + 181), .int 0, .int 0, .int 0, .int (-1), .ref (ql 24), .ref (N0 + 182), .ref (N0 + 187), .ref (N0 + 208), .ref (N0 + 209), .ref (N0 + 210), .ref (N0 + 211), .ref (N0 + 212), .int 0, .ref (N0 + 213), .ref (N0 + 218), .ref (N0 + 223), .ref (N0 + 224), .ref (N0 + 225), .ref (N0 + 226), .ref (N0 + 227), .int 0, .int 0, .ref (N0 + 228), .null, .int (-1), .int 0, .int 0, .int 0]))) : Met l yX10_areNone wsX10_areNone ({ frames := 2, cells := 0, slots := 0, locals := 42 }) (va_Pc [.ref (N0 + 164), .int 1, .int 2] (fP N0 D vwCl (fty cI cC cL cD cII cTr cTm cIt cB) (fen ql) F n)) (fQi N0 D vwCl (fty cI cC cL cD cII cTr cTm cIt cB) (fun (r : Int32) (_ : Unit) => r = 0) (fun _ => (fu F (N0 + 164) (.inr (12, [.ref (N0 + 165), .int 0, .ref (N0 + 181), .int 0, .int 0, .int 0, .int (-1), .ref (ql 24), .ref (N0 + 182), .ref (N0 + 187), .ref (N0 + 208), .ref (N0 + 209), .ref (N0 + 210), .ref (N0 + 211), .ref (N0 + 212), .int 0, .ref (N0 + 213), .ref (N0 + 218), .ref (N0 + 223), .ref (N0 + 224), .ref (N0 + 225), .ref (N0 + 226), .ref (N0 + 227), .int 0, .int 0, .ref (N0 + 228), .null, .int (-1), .int 0, .int 0, .int 0])))) (fun _ => n)) 0 0 (fA N0) := by
  refine fx_start 3 rfl rfl (Nat.le_of_ble_eq_true rfl) ?_ rfl
  intro p e s m below meth c ls S hr hlocks hin hG hl
  have hl : lv_has ls 3 [(0, .ref (N0 + 164)), (1, .int 1), (2, .int 2)] := hl
  have lt_h0 := hG.1.lt h0
  refine lv_aload_n S.1 S.2.1 dX10_areNone_0 rfl (lv_at hl 0 rfl) ?_
  refine lv_iload_n S.1 S.2.1 dX10_areNone_1 rfl (lv_at hl 1 rfl) ?_
  refine fx_cSi (As := [.int 1]) (rest := [.ref (N0 + 164)]) S hG (k46_X10_isTree (by omega)) (cwS 1 S.2.2.2.2 gX10_areNone_X10_isTree rfl rfl rfl (by decide +kernel) ⟨Nat.le_of_ble_eq_true rfl, Nat.le_of_ble_eq_true rfl⟩) rfl hl.1 rfl (Nat.le_of_ble_eq_true rfl) dX10_areNone_2 ⟨Nat.le_of_ble_eq_true rfl, Nat.le_of_ble_eq_true rfl⟩ (fun rv_1 _ H locs hp hG => ?_)
  subst rv_1
  refine lv_if_eq (tgt := 19) S.1 S.2.1 dX10_areNone_5 (by decide) (fun c => absurd c (by decide)) (fun _ => ?_)
  refine lv_iload_n S.1 S.2.1 dX10_areNone_8 rfl (lv_at hl 2 rfl) ?_
  refine fx_cSi (As := [.int 2]) (rest := [.ref (N0 + 164)]) S hG (k52_X10_isTree (by omega)) (cwS 1 S.2.2.2.2 gX10_areNone_X10_isTree rfl rfl rfl (by decide +kernel) ⟨Nat.le_of_ble_eq_true rfl, Nat.le_of_ble_eq_true rfl⟩) rfl hl.1 rfl (Nat.le_of_ble_eq_true rfl) dX10_areNone_9 ⟨Nat.le_of_ble_eq_true rfl, Nat.le_of_ble_eq_true rfl⟩ (fun rv_2 _ H locs hp hG => ?_)
  subst rv_2
  refine lv_if_eq (tgt := 19) S.1 S.2.1 dX10_areNone_12 (by decide) (fun c => absurd c (by decide)) (fun _ => ?_)
  refine lv_iconst (v := 0) S.1 S.2.1 dX10_areNone_15 (by decide) ?_
  refine lv_goto (tgt := 20) S.1 S.2.1 dX10_areNone_16 (by decide) ?_
  refine gx_put (C := RX10) (T := TX10) (N := 31) (ty := .int) (v := .int 0) (fs' := [.ref (N0 + 165), .int 0, .ref (N0 + 181), .int 0, .int 0, .int 0, .int (-1), .ref (ql 24), .ref (N0 + 182), .ref (N0 + 187), .ref (N0 + 208), .ref (N0 + 209), .ref (N0 + 210), .ref (N0 + 211), .ref (N0 + 212), .int 0, .ref (N0 + 213), .ref (N0 + 218), .ref (N0 + 223), .ref (N0 + 224), .ref (N0 + 225), .ref (N0 + 226), .ref (N0 + 227), .int 0, .int 0, .ref (N0 + 228), .null, .int (-1), .int 0, .int 0, .int 0]) S hG h0 i_X10_areNone_X10 rfl 1 (by decide) tyX10 tyX10_ok nmX10 (by decide +kernel) rfl (by decide +kernel) rfl rfl (Nat.le_of_ble_eq_true rfl) rfl dX10_areNone_20 (fun H locs hG => ?_)
  refine lv_aload_n S.1 S.2.1 dX10_areNone_23 rfl (lv_at hl 0 rfl) ?_
  refine gx_get (C := RX10) (T := TX10) (N := 31) S hG fu_s i_X10_areNone_X10 rfl 1 (by decide) (by decide +kernel) rfl dX10_areNone_24 ?_
  refine lv_if_le (tgt := 34) S.1 S.2.1 dX10_areNone_27 (by decide) (fun _ => ?_) (fun c => absurd (by decide) c)
  refine lv_iconst (v := 0) S.1 S.2.1 dX10_areNone_34 (by decide) ?_
  exact fx_zret S hr (rfl) hlocks () hG (rfl) dX10_areNone_35
theorem k505_X9_copies {n : Nat} (hn : N0 + 231 ≤ n) (h0 : F (N0 + 171) = some (.inr (11, [.ref (N0 + 172), .ref (N0 + 173), .ref (N0 + 174), .ref (N0 + 175), .int 1]))) (h1 : F (N0 + 176) = some (.inr (11, [.ref (N0 + 177), .ref (N0 + 178), .ref (N0 + 179), .ref (N0 + 180), .int 1]))) (h2 : F (N0 + 172) = some (.inl (cI, 20, .inl (upd (fun _ => 0) 0 97)))) (h3 : F (N0 + 173) = some (.inl (cI, 20, .inl (upd (fun _ => 0) 0 0)))) (h4 : F (N0 + 174) = some (.inl (cI, 20, .inl (upd (fun _ => 0) 0 0)))) (h5 : F (N0 + 175) = some (.inl (cI, 20, .inl (upd (fun _ => 0) 0 (-1))))) (h6 : F (N0 + 177) = some (.inl (cI, 20, .inl (upd (fun _ => 0) 0 97)))) (h7 : F (N0 + 178) = some (.inl (cI, 20, .inl (upd (fun _ => 0) 0 0)))) (h8 : F (N0 + 179) = some (.inl (cI, 20, .inl (upd (fun _ => 0) 0 0)))) (h9 : F (N0 + 180) = some (.inl (cI, 20, .inl (upd (fun _ => 0) 0 (-1))))) : Met l yX9_copies wsX9_copies ({ frames := 1, cells := 0, slots := 0, locals := 25 }) (va_Pc [.ref (N0 + 176), .ref (N0 + 171)] (fP N0 D vwCl (fty cI cC cL cD cII cTr cTm cIt cB) (fen ql) F n)) (fQv N0 D vwCl (fty cI cC cL cD cII cTr cTm cIt cB) (fun (_ : Unit) => True) (fun _ => (fu (fu (fu (fu (fu F (N0 + 176) (.inr (11, [.ref (N0 + 177), .ref (N0 + 178), .ref (N0 + 179), .ref (N0 + 180), .int 1]))) (N0 + 177) (.inl (cI, 20, .inl (upd (upd (fun _ => 0) 0 97) 0 97)))) (N0 + 178) (.inl (cI, 20, .inl (upd (upd (fun _ => 0) 0 0) 0 0)))) (N0 + 179) (.inl (cI, 20, .inl (upd (upd (fun _ => 0) 0 0) 0 0)))) (N0 + 180) (.inl (cI, 20, .inl (upd (upd (fun _ => 0) 0 (-1)) 0 (-1)))))) (fun _ => n)) 0 0 (fA N0) := by
  refine fx_start 3 rfl rfl (Nat.le_of_ble_eq_true rfl) ?_ rfl
  intro p e s m below meth c ls S hr hlocks hin hG hl
  have hl : lv_has ls 3 [(0, .ref (N0 + 176)), (1, .ref (N0 + 171))] := hl
  have lt_h0 := hG.1.lt h0
  have lt_h1 := hG.1.lt h1
  have lt_h2 := hG.1.lt h2
  have lt_h3 := hG.1.lt h3
  have lt_h4 := hG.1.lt h4
  have lt_h5 := hG.1.lt h5
  have lt_h6 := hG.1.lt h6
  have lt_h7 := hG.1.lt h7
  have lt_h8 := hG.1.lt h8
  have lt_h9 := hG.1.lt h9
  refine lv_aload_n S.1 S.2.1 dX9_copies_0 rfl (lv_at hl 0 rfl) ?_
  refine lv_aload_n S.1 S.2.1 dX9_copies_1 rfl (lv_at hl 1 rfl) ?_
  refine gx_get (C := RX9) (T := TX9) (N := 5) S hG h0 i_X9_copies_X9 rfl 4 (by decide) (by decide +kernel) rfl dX9_copies_2 ?_
  refine gx_put (C := RX9) (T := TX9) (N := 5) (ty := .int) (v := .int 1) (fs' := [.ref (N0 + 177), .ref (N0 + 178), .ref (N0 + 179), .ref (N0 + 180), .int 1]) S hG h1 i_X9_copies_X9 rfl 4 (by decide) tyX9 tyX9_ok nmX9 (by decide +kernel) rfl (by decide +kernel) rfl rfl (Nat.le_of_ble_eq_true rfl) rfl dX9_copies_5 (fun H locs hG => ?_)
  refine lv_iconst (v := 0) S.1 S.2.1 dX9_copies_8 (by decide) ?_
  refine lv_istore_n (lv' := [(2, .int 0), (0, .ref (N0 + 176)), (1, .ref (N0 + 171))]) S.1 S.2.1 dX9_copies_9 rfl hl (by decide) rfl (fun ls hl => ?_)
  refine lv_iload_n S.1 S.2.1 dX9_copies_10 rfl (lv_at hl 0 rfl) ?_
  refine lv_aload_n S.1 S.2.1 dX9_copies_11 rfl (lv_at hl 1 rfl) ?_
  refine gx_get (C := RX9) (T := TX9) (N := 5) S hG fu_s i_X9_copies_X9 rfl 4 (by decide) (by decide +kernel) rfl dX9_copies_12 ?_
  refine lv_icmp_ge (tgt := 53) S.1 S.2.1 dX9_copies_15 (by decide) (fun c => absurd c (by decide)) (fun _ => ?_)
  refine lv_aload_n S.1 S.2.1 dX9_copies_18 rfl (lv_at hl 1 rfl) ?_
  refine lv_iload_n S.1 S.2.1 dX9_copies_19 rfl (lv_at hl 0 rfl) ?_
  refine lv_aload_n S.1 S.2.1 dX9_copies_20 rfl (lv_at hl 2 rfl) ?_
  refine gx_get (C := RX9) (T := TX9) (N := 5) S hG (fu_at (by omega) h0) i_X9_copies_X9 rfl 0 (by decide) (by decide +kernel) rfl dX9_copies_21 ?_
  refine lv_iload_n S.1 S.2.1 dX9_copies_24 rfl (lv_at hl 0 rfl) ?_
  refine gx_iald (v := 97) S hG 0 (fu_at (by omega) h2) rfl (fin_l (by decide)) (by decide) dX9_copies_25 ?_
  refine lv_aload_n S.1 S.2.1 dX9_copies_26 rfl (lv_at hl 2 rfl) ?_
  refine gx_get (C := RX9) (T := TX9) (N := 5) S hG (fu_at (by omega) h0) i_X9_copies_X9 rfl 1 (by decide) (by decide +kernel) rfl dX9_copies_27 ?_
  refine lv_iload_n S.1 S.2.1 dX9_copies_30 rfl (lv_at hl 0 rfl) ?_
  refine gx_iald (v := 0) S hG 0 (fu_at (by omega) h3) rfl (fin_l (by decide)) (by decide) dX9_copies_31 ?_
  refine lv_aload_n S.1 S.2.1 dX9_copies_32 rfl (lv_at hl 2 rfl) ?_
  refine gx_get (C := RX9) (T := TX9) (N := 5) S hG (fu_at (by omega) h0) i_X9_copies_X9 rfl 2 (by decide) (by decide +kernel) rfl dX9_copies_33 ?_
  refine lv_iload_n S.1 S.2.1 dX9_copies_36 rfl (lv_at hl 0 rfl) ?_
  refine gx_iald (v := 0) S hG 0 (fu_at (by omega) h4) rfl (fin_l (by decide)) (by decide) dX9_copies_37 ?_
  refine lv_aload_n S.1 S.2.1 dX9_copies_38 rfl (lv_at hl 2 rfl) ?_
  refine gx_get (C := RX9) (T := TX9) (N := 5) S hG (fu_at (by omega) h0) i_X9_copies_X9 rfl 3 (by decide) (by decide +kernel) rfl dX9_copies_39 ?_
  refine lv_iload_n S.1 S.2.1 dX9_copies_42 rfl (lv_at hl 0 rfl) ?_
  refine gx_iald (v := (-1)) S hG 0 (fu_at (by omega) h5) rfl (fin_l (by decide)) (by decide) dX9_copies_43 ?_
  refine fx_cVv (As := [.int 0, .int 97, .int 0, .int 0, .int (-1)]) (rest := []) S hG (k475_X9_sets (by omega) fu_s (fu_at (by omega) h6) (fu_at (by omega) h7) (fu_at (by omega) h8) (fu_at (by omega) h9)) fu_s rfl (cwV 5 S.2.2.2.2 gX9_copies_X9_sets rfl rfl rfl (by decide +kernel) ⟨Nat.le_of_ble_eq_true rfl, Nat.le_of_ble_eq_true rfl⟩) rfl hl.1 rfl (Nat.le_of_ble_eq_true rfl) dX9_copies_44 ⟨Nat.le_of_ble_eq_true rfl, Nat.le_of_ble_eq_true rfl⟩ (fun _ H locs hp hG => ?_)
  refine lv_iinc (v := 1) (lv' := [(2, .int 1), (0, .ref (N0 + 176)), (1, .ref (N0 + 171))]) S.1 S.2.1 dX9_copies_47 hl (k := 0) rfl (by decide) (by decide) rfl (fun ls hl => ?_)
  refine lv_goto (tgt := 10) S.1 S.2.1 dX9_copies_50 (by decide) ?_
  refine lv_iload_n S.1 S.2.1 dX9_copies_10 rfl (lv_at hl 0 rfl) ?_
  refine lv_aload_n S.1 S.2.1 dX9_copies_11 rfl (lv_at hl 1 rfl) ?_
  refine gx_get (C := RX9) (T := TX9) (N := 5) S hG (fu_at (by omega) (fu_at (by omega) (fu_at (by omega) (fu_at (by omega) fu_s)))) i_X9_copies_X9 rfl 4 (by decide) (by decide +kernel) rfl dX9_copies_12 ?_
  refine lv_icmp_ge (tgt := 53) S.1 S.2.1 dX9_copies_15 (by decide) (fun _ => ?_) (fun c => absurd (by decide) c)
  exact fx_vret S hr hlocks () hG trivial dX9_copies_53
theorem k506_X10_copyTree {n : Nat} (hn : N0 + 231 ≤ n) (h0 : F (N0 + 164) = some (.inr (12, [.ref (N0 + 165), .int 0, .ref (N0 + 181), .int 0, .int 0, .int 0, .int (-1), .ref (ql 24), .ref (N0 + 182), .ref (N0 + 187), .ref (N0 + 208), .ref (N0 + 209), .ref (N0 + 210), .ref (N0 + 211), .ref (N0 + 212), .int 0, .ref (N0 + 213), .ref (N0 + 218), .ref (N0 + 223), .ref (N0 + 224), .ref (N0 + 225), .ref (N0 + 226), .ref (N0 + 227), .int 0, .int 0, .ref (N0 + 228), .null, .int (-1), .int 0, .int 0, .int 0]))) (h1 : F (N0 + 165) = some (.inl (cTm, 3, .inr (.inr (.inr (.inr (va_up (va_up (va_up (fun _ => none) 0 (some (N0 + 166))) 1 (some (N0 + 171))) 2 (some (N0 + 176))))))))) (h2 : F (N0 + 171) = some (.inr (11, [.ref (N0 + 172), .ref (N0 + 173), .ref (N0 + 174), .ref (N0 + 175), .int 1]))) (h3 : F (N0 + 176) = some (.inr (11, [.ref (N0 + 177), .ref (N0 + 178), .ref (N0 + 179), .ref (N0 + 180), .int 1]))) (h4 : F (N0 + 172) = some (.inl (cI, 20, .inl (upd (fun _ => 0) 0 97)))) (h5 : F (N0 + 173) = some (.inl (cI, 20, .inl (upd (fun _ => 0) 0 0)))) (h6 : F (N0 + 174) = some (.inl (cI, 20, .inl (upd (fun _ => 0) 0 0)))) (h7 : F (N0 + 175) = some (.inl (cI, 20, .inl (upd (fun _ => 0) 0 (-1))))) (h8 : F (N0 + 177) = some (.inl (cI, 20, .inl (upd (fun _ => 0) 0 97)))) (h9 : F (N0 + 178) = some (.inl (cI, 20, .inl (upd (fun _ => 0) 0 0)))) (h10 : F (N0 + 179) = some (.inl (cI, 20, .inl (upd (fun _ => 0) 0 0)))) (h11 : F (N0 + 180) = some (.inl (cI, 20, .inl (upd (fun _ => 0) 0 (-1))))) : Met l yX10_copyTree wsX10_copyTree ({ frames := 3, cells := 0, slots := 0, locals := 64 }) (va_Pc [.ref (N0 + 164), .int 1, .int 2] (fP N0 D vwCl (fty cI cC cL cD cII cTr cTm cIt cB) (fen ql) F n)) (fQi N0 D vwCl (fty cI cC cL cD cII cTr cTm cIt cB) (fun (r : Int32) (_ : Unit) => r = 1) (fun _ => (fu (fu (fu (fu (fu (fu F (N0 + 164) (.inr (12, [.ref (N0 + 165), .int 0, .ref (N0 + 181), .int 0, .int 0, .int 0, .int (-1), .ref (ql 24), .ref (N0 + 182), .ref (N0 + 187), .ref (N0 + 208), .ref (N0 + 209), .ref (N0 + 210), .ref (N0 + 211), .ref (N0 + 212), .int 0, .ref (N0 + 213), .ref (N0 + 218), .ref (N0 + 223), .ref (N0 + 224), .ref (N0 + 225), .ref (N0 + 226), .ref (N0 + 227), .int 0, .int 0, .ref (N0 + 228), .null, .int (-1), .int 0, .int 0, .int 0]))) (N0 + 176) (.inr (11, [.ref (N0 + 177), .ref (N0 + 178), .ref (N0 + 179), .ref (N0 + 180), .int 1]))) (N0 + 177) (.inl (cI, 20, .inl (upd (upd (fun _ => 0) 0 97) 0 97)))) (N0 + 178) (.inl (cI, 20, .inl (upd (upd (fun _ => 0) 0 0) 0 0)))) (N0 + 179) (.inl (cI, 20, .inl (upd (upd (fun _ => 0) 0 0) 0 0)))) (N0 + 180) (.inl (cI, 20, .inl (upd (upd (fun _ => 0) 0 (-1)) 0 (-1)))))) (fun _ => n)) 0 0 (fA N0) := by
  refine fx_start 3 rfl rfl (Nat.le_of_ble_eq_true rfl) ?_ rfl
  intro p e s m below meth c ls S hr hlocks hin hG hl
  have hl : lv_has ls 3 [(0, .ref (N0 + 164)), (1, .int 1), (2, .int 2)] := hl
  have lt_h0 := hG.1.lt h0
  have lt_h1 := hG.1.lt h1
  have lt_h2 := hG.1.lt h2
  have lt_h3 := hG.1.lt h3
  have lt_h4 := hG.1.lt h4
  have lt_h5 := hG.1.lt h5
  have lt_h6 := hG.1.lt h6
  have lt_h7 := hG.1.lt h7
  have lt_h8 := hG.1.lt h8
  have lt_h9 := hG.1.lt h9
  have lt_h10 := hG.1.lt h10
  have lt_h11 := hG.1.lt h11
  refine lv_aload_n S.1 S.2.1 dX10_copyTree_0 rfl (lv_at hl 0 rfl) ?_
  refine lv_iload_n S.1 S.2.1 dX10_copyTree_1 rfl (lv_at hl 1 rfl) ?_
  refine lv_iload_n S.1 S.2.1 dX10_copyTree_2 rfl (lv_at hl 2 rfl) ?_
  refine fx_cVi (As := [.int 1, .int 2]) (rest := []) S hG (k504_X10_areNone (by omega) h0) h0 rfl (cwV 2 S.2.2.2.2 gX10_copyTree_X10_areNone rfl rfl rfl (by decide +kernel) ⟨Nat.le_of_ble_eq_true rfl, Nat.le_of_ble_eq_true rfl⟩) rfl hl.1 rfl (Nat.le_of_ble_eq_true rfl) dX10_copyTree_3 ⟨Nat.le_of_ble_eq_true rfl, Nat.le_of_ble_eq_true rfl⟩ (fun rv_1 _ H locs hp hG => ?_)
  subst rv_1
  refine lv_if_eq (tgt := 11) S.1 S.2.1 dX10_copyTree_6 (by decide) (fun _ => ?_) (fun c => absurd (by decide) c)
  refine lv_aload_n S.1 S.2.1 dX10_copyTree_11 rfl (lv_at hl 0 rfl) ?_
  refine gx_get (C := RX10) (T := TX10) (N := 31) S hG fu_s i_X10_copyTree_X10 rfl 0 (by decide) (by decide +kernel) rfl dX10_copyTree_12 ?_
  refine lv_iload_n S.1 S.2.1 dX10_copyTree_15 rfl (lv_at hl 2 rfl) ?_
  refine gx_aldq (x := (N0 + 176)) S hG 6 rfl (fu_at (by omega) h1) rfl (fin_l (by decide)) (rfl) dX10_copyTree_16 ?_
  refine lv_aload_n S.1 S.2.1 dX10_copyTree_17 rfl (lv_at hl 0 rfl) ?_
  refine gx_get (C := RX10) (T := TX10) (N := 31) S hG fu_s i_X10_copyTree_X10 rfl 0 (by decide) (by decide +kernel) rfl dX10_copyTree_18 ?_
  refine lv_iload_n S.1 S.2.1 dX10_copyTree_21 rfl (lv_at hl 1 rfl) ?_
  refine gx_aldq (x := (N0 + 171)) S hG 6 rfl (fu_at (by omega) h1) rfl (fin_l (by decide)) (rfl) dX10_copyTree_22 ?_
  refine fx_cVNv (host := "TreeDifferModel") (As := [.ref (N0 + 171)]) (rest := []) S hG (k505_X9_copies (by omega) (fu_at (by omega) h2) (fu_at (by omega) h3) (fu_at (by omega) h4) (fu_at (by omega) h5) (fu_at (by omega) h6) (fu_at (by omega) h7) (fu_at (by omega) h8) (fu_at (by omega) h9) (fu_at (by omega) h10) (fu_at (by omega) h11)) (fu_at (by omega) h3) rfl ⟨(va_cnB 1 S.2.2.2.2 gX10_copyTree_X9_copies_n157 rfl rfl rfl (hG.nest (show _ ∈ fen2.2.2.1 from by decide)) (S.2.2.2.2 (.initialized RX9) (by decide +kernel)) (by decide +kernel) ⟨Nat.le_of_ble_eq_true rfl, Nat.le_of_ble_eq_true rfl⟩), S.2.2.2.2 (.instanceMethod yX9_copies) (by decide +kernel), S.2.2.2.2 (.selects RX9 yX9_copies yX9_copies) (by decide +kernel)⟩ rfl hl.1 rfl (Nat.le_of_ble_eq_true rfl) dX10_copyTree_23 ⟨Nat.le_of_ble_eq_true rfl, Nat.le_of_ble_eq_true rfl⟩ (fun _ H locs hp hG => ?_)
  refine lv_aload_n S.1 S.2.1 dX10_copyTree_26 rfl (lv_at hl 0 rfl) ?_
  refine gx_get (C := RX10) (T := TX10) (N := 31) S hG (fu_at (by omega) (fu_at (by omega) (fu_at (by omega) (fu_at (by omega) (fu_at (by omega) fu_s))))) i_X10_copyTree_X10 rfl 0 (by decide) (by decide +kernel) rfl dX10_copyTree_27 ?_
  refine lv_iload_n S.1 S.2.1 dX10_copyTree_30 rfl (lv_at hl 1 rfl) ?_
  refine gx_aldq (x := (N0 + 171)) S hG 6 rfl (fu_at (by omega) (fu_at (by omega) (fu_at (by omega) (fu_at (by omega) (fu_at (by omega) (fu_at (by omega) h1)))))) rfl (fin_l (by decide)) (rfl) dX10_copyTree_31 ?_
  refine gx_getN (C := RX9) (T := TX9) (N := 5) S hG (fu_at (by omega) (fu_at (by omega) (fu_at (by omega) (fu_at (by omega) (fu_at (by omega) (fu_at (by omega) h2)))))) i_X10_copyTree_X9 rfl 4 (by decide) (List.mem_of_getElem? (i := 4) rfl) rfl dX10_copyTree_32 ?_
  exact fx_iret S hr hlocks () hG (rfl) dX10_copyTree_35
theorem k507_X7_copyTree {n : Nat} {a2 : Int32} (g_a2_ge_3 : 3 ≤ a2) (hst : l.stackTraces = false) (hn : N0 + 231 ≤ n) (h0 : F N0 = some (.inr (9, [.ref (N0 + 1), .ref (N0 + 2), .ref (N0 + 11), .ref (N0 + 13), .ref (N0 + 63), .ref (N0 + 65), .ref (N0 + 85), .int (-1), .int (-1), .int 32]))) (h1 : F (N0 + 1) = some (.inl (cTr, 3, .inr (.inr (.inr (.inr (va_up (va_up (va_up (fun _ => none) 0 (some (N0 + 143))) 1 (some (N0 + 150))) 2 (some (N0 + 157))))))))) : vx_Met l yX7_copyTree wsX7_copyTree ({ frames := 7, cells := 1, slots := 6, locals := 103 }) (va_Pc [.ref N0, .int 1, .int a2] (fP N0 D vwCl (fty cI cC cL cD cII cTr cTm cIt cB) (fen ql) F n)) (fNo N0 D vwCl (fty cI cC cL cD cII cTr cTm cIt cB) F n) (fXC N0 D vwCl (fty cI cC cL cD cII cTr cTm cIt cB) "java/lang/IndexOutOfBoundsException" F n) 1 6 (fA N0) := by
  refine fx_startX 5 rfl rfl (Nat.le_of_ble_eq_true rfl) ?_ rfl
  intro p e s m below meth c ls S htab hlocks hG hl
  have hl : lv_has ls 5 [(0, .ref N0), (1, .int 1), (2, .int a2)] := hl
  have lt_h0 := hG.1.lt h0
  have lt_h1 := hG.1.lt h1
  refine lv_aload_n S.1 S.2.1 dX7_copyTree_0 rfl (lv_at hl 0 rfl) ?_
  refine lv_iload_n S.1 S.2.1 dX7_copyTree_1 rfl (lv_at hl 1 rfl) ?_
  refine fx_cVr (As := [.int 1]) (rest := []) S hG (k42_X7_treeAt (by omega) h0 h1) h0 rfl (cwV 1 S.2.2.2.2 gX7_copyTree_X7_treeAt rfl rfl rfl (by decide +kernel) ⟨Nat.le_of_ble_eq_true rfl, Nat.le_of_ble_eq_true rfl⟩) rfl hl.1 rfl (Nat.le_of_ble_eq_true rfl) dX7_copyTree_2 ⟨Nat.le_of_ble_eq_true rfl, Nat.le_of_ble_eq_true rfl⟩ (fun rv_1 _ H locs hp hG => ?_)
  subst rv_1
  refine lv_astore_n (lv' := [(3, .ref (N0 + 150)), (0, .ref N0), (1, .int 1), (2, .int a2)]) S.1 S.2.1 dX7_copyTree_5 rfl hl (by decide) rfl (fun ls hl => ?_)
  refine lv_aload_n S.1 S.2.1 dX7_copyTree_6 rfl (lv_at hl 1 rfl) ?_
  refine lv_iload_n S.1 S.2.1 dX7_copyTree_7 rfl (lv_at hl 3 rfl) ?_
  refine fx_xV (As := [.int a2]) (rest := []) S hG (k478_X7_treeAt g_a2_ge_3 hst (by omega)) h0 rfl (cwV 1 S.2.2.2.2 gX7_copyTree_X7_treeAt rfl rfl rfl (by decide +kernel) ⟨Nat.le_of_ble_eq_true rfl, Nat.le_of_ble_eq_true rfl⟩) rfl hl.1 rfl (Nat.le_of_ble_eq_true rfl) dX7_copyTree_8 ⟨Nat.le_of_ble_eq_true rfl, Nat.le_of_ble_eq_true rfl⟩ (fun ceq_2 q_2 H locs n_3 hn_3 hG h1q_2 h2q_2 h3q_2 => ?_)
  exact fx_out htab hlocks hG (by omega) h1q_2 h2q_2 h3q_2 (by decide) (by decide)
theorem k508_L_copyTree {n : Nat} {a2 : Int32} (g_a2_ge_3 : 3 ≤ a2) (hst : l.stackTraces = false) (hn : N0 + 231 ≤ n) (h0 : F N0 = some (.inr (9, [.ref (N0 + 1), .ref (N0 + 2), .ref (N0 + 11), .ref (N0 + 13), .ref (N0 + 63), .ref (N0 + 65), .ref (N0 + 85), .int (-1), .int (-1), .int 32]))) (h1 : F (N0 + 1) = some (.inl (cTr, 3, .inr (.inr (.inr (.inr (va_up (va_up (va_up (fun _ => none) 0 (some (N0 + 143))) 1 (some (N0 + 150))) 2 (some (N0 + 157))))))))) : Met l yL_copyTree wsL_copyTree ({ frames := 8, cells := 1, slots := 6, locals := 127 }) (va_Pc [.ref N0, .int 1, .int a2, .ref (N0 + 229)] (fP N0 D vwCl (fty cI cC cL cD cII cTr cTm cIt cB) (fen ql) F n)) (fQi N0 D vwCl (fty cI cC cL cD cII cTr cTm cIt cB) (fun (r : Int32) (u : Nat) => r = 1 ∧ n ≤ u) (fun _ => F) (fun u => u)) 1 6 (fA N0) := by
  refine fx_startW (hh := [(0, 10, 13, 19)]) 5 rfl rfl (Nat.le_of_ble_eq_true rfl) ?_ rfl
  intro p e s m below meth c ls S htab hr hlocks hG hl
  have hl : lv_has ls 5 [(0, .ref N0), (1, .int 1), (2, .int a2), (3, .ref (N0 + 229))] := hl
  have lt_h0 := hG.1.lt h0
  have lt_h1 := hG.1.lt h1
  refine lv_aload_n S.1 S.2.1 dL_copyTree_0 rfl (lv_at hl 3 rfl) ?_
  refine lv_iconst (v := 0) S.1 S.2.1 dL_copyTree_1 (by decide) ?_
  refine lv_aload_n S.1 S.2.1 dL_copyTree_2 rfl (lv_at hl 0 rfl) ?_
  refine lv_iload_n S.1 S.2.1 dL_copyTree_3 rfl (lv_at hl 1 rfl) ?_
  refine lv_iload_n S.1 S.2.1 dL_copyTree_4 rfl (lv_at hl 2 rfl) ?_
  refine fx_xV (As := [.int 1, .int a2]) (rest := [.int 0, .ref (N0 + 229)]) S hG (k507_X7_copyTree g_a2_ge_3 hst (by omega) h0 h1) h0 rfl (cwV 2 S.2.2.2.2 gL_copyTree_X7_copyTree rfl rfl rfl (by decide +kernel) ⟨Nat.le_of_ble_eq_true rfl, Nat.le_of_ble_eq_true rfl⟩) rfl hl.1 rfl (Nat.le_of_ble_eq_true rfl) dL_copyTree_5 ⟨Nat.le_of_ble_eq_true rfl, Nat.le_of_ble_eq_true rfl⟩ (fun ceq_1 q_1 H locs n_2 hn_2 hG h1q_1 h2q_1 h3q_1 => ?_)
  refine fx_catch (hh := [(0, 10, 13, 19)]) S htab hG h1q_1 h2q_1 h3q_1 [] ⟨0, 10, 13, 19⟩ [] rfl [] (fun z hz => absurd hz List.not_mem_nil) (by decide) (by decide) (by decide +kernel) (List.mem_of_getElem? (i := 2) rfl) ?_
  refine lv_astore (lv' := [(4, .ref q_1), (0, .ref N0), (1, .int 1), (2, .int a2), (3, .ref (N0 + 229))]) S.1 S.2.1 dL_copyTree_13 hl (by decide) rfl (fun ls hl => ?_)
  refine lv_iconst (v := 1) S.1 S.2.1 dL_copyTree_15 (by decide) ?_
  exact fx_iret S hr hlocks n_2 hG (⟨rfl, hn_2⟩) dL_copyTree_16
theorem k509_X10_areNone {n : Nat} {a2 : Int32} (g_a2_ge_3 : 3 ≤ a2) (hn : N0 + 231 ≤ n) (h0 : F (N0 + 164) = some (.inr (12, [.ref (N0 + 165), .int 0, .ref (N0 + 181), .int 0, .int 0, .int 0, .int (-1), .ref (ql 24), .ref (N0 + 182), .ref (N0 + 187), .ref (N0 + 208), .ref (N0 + 209), .ref (N0 + 210), .ref (N0 + 211), .ref (N0 + 212), .int 0, .ref (N0 + 213), .ref (N0 + 218), .ref (N0 + 223), .ref (N0 + 224), .ref (N0 + 225), .ref (N0 + 226), .ref (N0 + 227), .int 0, .int 0, .ref (N0 + 228), .null, .int (-1), .int 0, .int 0, .int 0]))) : Met l yX10_areNone wsX10_areNone ({ frames := 2, cells := 0, slots := 0, locals := 42 }) (va_Pc [.ref (N0 + 164), .int 1, .int a2] (fP N0 D vwCl (fty cI cC cL cD cII cTr cTm cIt cB) (fen ql) F n)) (fQi N0 D vwCl (fty cI cC cL cD cII cTr cTm cIt cB) (fun (r : Int32) (_ : Unit) => r = 1) (fun _ => (fu F (N0 + 164) (.inr (12, [.ref (N0 + 165), .int 1, .ref (N0 + 181), .int 0, .int 0, .int 0, .int (-1), .ref (ql 24), .ref (N0 + 182), .ref (N0 + 187), .ref (N0 + 208), .ref (N0 + 209), .ref (N0 + 210), .ref (N0 + 211), .ref (N0 + 212), .int 0, .ref (N0 + 213), .ref (N0 + 218), .ref (N0 + 223), .ref (N0 + 224), .ref (N0 + 225), .ref (N0 + 226), .ref (N0 + 227), .int 0, .int 0, .ref (N0 + 228), .null, .int (-1), .int 0, .int 0, .int 0])))) (fun _ => n)) 0 0 (fA N0) := by
  refine fx_start 3 rfl rfl (Nat.le_of_ble_eq_true rfl) ?_ rfl
  intro p e s m below meth c ls S hr hlocks hin hG hl
  have hl : lv_has ls 3 [(0, .ref (N0 + 164)), (1, .int 1), (2, .int a2)] := hl
  have lt_h0 := hG.1.lt h0
  refine lv_aload_n S.1 S.2.1 dX10_areNone_0 rfl (lv_at hl 0 rfl) ?_
  refine lv_iload_n S.1 S.2.1 dX10_areNone_1 rfl (lv_at hl 1 rfl) ?_
  refine fx_cSi (As := [.int 1]) (rest := [.ref (N0 + 164)]) S hG (k46_X10_isTree (by omega)) (cwS 1 S.2.2.2.2 gX10_areNone_X10_isTree rfl rfl rfl (by decide +kernel) ⟨Nat.le_of_ble_eq_true rfl, Nat.le_of_ble_eq_true rfl⟩) rfl hl.1 rfl (Nat.le_of_ble_eq_true rfl) dX10_areNone_2 ⟨Nat.le_of_ble_eq_true rfl, Nat.le_of_ble_eq_true rfl⟩ (fun rv_1 _ H locs hp hG => ?_)
  subst rv_1
  refine lv_if_eq (tgt := 19) S.1 S.2.1 dX10_areNone_5 (by decide) (fun c => absurd c (by decide)) (fun _ => ?_)
  refine lv_iload_n S.1 S.2.1 dX10_areNone_8 rfl (lv_at hl 2 rfl) ?_
  refine fx_cSi (As := [.int a2]) (rest := [.ref (N0 + 164)]) S hG (k482_X10_isTree g_a2_ge_3 (by omega)) (cwS 1 S.2.2.2.2 gX10_areNone_X10_isTree rfl rfl rfl (by decide +kernel) ⟨Nat.le_of_ble_eq_true rfl, Nat.le_of_ble_eq_true rfl⟩) rfl hl.1 rfl (Nat.le_of_ble_eq_true rfl) dX10_areNone_9 ⟨Nat.le_of_ble_eq_true rfl, Nat.le_of_ble_eq_true rfl⟩ (fun rv_2 _ H locs hp hG => ?_)
  subst rv_2
  refine lv_if_eq (tgt := 19) S.1 S.2.1 dX10_areNone_12 (by decide) (fun _ => ?_) (fun c => absurd (by decide) c)
  refine lv_iconst (v := 1) S.1 S.2.1 dX10_areNone_19 (by decide) ?_
  refine gx_put (C := RX10) (T := TX10) (N := 31) (ty := .int) (v := .int 1) (fs' := [.ref (N0 + 165), .int 1, .ref (N0 + 181), .int 0, .int 0, .int 0, .int (-1), .ref (ql 24), .ref (N0 + 182), .ref (N0 + 187), .ref (N0 + 208), .ref (N0 + 209), .ref (N0 + 210), .ref (N0 + 211), .ref (N0 + 212), .int 0, .ref (N0 + 213), .ref (N0 + 218), .ref (N0 + 223), .ref (N0 + 224), .ref (N0 + 225), .ref (N0 + 226), .ref (N0 + 227), .int 0, .int 0, .ref (N0 + 228), .null, .int (-1), .int 0, .int 0, .int 0]) S hG h0 i_X10_areNone_X10 rfl 1 (by decide) tyX10 tyX10_ok nmX10 (by decide +kernel) rfl (by decide +kernel) rfl rfl (Nat.le_of_ble_eq_true rfl) rfl dX10_areNone_20 (fun H locs hG => ?_)
  refine lv_aload_n S.1 S.2.1 dX10_areNone_23 rfl (lv_at hl 0 rfl) ?_
  refine gx_get (C := RX10) (T := TX10) (N := 31) S hG fu_s i_X10_areNone_X10 rfl 1 (by decide) (by decide +kernel) rfl dX10_areNone_24 ?_
  refine lv_if_le (tgt := 34) S.1 S.2.1 dX10_areNone_27 (by decide) (fun c => absurd c (by decide)) (fun _ => ?_)
  refine lv_iconst (v := 1) S.1 S.2.1 dX10_areNone_30 (by decide) ?_
  refine lv_goto (tgt := 35) S.1 S.2.1 dX10_areNone_31 (by decide) ?_
  exact fx_zret S hr (rfl) hlocks () hG (rfl) dX10_areNone_35
theorem k510_X10_copyTree {n : Nat} {a2 : Int32} (g_a2_ge_3 : 3 ≤ a2) (hn : N0 + 231 ≤ n) (h0 : F (N0 + 164) = some (.inr (12, [.ref (N0 + 165), .int 0, .ref (N0 + 181), .int 0, .int 0, .int 0, .int (-1), .ref (ql 24), .ref (N0 + 182), .ref (N0 + 187), .ref (N0 + 208), .ref (N0 + 209), .ref (N0 + 210), .ref (N0 + 211), .ref (N0 + 212), .int 0, .ref (N0 + 213), .ref (N0 + 218), .ref (N0 + 223), .ref (N0 + 224), .ref (N0 + 225), .ref (N0 + 226), .ref (N0 + 227), .int 0, .int 0, .ref (N0 + 228), .null, .int (-1), .int 0, .int 0, .int 0]))) : Met l yX10_copyTree wsX10_copyTree ({ frames := 3, cells := 0, slots := 0, locals := 64 }) (va_Pc [.ref (N0 + 164), .int 1, .int a2] (fP N0 D vwCl (fty cI cC cL cD cII cTr cTm cIt cB) (fen ql) F n)) (fQi N0 D vwCl (fty cI cC cL cD cII cTr cTm cIt cB) (fun (r : Int32) (_ : Unit) => r = 0) (fun _ => (fu F (N0 + 164) (.inr (12, [.ref (N0 + 165), .int 1, .ref (N0 + 181), .int 0, .int 0, .int 0, .int (-1), .ref (ql 24), .ref (N0 + 182), .ref (N0 + 187), .ref (N0 + 208), .ref (N0 + 209), .ref (N0 + 210), .ref (N0 + 211), .ref (N0 + 212), .int 0, .ref (N0 + 213), .ref (N0 + 218), .ref (N0 + 223), .ref (N0 + 224), .ref (N0 + 225), .ref (N0 + 226), .ref (N0 + 227), .int 0, .int 0, .ref (N0 + 228), .null, .int (-1), .int 0, .int 0, .int 0])))) (fun _ => n)) 0 0 (fA N0) := by
  refine fx_start 3 rfl rfl (Nat.le_of_ble_eq_true rfl) ?_ rfl
  intro p e s m below meth c ls S hr hlocks hin hG hl
  have hl : lv_has ls 3 [(0, .ref (N0 + 164)), (1, .int 1), (2, .int a2)] := hl
  have lt_h0 := hG.1.lt h0
  refine lv_aload_n S.1 S.2.1 dX10_copyTree_0 rfl (lv_at hl 0 rfl) ?_
  refine lv_iload_n S.1 S.2.1 dX10_copyTree_1 rfl (lv_at hl 1 rfl) ?_
  refine lv_iload_n S.1 S.2.1 dX10_copyTree_2 rfl (lv_at hl 2 rfl) ?_
  refine fx_cVi (As := [.int 1, .int a2]) (rest := []) S hG (k509_X10_areNone g_a2_ge_3 (by omega) h0) h0 rfl (cwV 2 S.2.2.2.2 gX10_copyTree_X10_areNone rfl rfl rfl (by decide +kernel) ⟨Nat.le_of_ble_eq_true rfl, Nat.le_of_ble_eq_true rfl⟩) rfl hl.1 rfl (Nat.le_of_ble_eq_true rfl) dX10_copyTree_3 ⟨Nat.le_of_ble_eq_true rfl, Nat.le_of_ble_eq_true rfl⟩ (fun rv_1 _ H locs hp hG => ?_)
  subst rv_1
  refine lv_if_eq (tgt := 11) S.1 S.2.1 dX10_copyTree_6 (by decide) (fun c => absurd c (by decide)) (fun _ => ?_)
  refine lv_iconst (v := 0) S.1 S.2.1 dX10_copyTree_9 (by decide) ?_
  exact fx_iret S hr hlocks () hG (rfl) dX10_copyTree_10
theorem k511_X7_copyTree {n : Nat} {a2 : Int32} (g_a2_le_m1 : a2 ≤ (-1)) (hst : l.stackTraces = false) (hn : N0 + 231 ≤ n) (h0 : F N0 = some (.inr (9, [.ref (N0 + 1), .ref (N0 + 2), .ref (N0 + 11), .ref (N0 + 13), .ref (N0 + 63), .ref (N0 + 65), .ref (N0 + 85), .int (-1), .int (-1), .int 32]))) (h1 : F (N0 + 1) = some (.inl (cTr, 3, .inr (.inr (.inr (.inr (va_up (va_up (va_up (fun _ => none) 0 (some (N0 + 143))) 1 (some (N0 + 150))) 2 (some (N0 + 157))))))))) : vx_Met l yX7_copyTree wsX7_copyTree ({ frames := 7, cells := 1, slots := 6, locals := 103 }) (va_Pc [.ref N0, .int 2, .int a2] (fP N0 D vwCl (fty cI cC cL cD cII cTr cTm cIt cB) (fen ql) F n)) (fNo N0 D vwCl (fty cI cC cL cD cII cTr cTm cIt cB) F n) (fXC N0 D vwCl (fty cI cC cL cD cII cTr cTm cIt cB) "java/lang/IndexOutOfBoundsException" F n) 1 6 (fA N0) := by
  refine fx_startX 5 rfl rfl (Nat.le_of_ble_eq_true rfl) ?_ rfl
  intro p e s m below meth c ls S htab hlocks hG hl
  have hl : lv_has ls 5 [(0, .ref N0), (1, .int 2), (2, .int a2)] := hl
  have lt_h0 := hG.1.lt h0
  have lt_h1 := hG.1.lt h1
  refine lv_aload_n S.1 S.2.1 dX7_copyTree_0 rfl (lv_at hl 0 rfl) ?_
  refine lv_iload_n S.1 S.2.1 dX7_copyTree_1 rfl (lv_at hl 1 rfl) ?_
  refine fx_cVr (As := [.int 2]) (rest := []) S hG (k48_X7_treeAt (by omega) h0 h1) h0 rfl (cwV 1 S.2.2.2.2 gX7_copyTree_X7_treeAt rfl rfl rfl (by decide +kernel) ⟨Nat.le_of_ble_eq_true rfl, Nat.le_of_ble_eq_true rfl⟩) rfl hl.1 rfl (Nat.le_of_ble_eq_true rfl) dX7_copyTree_2 ⟨Nat.le_of_ble_eq_true rfl, Nat.le_of_ble_eq_true rfl⟩ (fun rv_1 _ H locs hp hG => ?_)
  subst rv_1
  refine lv_astore_n (lv' := [(3, .ref (N0 + 157)), (0, .ref N0), (1, .int 2), (2, .int a2)]) S.1 S.2.1 dX7_copyTree_5 rfl hl (by decide) rfl (fun ls hl => ?_)
  refine lv_aload_n S.1 S.2.1 dX7_copyTree_6 rfl (lv_at hl 1 rfl) ?_
  refine lv_iload_n S.1 S.2.1 dX7_copyTree_7 rfl (lv_at hl 3 rfl) ?_
  refine fx_xV (As := [.int a2]) (rest := []) S hG (k450_X7_treeAt g_a2_le_m1 hst (by omega)) h0 rfl (cwV 1 S.2.2.2.2 gX7_copyTree_X7_treeAt rfl rfl rfl (by decide +kernel) ⟨Nat.le_of_ble_eq_true rfl, Nat.le_of_ble_eq_true rfl⟩) rfl hl.1 rfl (Nat.le_of_ble_eq_true rfl) dX7_copyTree_8 ⟨Nat.le_of_ble_eq_true rfl, Nat.le_of_ble_eq_true rfl⟩ (fun ceq_2 q_2 H locs n_3 hn_3 hG h1q_2 h2q_2 h3q_2 => ?_)
  exact fx_out htab hlocks hG (by omega) h1q_2 h2q_2 h3q_2 (by decide) (by decide)
theorem k512_L_copyTree {n : Nat} {a2 : Int32} (g_a2_le_m1 : a2 ≤ (-1)) (hst : l.stackTraces = false) (hn : N0 + 231 ≤ n) (h0 : F N0 = some (.inr (9, [.ref (N0 + 1), .ref (N0 + 2), .ref (N0 + 11), .ref (N0 + 13), .ref (N0 + 63), .ref (N0 + 65), .ref (N0 + 85), .int (-1), .int (-1), .int 32]))) (h1 : F (N0 + 1) = some (.inl (cTr, 3, .inr (.inr (.inr (.inr (va_up (va_up (va_up (fun _ => none) 0 (some (N0 + 143))) 1 (some (N0 + 150))) 2 (some (N0 + 157))))))))) : Met l yL_copyTree wsL_copyTree ({ frames := 8, cells := 1, slots := 6, locals := 127 }) (va_Pc [.ref N0, .int 2, .int a2, .ref (N0 + 229)] (fP N0 D vwCl (fty cI cC cL cD cII cTr cTm cIt cB) (fen ql) F n)) (fQi N0 D vwCl (fty cI cC cL cD cII cTr cTm cIt cB) (fun (r : Int32) (u : Nat) => r = 1 ∧ n ≤ u) (fun _ => F) (fun u => u)) 1 6 (fA N0) := by
  refine fx_startW (hh := [(0, 10, 13, 19)]) 5 rfl rfl (Nat.le_of_ble_eq_true rfl) ?_ rfl
  intro p e s m below meth c ls S htab hr hlocks hG hl
  have hl : lv_has ls 5 [(0, .ref N0), (1, .int 2), (2, .int a2), (3, .ref (N0 + 229))] := hl
  have lt_h0 := hG.1.lt h0
  have lt_h1 := hG.1.lt h1
  refine lv_aload_n S.1 S.2.1 dL_copyTree_0 rfl (lv_at hl 3 rfl) ?_
  refine lv_iconst (v := 0) S.1 S.2.1 dL_copyTree_1 (by decide) ?_
  refine lv_aload_n S.1 S.2.1 dL_copyTree_2 rfl (lv_at hl 0 rfl) ?_
  refine lv_iload_n S.1 S.2.1 dL_copyTree_3 rfl (lv_at hl 1 rfl) ?_
  refine lv_iload_n S.1 S.2.1 dL_copyTree_4 rfl (lv_at hl 2 rfl) ?_
  refine fx_xV (As := [.int 2, .int a2]) (rest := [.int 0, .ref (N0 + 229)]) S hG (k511_X7_copyTree g_a2_le_m1 hst (by omega) h0 h1) h0 rfl (cwV 2 S.2.2.2.2 gL_copyTree_X7_copyTree rfl rfl rfl (by decide +kernel) ⟨Nat.le_of_ble_eq_true rfl, Nat.le_of_ble_eq_true rfl⟩) rfl hl.1 rfl (Nat.le_of_ble_eq_true rfl) dL_copyTree_5 ⟨Nat.le_of_ble_eq_true rfl, Nat.le_of_ble_eq_true rfl⟩ (fun ceq_1 q_1 H locs n_2 hn_2 hG h1q_1 h2q_1 h3q_1 => ?_)
  refine fx_catch (hh := [(0, 10, 13, 19)]) S htab hG h1q_1 h2q_1 h3q_1 [] ⟨0, 10, 13, 19⟩ [] rfl [] (fun z hz => absurd hz List.not_mem_nil) (by decide) (by decide) (by decide +kernel) (List.mem_of_getElem? (i := 2) rfl) ?_
  refine lv_astore (lv' := [(4, .ref q_1), (0, .ref N0), (1, .int 2), (2, .int a2), (3, .ref (N0 + 229))]) S.1 S.2.1 dL_copyTree_13 hl (by decide) rfl (fun ls hl => ?_)
  refine lv_iconst (v := 1) S.1 S.2.1 dL_copyTree_15 (by decide) ?_
  exact fx_iret S hr hlocks n_2 hG (⟨rfl, hn_2⟩) dL_copyTree_16
theorem k513_X10_areNone {n : Nat} {a2 : Int32} (g_a2_le_m1 : a2 ≤ (-1)) (hn : N0 + 231 ≤ n) (h0 : F (N0 + 164) = some (.inr (12, [.ref (N0 + 165), .int 0, .ref (N0 + 181), .int 0, .int 0, .int 0, .int (-1), .ref (ql 24), .ref (N0 + 182), .ref (N0 + 187), .ref (N0 + 208), .ref (N0 + 209), .ref (N0 + 210), .ref (N0 + 211), .ref (N0 + 212), .int 0, .ref (N0 + 213), .ref (N0 + 218), .ref (N0 + 223), .ref (N0 + 224), .ref (N0 + 225), .ref (N0 + 226), .ref (N0 + 227), .int 0, .int 0, .ref (N0 + 228), .null, .int (-1), .int 0, .int 0, .int 0]))) : Met l yX10_areNone wsX10_areNone ({ frames := 2, cells := 0, slots := 0, locals := 42 }) (va_Pc [.ref (N0 + 164), .int 2, .int a2] (fP N0 D vwCl (fty cI cC cL cD cII cTr cTm cIt cB) (fen ql) F n)) (fQi N0 D vwCl (fty cI cC cL cD cII cTr cTm cIt cB) (fun (r : Int32) (_ : Unit) => r = 1) (fun _ => (fu F (N0 + 164) (.inr (12, [.ref (N0 + 165), .int 1, .ref (N0 + 181), .int 0, .int 0, .int 0, .int (-1), .ref (ql 24), .ref (N0 + 182), .ref (N0 + 187), .ref (N0 + 208), .ref (N0 + 209), .ref (N0 + 210), .ref (N0 + 211), .ref (N0 + 212), .int 0, .ref (N0 + 213), .ref (N0 + 218), .ref (N0 + 223), .ref (N0 + 224), .ref (N0 + 225), .ref (N0 + 226), .ref (N0 + 227), .int 0, .int 0, .ref (N0 + 228), .null, .int (-1), .int 0, .int 0, .int 0])))) (fun _ => n)) 0 0 (fA N0) := by
  refine fx_start 3 rfl rfl (Nat.le_of_ble_eq_true rfl) ?_ rfl
  intro p e s m below meth c ls S hr hlocks hin hG hl
  have hl : lv_has ls 3 [(0, .ref (N0 + 164)), (1, .int 2), (2, .int a2)] := hl
  have lt_h0 := hG.1.lt h0
  refine lv_aload_n S.1 S.2.1 dX10_areNone_0 rfl (lv_at hl 0 rfl) ?_
  refine lv_iload_n S.1 S.2.1 dX10_areNone_1 rfl (lv_at hl 1 rfl) ?_
  refine fx_cSi (As := [.int 2]) (rest := [.ref (N0 + 164)]) S hG (k52_X10_isTree (by omega)) (cwS 1 S.2.2.2.2 gX10_areNone_X10_isTree rfl rfl rfl (by decide +kernel) ⟨Nat.le_of_ble_eq_true rfl, Nat.le_of_ble_eq_true rfl⟩) rfl hl.1 rfl (Nat.le_of_ble_eq_true rfl) dX10_areNone_2 ⟨Nat.le_of_ble_eq_true rfl, Nat.le_of_ble_eq_true rfl⟩ (fun rv_1 _ H locs hp hG => ?_)
  subst rv_1
  refine lv_if_eq (tgt := 19) S.1 S.2.1 dX10_areNone_5 (by decide) (fun c => absurd c (by decide)) (fun _ => ?_)
  refine lv_iload_n S.1 S.2.1 dX10_areNone_8 rfl (lv_at hl 2 rfl) ?_
  refine fx_cSi (As := [.int a2]) (rest := [.ref (N0 + 164)]) S hG (k454_X10_isTree g_a2_le_m1 (by omega)) (cwS 1 S.2.2.2.2 gX10_areNone_X10_isTree rfl rfl rfl (by decide +kernel) ⟨Nat.le_of_ble_eq_true rfl, Nat.le_of_ble_eq_true rfl⟩) rfl hl.1 rfl (Nat.le_of_ble_eq_true rfl) dX10_areNone_9 ⟨Nat.le_of_ble_eq_true rfl, Nat.le_of_ble_eq_true rfl⟩ (fun rv_2 _ H locs hp hG => ?_)
  subst rv_2
  refine lv_if_eq (tgt := 19) S.1 S.2.1 dX10_areNone_12 (by decide) (fun _ => ?_) (fun c => absurd (by decide) c)
  refine lv_iconst (v := 1) S.1 S.2.1 dX10_areNone_19 (by decide) ?_
  refine gx_put (C := RX10) (T := TX10) (N := 31) (ty := .int) (v := .int 1) (fs' := [.ref (N0 + 165), .int 1, .ref (N0 + 181), .int 0, .int 0, .int 0, .int (-1), .ref (ql 24), .ref (N0 + 182), .ref (N0 + 187), .ref (N0 + 208), .ref (N0 + 209), .ref (N0 + 210), .ref (N0 + 211), .ref (N0 + 212), .int 0, .ref (N0 + 213), .ref (N0 + 218), .ref (N0 + 223), .ref (N0 + 224), .ref (N0 + 225), .ref (N0 + 226), .ref (N0 + 227), .int 0, .int 0, .ref (N0 + 228), .null, .int (-1), .int 0, .int 0, .int 0]) S hG h0 i_X10_areNone_X10 rfl 1 (by decide) tyX10 tyX10_ok nmX10 (by decide +kernel) rfl (by decide +kernel) rfl rfl (Nat.le_of_ble_eq_true rfl) rfl dX10_areNone_20 (fun H locs hG => ?_)
  refine lv_aload_n S.1 S.2.1 dX10_areNone_23 rfl (lv_at hl 0 rfl) ?_
  refine gx_get (C := RX10) (T := TX10) (N := 31) S hG fu_s i_X10_areNone_X10 rfl 1 (by decide) (by decide +kernel) rfl dX10_areNone_24 ?_
  refine lv_if_le (tgt := 34) S.1 S.2.1 dX10_areNone_27 (by decide) (fun c => absurd c (by decide)) (fun _ => ?_)
  refine lv_iconst (v := 1) S.1 S.2.1 dX10_areNone_30 (by decide) ?_
  refine lv_goto (tgt := 35) S.1 S.2.1 dX10_areNone_31 (by decide) ?_
  exact fx_zret S hr (rfl) hlocks () hG (rfl) dX10_areNone_35
theorem k514_X10_copyTree {n : Nat} {a2 : Int32} (g_a2_le_m1 : a2 ≤ (-1)) (hn : N0 + 231 ≤ n) (h0 : F (N0 + 164) = some (.inr (12, [.ref (N0 + 165), .int 0, .ref (N0 + 181), .int 0, .int 0, .int 0, .int (-1), .ref (ql 24), .ref (N0 + 182), .ref (N0 + 187), .ref (N0 + 208), .ref (N0 + 209), .ref (N0 + 210), .ref (N0 + 211), .ref (N0 + 212), .int 0, .ref (N0 + 213), .ref (N0 + 218), .ref (N0 + 223), .ref (N0 + 224), .ref (N0 + 225), .ref (N0 + 226), .ref (N0 + 227), .int 0, .int 0, .ref (N0 + 228), .null, .int (-1), .int 0, .int 0, .int 0]))) : Met l yX10_copyTree wsX10_copyTree ({ frames := 3, cells := 0, slots := 0, locals := 64 }) (va_Pc [.ref (N0 + 164), .int 2, .int a2] (fP N0 D vwCl (fty cI cC cL cD cII cTr cTm cIt cB) (fen ql) F n)) (fQi N0 D vwCl (fty cI cC cL cD cII cTr cTm cIt cB) (fun (r : Int32) (_ : Unit) => r = 0) (fun _ => (fu F (N0 + 164) (.inr (12, [.ref (N0 + 165), .int 1, .ref (N0 + 181), .int 0, .int 0, .int 0, .int (-1), .ref (ql 24), .ref (N0 + 182), .ref (N0 + 187), .ref (N0 + 208), .ref (N0 + 209), .ref (N0 + 210), .ref (N0 + 211), .ref (N0 + 212), .int 0, .ref (N0 + 213), .ref (N0 + 218), .ref (N0 + 223), .ref (N0 + 224), .ref (N0 + 225), .ref (N0 + 226), .ref (N0 + 227), .int 0, .int 0, .ref (N0 + 228), .null, .int (-1), .int 0, .int 0, .int 0])))) (fun _ => n)) 0 0 (fA N0) := by
  refine fx_start 3 rfl rfl (Nat.le_of_ble_eq_true rfl) ?_ rfl
  intro p e s m below meth c ls S hr hlocks hin hG hl
  have hl : lv_has ls 3 [(0, .ref (N0 + 164)), (1, .int 2), (2, .int a2)] := hl
  have lt_h0 := hG.1.lt h0
  refine lv_aload_n S.1 S.2.1 dX10_copyTree_0 rfl (lv_at hl 0 rfl) ?_
  refine lv_iload_n S.1 S.2.1 dX10_copyTree_1 rfl (lv_at hl 1 rfl) ?_
  refine lv_iload_n S.1 S.2.1 dX10_copyTree_2 rfl (lv_at hl 2 rfl) ?_
  refine fx_cVi (As := [.int 2, .int a2]) (rest := []) S hG (k513_X10_areNone g_a2_le_m1 (by omega) h0) h0 rfl (cwV 2 S.2.2.2.2 gX10_copyTree_X10_areNone rfl rfl rfl (by decide +kernel) ⟨Nat.le_of_ble_eq_true rfl, Nat.le_of_ble_eq_true rfl⟩) rfl hl.1 rfl (Nat.le_of_ble_eq_true rfl) dX10_copyTree_3 ⟨Nat.le_of_ble_eq_true rfl, Nat.le_of_ble_eq_true rfl⟩ (fun rv_1 _ H locs hp hG => ?_)
  subst rv_1
  refine lv_if_eq (tgt := 11) S.1 S.2.1 dX10_copyTree_6 (by decide) (fun c => absurd c (by decide)) (fun _ => ?_)
  refine lv_iconst (v := 0) S.1 S.2.1 dX10_copyTree_9 (by decide) ?_
  exact fx_iret S hr hlocks () hG (rfl) dX10_copyTree_10
theorem k515_X5_copyFrom {n : Nat} (hn : N0 + 231 ≤ n) (h0 : F (N0 + 157) = some (.inr (7, [.ref (N0 + 158), .ref (N0 + 159), .ref (N0 + 160), .ref (N0 + 161), .ref (N0 + 162), .ref (N0 + 163), .int 1]))) (h1 : F (N0 + 143) = some (.inr (7, [.ref (N0 + 144), .ref (N0 + 145), .ref (N0 + 146), .ref (N0 + 147), .ref (N0 + 148), .ref (N0 + 149), .int 1]))) (h2 : F (N0 + 158) = some (.inl (cC, 20, .inl (upd (fun _ => 0) 0 97)))) (h3 : F (N0 + 144) = some (.inl (cC, 20, .inl (upd (fun _ => 0) 0 97)))) (h4 : F (N0 + 159) = some (.inl (cI, 20, .inl (fun _ => 0)))) (h5 : F (N0 + 145) = some (.inl (cI, 20, .inl (fun _ => 0)))) (h6 : F (N0 + 160) = some (.inl (cI, 20, .inl (fun _ => 0)))) (h7 : F (N0 + 146) = some (.inl (cI, 20, .inl (fun _ => 0)))) (h8 : F (N0 + 161) = some (.inl (cI, 20, .inl (upd (fun _ => 0) 0 (-1))))) (h9 : F (N0 + 147) = some (.inl (cI, 20, .inl (upd (fun _ => 0) 0 (-1))))) : Met l yX5_copyFrom wsX5_copyFrom ({ frames := 1, cells := 0, slots := 0, locals := 40 }) (va_Pc [.ref (N0 + 143), .ref (N0 + 157)] (fP N0 D vwCl (fty cI cC cL cD cII cTr cTm cIt cB) (fen ql) F n)) (fQv N0 D vwCl (fty cI cC cL cD cII cTr cTm cIt cB) (fun (_ : Unit) => True) (fun _ => (fu (fu (fu (fu (fu F (N0 + 144) (.inl (cC, 20, .inl (upd (fun _ => 0) 0 97)))) (N0 + 145) (.inl (cI, 20, .inl (fun _ => 0)))) (N0 + 146) (.inl (cI, 20, .inl (fun _ => 0)))) (N0 + 147) (.inl (cI, 20, .inl (upd (fun _ => 0) 0 (-1))))) (N0 + 143) (.inr (7, [.ref (N0 + 144), .ref (N0 + 145), .ref (N0 + 146), .ref (N0 + 147), .ref (N0 + 148), .ref (N0 + 149), .int 1])))) (fun _ => n)) 0 0 (fA N0) := by
  refine fx_start 2 rfl rfl (Nat.le_of_ble_eq_true rfl) ?_ rfl
  intro p e s m below meth c ls S hr hlocks hin hG hl
  have hl : lv_has ls 2 [(0, .ref (N0 + 143)), (1, .ref (N0 + 157))] := hl
  have lt_h0 := hG.1.lt h0
  have lt_h1 := hG.1.lt h1
  have lt_h2 := hG.1.lt h2
  have lt_h3 := hG.1.lt h3
  have lt_h4 := hG.1.lt h4
  have lt_h5 := hG.1.lt h5
  have lt_h6 := hG.1.lt h6
  have lt_h7 := hG.1.lt h7
  have lt_h8 := hG.1.lt h8
  have lt_h9 := hG.1.lt h9
  refine lv_aload_n S.1 S.2.1 dX5_copyFrom_0 rfl (lv_at hl 1 rfl) ?_
  refine gx_get (C := RX5) (T := TX5) (N := 7) S hG h0 i_X5_copyFrom_X5 rfl 0 (by decide) (by decide +kernel) rfl dX5_copyFrom_1 ?_
  refine lv_iconst (v := 0) S.1 S.2.1 dX5_copyFrom_4 (by decide) ?_
  refine lv_aload_n S.1 S.2.1 dX5_copyFrom_5 rfl (lv_at hl 0 rfl) ?_
  refine gx_get (C := RX5) (T := TX5) (N := 7) S hG h1 i_X5_copyFrom_X5 rfl 0 (by decide) (by decide +kernel) rfl dX5_copyFrom_6 ?_
  refine lv_iconst (v := 0) S.1 S.2.1 dX5_copyFrom_9 (by decide) ?_
  refine lv_bipush (v := 20) S.1 S.2.1 dX5_copyFrom_10 (by decide) ?_
  refine gx_copyi (f' := upd (fun _ => 0) 0 97) S hG hl.1 (by decide +kernel) (by decide +kernel) (by decide +kernel) (by decide +kernel) 1 h2 h3 rfl rfl (by decide) (by decide) (by decide) (by decide) (by decide) (fun i _ => (ffitU ffit0 (by decide)) _) (Nat.le_of_ble_eq_true rfl) (Nat.le_of_ble_eq_true rfl) dX5_copyFrom_12 fcpy_same (fun H locs hG => ?_)
  refine lv_aload_n S.1 S.2.1 dX5_copyFrom_15 rfl (lv_at hl 1 rfl) ?_
  refine gx_get (C := RX5) (T := TX5) (N := 7) S hG (fu_at (by omega) h0) i_X5_copyFrom_X5 rfl 1 (by decide) (by decide +kernel) rfl dX5_copyFrom_16 ?_
  refine lv_iconst (v := 0) S.1 S.2.1 dX5_copyFrom_19 (by decide) ?_
  refine lv_aload_n S.1 S.2.1 dX5_copyFrom_20 rfl (lv_at hl 0 rfl) ?_
  refine gx_get (C := RX5) (T := TX5) (N := 7) S hG (fu_at (by omega) h1) i_X5_copyFrom_X5 rfl 1 (by decide) (by decide +kernel) rfl dX5_copyFrom_21 ?_
  refine lv_iconst (v := 0) S.1 S.2.1 dX5_copyFrom_24 (by decide) ?_
  refine lv_bipush (v := 20) S.1 S.2.1 dX5_copyFrom_25 (by decide) ?_
  refine gx_copyi (f' := fun _ => 0) S hG hl.1 (by decide +kernel) (by decide +kernel) (by decide +kernel) (by decide +kernel) 0 (fu_at (by omega) h4) (fu_at (by omega) h5) rfl rfl (by decide) (by decide) (by decide) (by decide) (by decide) (fun i _ => rfl) (Nat.le_of_ble_eq_true rfl) (Nat.le_of_ble_eq_true rfl) dX5_copyFrom_27 fcpy_same (fun H locs hG => ?_)
  refine lv_aload_n S.1 S.2.1 dX5_copyFrom_30 rfl (lv_at hl 1 rfl) ?_
  refine gx_get (C := RX5) (T := TX5) (N := 7) S hG (fu_at (by omega) (fu_at (by omega) h0)) i_X5_copyFrom_X5 rfl 2 (by decide) (by decide +kernel) rfl dX5_copyFrom_31 ?_
  refine lv_iconst (v := 0) S.1 S.2.1 dX5_copyFrom_34 (by decide) ?_
  refine lv_aload_n S.1 S.2.1 dX5_copyFrom_35 rfl (lv_at hl 0 rfl) ?_
  refine gx_get (C := RX5) (T := TX5) (N := 7) S hG (fu_at (by omega) (fu_at (by omega) h1)) i_X5_copyFrom_X5 rfl 2 (by decide) (by decide +kernel) rfl dX5_copyFrom_36 ?_
  refine lv_iconst (v := 0) S.1 S.2.1 dX5_copyFrom_39 (by decide) ?_
  refine lv_bipush (v := 20) S.1 S.2.1 dX5_copyFrom_40 (by decide) ?_
  refine gx_copyi (f' := fun _ => 0) S hG hl.1 (by decide +kernel) (by decide +kernel) (by decide +kernel) (by decide +kernel) 0 (fu_at (by omega) (fu_at (by omega) h6)) (fu_at (by omega) (fu_at (by omega) h7)) rfl rfl (by decide) (by decide) (by decide) (by decide) (by decide) (fun i _ => rfl) (Nat.le_of_ble_eq_true rfl) (Nat.le_of_ble_eq_true rfl) dX5_copyFrom_42 fcpy_same (fun H locs hG => ?_)
  refine lv_aload_n S.1 S.2.1 dX5_copyFrom_45 rfl (lv_at hl 1 rfl) ?_
  refine gx_get (C := RX5) (T := TX5) (N := 7) S hG (fu_at (by omega) (fu_at (by omega) (fu_at (by omega) h0))) i_X5_copyFrom_X5 rfl 3 (by decide) (by decide +kernel) rfl dX5_copyFrom_46 ?_
  refine lv_iconst (v := 0) S.1 S.2.1 dX5_copyFrom_49 (by decide) ?_
  refine lv_aload_n S.1 S.2.1 dX5_copyFrom_50 rfl (lv_at hl 0 rfl) ?_
  refine gx_get (C := RX5) (T := TX5) (N := 7) S hG (fu_at (by omega) (fu_at (by omega) (fu_at (by omega) h1))) i_X5_copyFrom_X5 rfl 3 (by decide) (by decide +kernel) rfl dX5_copyFrom_51 ?_
  refine lv_iconst (v := 0) S.1 S.2.1 dX5_copyFrom_54 (by decide) ?_
  refine lv_bipush (v := 20) S.1 S.2.1 dX5_copyFrom_55 (by decide) ?_
  refine gx_copyi (f' := upd (fun _ => 0) 0 (-1)) S hG hl.1 (by decide +kernel) (by decide +kernel) (by decide +kernel) (by decide +kernel) 0 (fu_at (by omega) (fu_at (by omega) (fu_at (by omega) h8))) (fu_at (by omega) (fu_at (by omega) (fu_at (by omega) h9))) rfl rfl (by decide) (by decide) (by decide) (by decide) (by decide) (fun i _ => rfl) (Nat.le_of_ble_eq_true rfl) (Nat.le_of_ble_eq_true rfl) dX5_copyFrom_57 fcpy_same (fun H locs hG => ?_)
  refine lv_aload_n S.1 S.2.1 dX5_copyFrom_60 rfl (lv_at hl 0 rfl) ?_
  refine lv_aload_n S.1 S.2.1 dX5_copyFrom_61 rfl (lv_at hl 1 rfl) ?_
  refine gx_get (C := RX5) (T := TX5) (N := 7) S hG (fu_at (by omega) (fu_at (by omega) (fu_at (by omega) (fu_at (by omega) h0)))) i_X5_copyFrom_X5 rfl 6 (by decide) (by decide +kernel) rfl dX5_copyFrom_62 ?_
  refine gx_put (C := RX5) (T := TX5) (N := 7) (ty := .int) (v := .int 1) (fs' := [.ref (N0 + 144), .ref (N0 + 145), .ref (N0 + 146), .ref (N0 + 147), .ref (N0 + 148), .ref (N0 + 149), .int 1]) S hG (fu_at (by omega) (fu_at (by omega) (fu_at (by omega) (fu_at (by omega) h1)))) i_X5_copyFrom_X5 rfl 6 (by decide) tyX5 tyX5_ok nmX5 (by decide +kernel) rfl (by decide +kernel) rfl rfl (Nat.le_of_ble_eq_true rfl) rfl dX5_copyFrom_65 (fun H locs hG => ?_)
  exact fx_vret S hr hlocks () hG trivial dX5_copyFrom_68
theorem k516_X7_copyTree {n : Nat} (hn : N0 + 231 ≤ n) (h0 : F N0 = some (.inr (9, [.ref (N0 + 1), .ref (N0 + 2), .ref (N0 + 11), .ref (N0 + 13), .ref (N0 + 63), .ref (N0 + 65), .ref (N0 + 85), .int (-1), .int (-1), .int 32]))) (h1 : F (N0 + 1) = some (.inl (cTr, 3, .inr (.inr (.inr (.inr (va_up (va_up (va_up (fun _ => none) 0 (some (N0 + 143))) 1 (some (N0 + 150))) 2 (some (N0 + 157))))))))) (h2 : F (N0 + 157) = some (.inr (7, [.ref (N0 + 158), .ref (N0 + 159), .ref (N0 + 160), .ref (N0 + 161), .ref (N0 + 162), .ref (N0 + 163), .int 1]))) (h3 : F (N0 + 143) = some (.inr (7, [.ref (N0 + 144), .ref (N0 + 145), .ref (N0 + 146), .ref (N0 + 147), .ref (N0 + 148), .ref (N0 + 149), .int 1]))) (h4 : F (N0 + 158) = some (.inl (cC, 20, .inl (upd (fun _ => 0) 0 97)))) (h5 : F (N0 + 144) = some (.inl (cC, 20, .inl (upd (fun _ => 0) 0 97)))) (h6 : F (N0 + 159) = some (.inl (cI, 20, .inl (fun _ => 0)))) (h7 : F (N0 + 145) = some (.inl (cI, 20, .inl (fun _ => 0)))) (h8 : F (N0 + 160) = some (.inl (cI, 20, .inl (fun _ => 0)))) (h9 : F (N0 + 146) = some (.inl (cI, 20, .inl (fun _ => 0)))) (h10 : F (N0 + 161) = some (.inl (cI, 20, .inl (upd (fun _ => 0) 0 (-1))))) (h11 : F (N0 + 147) = some (.inl (cI, 20, .inl (upd (fun _ => 0) 0 (-1))))) : Met l yX7_copyTree wsX7_copyTree ({ frames := 2, cells := 0, slots := 0, locals := 61 }) (va_Pc [.ref N0, .int 2, .int 0] (fP N0 D vwCl (fty cI cC cL cD cII cTr cTm cIt cB) (fen ql) F n)) (fQi N0 D vwCl (fty cI cC cL cD cII cTr cTm cIt cB) (fun (r : Int32) (_ : Unit) => r = 1) (fun _ => (fu (fu (fu (fu (fu F (N0 + 144) (.inl (cC, 20, .inl (upd (fun _ => 0) 0 97)))) (N0 + 145) (.inl (cI, 20, .inl (fun _ => 0)))) (N0 + 146) (.inl (cI, 20, .inl (fun _ => 0)))) (N0 + 147) (.inl (cI, 20, .inl (upd (fun _ => 0) 0 (-1))))) (N0 + 143) (.inr (7, [.ref (N0 + 144), .ref (N0 + 145), .ref (N0 + 146), .ref (N0 + 147), .ref (N0 + 148), .ref (N0 + 149), .int 1])))) (fun _ => n)) 0 0 (fA N0) := by
  refine fx_start 5 rfl rfl (Nat.le_of_ble_eq_true rfl) ?_ rfl
  intro p e s m below meth c ls S hr hlocks hin hG hl
  have hl : lv_has ls 5 [(0, .ref N0), (1, .int 2), (2, .int 0)] := hl
  have lt_h0 := hG.1.lt h0
  have lt_h1 := hG.1.lt h1
  have lt_h2 := hG.1.lt h2
  have lt_h3 := hG.1.lt h3
  have lt_h4 := hG.1.lt h4
  have lt_h5 := hG.1.lt h5
  have lt_h6 := hG.1.lt h6
  have lt_h7 := hG.1.lt h7
  have lt_h8 := hG.1.lt h8
  have lt_h9 := hG.1.lt h9
  have lt_h10 := hG.1.lt h10
  have lt_h11 := hG.1.lt h11
  refine lv_aload_n S.1 S.2.1 dX7_copyTree_0 rfl (lv_at hl 0 rfl) ?_
  refine lv_iload_n S.1 S.2.1 dX7_copyTree_1 rfl (lv_at hl 1 rfl) ?_
  refine fx_cVr (As := [.int 2]) (rest := []) S hG (k48_X7_treeAt (by omega) h0 h1) h0 rfl (cwV 1 S.2.2.2.2 gX7_copyTree_X7_treeAt rfl rfl rfl (by decide +kernel) ⟨Nat.le_of_ble_eq_true rfl, Nat.le_of_ble_eq_true rfl⟩) rfl hl.1 rfl (Nat.le_of_ble_eq_true rfl) dX7_copyTree_2 ⟨Nat.le_of_ble_eq_true rfl, Nat.le_of_ble_eq_true rfl⟩ (fun rv_1 _ H locs hp hG => ?_)
  subst rv_1
  refine lv_astore_n (lv' := [(3, .ref (N0 + 157)), (0, .ref N0), (1, .int 2), (2, .int 0)]) S.1 S.2.1 dX7_copyTree_5 rfl hl (by decide) rfl (fun ls hl => ?_)
  refine lv_aload_n S.1 S.2.1 dX7_copyTree_6 rfl (lv_at hl 1 rfl) ?_
  refine lv_iload_n S.1 S.2.1 dX7_copyTree_7 rfl (lv_at hl 3 rfl) ?_
  refine fx_cVr (As := [.int 0]) (rest := []) S hG (k26_X7_treeAt (by omega) h0 h1) h0 rfl (cwV 1 S.2.2.2.2 gX7_copyTree_X7_treeAt rfl rfl rfl (by decide +kernel) ⟨Nat.le_of_ble_eq_true rfl, Nat.le_of_ble_eq_true rfl⟩) rfl hl.1 rfl (Nat.le_of_ble_eq_true rfl) dX7_copyTree_8 ⟨Nat.le_of_ble_eq_true rfl, Nat.le_of_ble_eq_true rfl⟩ (fun rv_2 _ H locs hp hG => ?_)
  subst rv_2
  refine lv_astore (lv' := [(4, .ref (N0 + 143)), (3, .ref (N0 + 157)), (0, .ref N0), (1, .int 2), (2, .int 0)]) S.1 S.2.1 dX7_copyTree_11 hl (by decide) rfl (fun ls hl => ?_)
  refine lv_aload S.1 S.2.1 dX7_copyTree_13 (lv_at hl 0 rfl) ?_
  refine lv_aload_n S.1 S.2.1 dX7_copyTree_15 rfl (lv_at hl 1 rfl) ?_
  refine fx_cVv (As := [.ref (N0 + 157)]) (rest := []) S hG (k515_X5_copyFrom (by omega) h2 h3 h4 h5 h6 h7 h8 h9 h10 h11) h3 rfl (cwV 1 S.2.2.2.2 gX7_copyTree_X5_copyFrom rfl rfl rfl (by decide +kernel) ⟨Nat.le_of_ble_eq_true rfl, Nat.le_of_ble_eq_true rfl⟩) rfl hl.1 rfl (Nat.le_of_ble_eq_true rfl) dX7_copyTree_16 ⟨Nat.le_of_ble_eq_true rfl, Nat.le_of_ble_eq_true rfl⟩ (fun _ H locs hp hG => ?_)
  refine lv_aload S.1 S.2.1 dX7_copyTree_19 (lv_at hl 0 rfl) ?_
  refine gx_get (C := RX5) (T := TX5) (N := 7) S hG fu_s i_X7_copyTree_X5 rfl 6 (by decide) (by decide +kernel) rfl dX7_copyTree_21 ?_
  exact fx_iret S hr hlocks () hG (rfl) dX7_copyTree_24
theorem k517_L_copyTree {n : Nat} (hn : N0 + 231 ≤ n) (h0 : F N0 = some (.inr (9, [.ref (N0 + 1), .ref (N0 + 2), .ref (N0 + 11), .ref (N0 + 13), .ref (N0 + 63), .ref (N0 + 65), .ref (N0 + 85), .int (-1), .int (-1), .int 32]))) (h1 : F (N0 + 1) = some (.inl (cTr, 3, .inr (.inr (.inr (.inr (va_up (va_up (va_up (fun _ => none) 0 (some (N0 + 143))) 1 (some (N0 + 150))) 2 (some (N0 + 157))))))))) (h2 : F (N0 + 157) = some (.inr (7, [.ref (N0 + 158), .ref (N0 + 159), .ref (N0 + 160), .ref (N0 + 161), .ref (N0 + 162), .ref (N0 + 163), .int 1]))) (h3 : F (N0 + 143) = some (.inr (7, [.ref (N0 + 144), .ref (N0 + 145), .ref (N0 + 146), .ref (N0 + 147), .ref (N0 + 148), .ref (N0 + 149), .int 1]))) (h4 : F (N0 + 158) = some (.inl (cC, 20, .inl (upd (fun _ => 0) 0 97)))) (h5 : F (N0 + 144) = some (.inl (cC, 20, .inl (upd (fun _ => 0) 0 97)))) (h6 : F (N0 + 159) = some (.inl (cI, 20, .inl (fun _ => 0)))) (h7 : F (N0 + 145) = some (.inl (cI, 20, .inl (fun _ => 0)))) (h8 : F (N0 + 160) = some (.inl (cI, 20, .inl (fun _ => 0)))) (h9 : F (N0 + 146) = some (.inl (cI, 20, .inl (fun _ => 0)))) (h10 : F (N0 + 161) = some (.inl (cI, 20, .inl (upd (fun _ => 0) 0 (-1))))) (h11 : F (N0 + 147) = some (.inl (cI, 20, .inl (upd (fun _ => 0) 0 (-1))))) (h12 : F (N0 + 229) = some (.inl (cL, 1, .inr (.inl (fun _ => 0))))) : Met l yL_copyTree wsL_copyTree ({ frames := 3, cells := 0, slots := 0, locals := 85 }) (va_Pc [.ref N0, .int 2, .int 0, .ref (N0 + 229)] (fP N0 D vwCl (fty cI cC cL cD cII cTr cTm cIt cB) (fen ql) F n)) (fQi N0 D vwCl (fty cI cC cL cD cII cTr cTm cIt cB) (fun (r : Int32) (_ : Unit) => r = 0) (fun _ => (fu (fu (fu (fu (fu (fu F (N0 + 144) (.inl (cC, 20, .inl (upd (fun _ => 0) 0 97)))) (N0 + 145) (.inl (cI, 20, .inl (fun _ => 0)))) (N0 + 146) (.inl (cI, 20, .inl (fun _ => 0)))) (N0 + 147) (.inl (cI, 20, .inl (upd (fun _ => 0) 0 (-1))))) (N0 + 143) (.inr (7, [.ref (N0 + 144), .ref (N0 + 145), .ref (N0 + 146), .ref (N0 + 147), .ref (N0 + 148), .ref (N0 + 149), .int 1]))) (N0 + 229) (.inl (cL, 1, .inr (.inl (vp_updL (fun _ => 0) 0 1)))))) (fun _ => n)) 0 0 (fA N0) := by
  refine fx_startW (hh := [(0, 10, 13, 19)]) 5 rfl rfl (Nat.le_of_ble_eq_true rfl) ?_ rfl
  intro p e s m below meth c ls S htab hr hlocks hG hl
  have hl : lv_has ls 5 [(0, .ref N0), (1, .int 2), (2, .int 0), (3, .ref (N0 + 229))] := hl
  have lt_h0 := hG.1.lt h0
  have lt_h1 := hG.1.lt h1
  have lt_h2 := hG.1.lt h2
  have lt_h3 := hG.1.lt h3
  have lt_h4 := hG.1.lt h4
  have lt_h5 := hG.1.lt h5
  have lt_h6 := hG.1.lt h6
  have lt_h7 := hG.1.lt h7
  have lt_h8 := hG.1.lt h8
  have lt_h9 := hG.1.lt h9
  have lt_h10 := hG.1.lt h10
  have lt_h11 := hG.1.lt h11
  have lt_h12 := hG.1.lt h12
  refine lv_aload_n S.1 S.2.1 dL_copyTree_0 rfl (lv_at hl 3 rfl) ?_
  refine lv_iconst (v := 0) S.1 S.2.1 dL_copyTree_1 (by decide) ?_
  refine lv_aload_n S.1 S.2.1 dL_copyTree_2 rfl (lv_at hl 0 rfl) ?_
  refine lv_iload_n S.1 S.2.1 dL_copyTree_3 rfl (lv_at hl 1 rfl) ?_
  refine lv_iload_n S.1 S.2.1 dL_copyTree_4 rfl (lv_at hl 2 rfl) ?_
  refine fx_cVi (As := [.int 2, .int 0]) (rest := [.int 0, .ref (N0 + 229)]) S hG (k516_X7_copyTree (by omega) h0 h1 h2 h3 h4 h5 h6 h7 h8 h9 h10 h11) h0 rfl (cwV 2 S.2.2.2.2 gL_copyTree_X7_copyTree rfl rfl rfl (by decide +kernel) ⟨Nat.le_of_ble_eq_true rfl, Nat.le_of_ble_eq_true rfl⟩) rfl hl.1 rfl (Nat.le_of_ble_eq_true rfl) dL_copyTree_5 ⟨Nat.le_of_ble_eq_true rfl, Nat.le_of_ble_eq_true rfl⟩ (fun rv_1 _ H locs hp hG => ?_)
  subst rv_1
  refine lv_i2l (v := 1) S.1 S.2.1 dL_copyTree_8 (by decide) ?_
  refine gx_last (f' := vp_updL (fun _ => 0) 0 1) S hG 2 (fu_at (by omega) (fu_at (by omega) (fu_at (by omega) (fu_at (by omega) (fu_at (by omega) h12))))) rfl (fin_l (by decide)) dL_copyTree_9 rfl (fun H locs hG => ?_)
  refine lv_goto (tgt := 17) S.1 S.2.1 dL_copyTree_10 (by decide) ?_
  refine lv_iconst (v := 0) S.1 S.2.1 dL_copyTree_17 (by decide) ?_
  exact fx_iret S hr hlocks () hG (rfl) dL_copyTree_18
theorem k518_X10_areNone {n : Nat} (hn : N0 + 231 ≤ n) (h0 : F (N0 + 164) = some (.inr (12, [.ref (N0 + 165), .int 0, .ref (N0 + 181), .int 0, .int 0, .int 0, .int (-1), .ref (ql 24), .ref (N0 + 182), .ref (N0 + 187), .ref (N0 + 208), .ref (N0 + 209), .ref (N0 + 210), .ref (N0 + 211), .ref (N0 + 212), .int 0, .ref (N0 + 213), .ref (N0 + 218), .ref (N0 + 223), .ref (N0 + 224), .ref (N0 + 225), .ref (N0 + 226), .ref (N0 + 227), .int 0, .int 0, .ref (N0 + 228), .null, .int (-1), .int 0, .int 0, .int 0]))) : Met l yX10_areNone wsX10_areNone ({ frames := 2, cells := 0, slots := 0, locals := 42 }) (va_Pc [.ref (N0 + 164), .int 2, .int 0] (fP N0 D vwCl (fty cI cC cL cD cII cTr cTm cIt cB) (fen ql) F n)) (fQi N0 D vwCl (fty cI cC cL cD cII cTr cTm cIt cB) (fun (r : Int32) (_ : Unit) => r = 0) (fun _ => (fu F (N0 + 164) (.inr (12, [.ref (N0 + 165), .int 0, .ref (N0 + 181), .int 0, .int 0, .int 0, .int (-1), .ref (ql 24), .ref (N0 + 182), .ref (N0 + 187), .ref (N0 + 208), .ref (N0 + 209), .ref (N0 + 210), .ref (N0 + 211), .ref (N0 + 212), .int 0, .ref (N0 + 213), .ref (N0 + 218), .ref (N0 + 223), .ref (N0 + 224), .ref (N0 + 225), .ref (N0 + 226), .ref (N0 + 227), .int 0, .int 0, .ref (N0 + 228), .null, .int (-1), .int 0, .int 0, .int 0])))) (fun _ => n)) 0 0 (fA N0) := by
  refine fx_start 3 rfl rfl (Nat.le_of_ble_eq_true rfl) ?_ rfl
  intro p e s m below meth c ls S hr hlocks hin hG hl
  have hl : lv_has ls 3 [(0, .ref (N0 + 164)), (1, .int 2), (2, .int 0)] := hl
  have lt_h0 := hG.1.lt h0
  refine lv_aload_n S.1 S.2.1 dX10_areNone_0 rfl (lv_at hl 0 rfl) ?_
  refine lv_iload_n S.1 S.2.1 dX10_areNone_1 rfl (lv_at hl 1 rfl) ?_
  refine fx_cSi (As := [.int 2]) (rest := [.ref (N0 + 164)]) S hG (k52_X10_isTree (by omega)) (cwS 1 S.2.2.2.2 gX10_areNone_X10_isTree rfl rfl rfl (by decide +kernel) ⟨Nat.le_of_ble_eq_true rfl, Nat.le_of_ble_eq_true rfl⟩) rfl hl.1 rfl (Nat.le_of_ble_eq_true rfl) dX10_areNone_2 ⟨Nat.le_of_ble_eq_true rfl, Nat.le_of_ble_eq_true rfl⟩ (fun rv_1 _ H locs hp hG => ?_)
  subst rv_1
  refine lv_if_eq (tgt := 19) S.1 S.2.1 dX10_areNone_5 (by decide) (fun c => absurd c (by decide)) (fun _ => ?_)
  refine lv_iload_n S.1 S.2.1 dX10_areNone_8 rfl (lv_at hl 2 rfl) ?_
  refine fx_cSi (As := [.int 0]) (rest := [.ref (N0 + 164)]) S hG (k34_X10_isTree (by omega)) (cwS 1 S.2.2.2.2 gX10_areNone_X10_isTree rfl rfl rfl (by decide +kernel) ⟨Nat.le_of_ble_eq_true rfl, Nat.le_of_ble_eq_true rfl⟩) rfl hl.1 rfl (Nat.le_of_ble_eq_true rfl) dX10_areNone_9 ⟨Nat.le_of_ble_eq_true rfl, Nat.le_of_ble_eq_true rfl⟩ (fun rv_2 _ H locs hp hG => ?_)
  subst rv_2
  refine lv_if_eq (tgt := 19) S.1 S.2.1 dX10_areNone_12 (by decide) (fun c => absurd c (by decide)) (fun _ => ?_)
  refine lv_iconst (v := 0) S.1 S.2.1 dX10_areNone_15 (by decide) ?_
  refine lv_goto (tgt := 20) S.1 S.2.1 dX10_areNone_16 (by decide) ?_
  refine gx_put (C := RX10) (T := TX10) (N := 31) (ty := .int) (v := .int 0) (fs' := [.ref (N0 + 165), .int 0, .ref (N0 + 181), .int 0, .int 0, .int 0, .int (-1), .ref (ql 24), .ref (N0 + 182), .ref (N0 + 187), .ref (N0 + 208), .ref (N0 + 209), .ref (N0 + 210), .ref (N0 + 211), .ref (N0 + 212), .int 0, .ref (N0 + 213), .ref (N0 + 218), .ref (N0 + 223), .ref (N0 + 224), .ref (N0 + 225), .ref (N0 + 226), .ref (N0 + 227), .int 0, .int 0, .ref (N0 + 228), .null, .int (-1), .int 0, .int 0, .int 0]) S hG h0 i_X10_areNone_X10 rfl 1 (by decide) tyX10 tyX10_ok nmX10 (by decide +kernel) rfl (by decide +kernel) rfl rfl (Nat.le_of_ble_eq_true rfl) rfl dX10_areNone_20 (fun H locs hG => ?_)
  refine lv_aload_n S.1 S.2.1 dX10_areNone_23 rfl (lv_at hl 0 rfl) ?_
  refine gx_get (C := RX10) (T := TX10) (N := 31) S hG fu_s i_X10_areNone_X10 rfl 1 (by decide) (by decide +kernel) rfl dX10_areNone_24 ?_
  refine lv_if_le (tgt := 34) S.1 S.2.1 dX10_areNone_27 (by decide) (fun _ => ?_) (fun c => absurd (by decide) c)
  refine lv_iconst (v := 0) S.1 S.2.1 dX10_areNone_34 (by decide) ?_
  exact fx_zret S hr (rfl) hlocks () hG (rfl) dX10_areNone_35
theorem k519_X9_copies {n : Nat} (hn : N0 + 231 ≤ n) (h0 : F (N0 + 176) = some (.inr (11, [.ref (N0 + 177), .ref (N0 + 178), .ref (N0 + 179), .ref (N0 + 180), .int 1]))) (h1 : F (N0 + 166) = some (.inr (11, [.ref (N0 + 167), .ref (N0 + 168), .ref (N0 + 169), .ref (N0 + 170), .int 1]))) (h2 : F (N0 + 177) = some (.inl (cI, 20, .inl (upd (fun _ => 0) 0 97)))) (h3 : F (N0 + 178) = some (.inl (cI, 20, .inl (upd (fun _ => 0) 0 0)))) (h4 : F (N0 + 179) = some (.inl (cI, 20, .inl (upd (fun _ => 0) 0 0)))) (h5 : F (N0 + 180) = some (.inl (cI, 20, .inl (upd (fun _ => 0) 0 (-1))))) (h6 : F (N0 + 167) = some (.inl (cI, 20, .inl (upd (fun _ => 0) 0 97)))) (h7 : F (N0 + 168) = some (.inl (cI, 20, .inl (upd (fun _ => 0) 0 0)))) (h8 : F (N0 + 169) = some (.inl (cI, 20, .inl (upd (fun _ => 0) 0 0)))) (h9 : F (N0 + 170) = some (.inl (cI, 20, .inl (upd (fun _ => 0) 0 (-1))))) : Met l yX9_copies wsX9_copies ({ frames := 1, cells := 0, slots := 0, locals := 25 }) (va_Pc [.ref (N0 + 166), .ref (N0 + 176)] (fP N0 D vwCl (fty cI cC cL cD cII cTr cTm cIt cB) (fen ql) F n)) (fQv N0 D vwCl (fty cI cC cL cD cII cTr cTm cIt cB) (fun (_ : Unit) => True) (fun _ => (fu (fu (fu (fu (fu F (N0 + 166) (.inr (11, [.ref (N0 + 167), .ref (N0 + 168), .ref (N0 + 169), .ref (N0 + 170), .int 1]))) (N0 + 167) (.inl (cI, 20, .inl (upd (upd (fun _ => 0) 0 97) 0 97)))) (N0 + 168) (.inl (cI, 20, .inl (upd (upd (fun _ => 0) 0 0) 0 0)))) (N0 + 169) (.inl (cI, 20, .inl (upd (upd (fun _ => 0) 0 0) 0 0)))) (N0 + 170) (.inl (cI, 20, .inl (upd (upd (fun _ => 0) 0 (-1)) 0 (-1)))))) (fun _ => n)) 0 0 (fA N0) := by
  refine fx_start 3 rfl rfl (Nat.le_of_ble_eq_true rfl) ?_ rfl
  intro p e s m below meth c ls S hr hlocks hin hG hl
  have hl : lv_has ls 3 [(0, .ref (N0 + 166)), (1, .ref (N0 + 176))] := hl
  have lt_h0 := hG.1.lt h0
  have lt_h1 := hG.1.lt h1
  have lt_h2 := hG.1.lt h2
  have lt_h3 := hG.1.lt h3
  have lt_h4 := hG.1.lt h4
  have lt_h5 := hG.1.lt h5
  have lt_h6 := hG.1.lt h6
  have lt_h7 := hG.1.lt h7
  have lt_h8 := hG.1.lt h8
  have lt_h9 := hG.1.lt h9
  refine lv_aload_n S.1 S.2.1 dX9_copies_0 rfl (lv_at hl 0 rfl) ?_
  refine lv_aload_n S.1 S.2.1 dX9_copies_1 rfl (lv_at hl 1 rfl) ?_
  refine gx_get (C := RX9) (T := TX9) (N := 5) S hG h0 i_X9_copies_X9 rfl 4 (by decide) (by decide +kernel) rfl dX9_copies_2 ?_
  refine gx_put (C := RX9) (T := TX9) (N := 5) (ty := .int) (v := .int 1) (fs' := [.ref (N0 + 167), .ref (N0 + 168), .ref (N0 + 169), .ref (N0 + 170), .int 1]) S hG h1 i_X9_copies_X9 rfl 4 (by decide) tyX9 tyX9_ok nmX9 (by decide +kernel) rfl (by decide +kernel) rfl rfl (Nat.le_of_ble_eq_true rfl) rfl dX9_copies_5 (fun H locs hG => ?_)
  refine lv_iconst (v := 0) S.1 S.2.1 dX9_copies_8 (by decide) ?_
  refine lv_istore_n (lv' := [(2, .int 0), (0, .ref (N0 + 166)), (1, .ref (N0 + 176))]) S.1 S.2.1 dX9_copies_9 rfl hl (by decide) rfl (fun ls hl => ?_)
  refine lv_iload_n S.1 S.2.1 dX9_copies_10 rfl (lv_at hl 0 rfl) ?_
  refine lv_aload_n S.1 S.2.1 dX9_copies_11 rfl (lv_at hl 1 rfl) ?_
  refine gx_get (C := RX9) (T := TX9) (N := 5) S hG fu_s i_X9_copies_X9 rfl 4 (by decide) (by decide +kernel) rfl dX9_copies_12 ?_
  refine lv_icmp_ge (tgt := 53) S.1 S.2.1 dX9_copies_15 (by decide) (fun c => absurd c (by decide)) (fun _ => ?_)
  refine lv_aload_n S.1 S.2.1 dX9_copies_18 rfl (lv_at hl 1 rfl) ?_
  refine lv_iload_n S.1 S.2.1 dX9_copies_19 rfl (lv_at hl 0 rfl) ?_
  refine lv_aload_n S.1 S.2.1 dX9_copies_20 rfl (lv_at hl 2 rfl) ?_
  refine gx_get (C := RX9) (T := TX9) (N := 5) S hG (fu_at (by omega) h0) i_X9_copies_X9 rfl 0 (by decide) (by decide +kernel) rfl dX9_copies_21 ?_
  refine lv_iload_n S.1 S.2.1 dX9_copies_24 rfl (lv_at hl 0 rfl) ?_
  refine gx_iald (v := 97) S hG 0 (fu_at (by omega) h2) rfl (fin_l (by decide)) (by decide) dX9_copies_25 ?_
  refine lv_aload_n S.1 S.2.1 dX9_copies_26 rfl (lv_at hl 2 rfl) ?_
  refine gx_get (C := RX9) (T := TX9) (N := 5) S hG (fu_at (by omega) h0) i_X9_copies_X9 rfl 1 (by decide) (by decide +kernel) rfl dX9_copies_27 ?_
  refine lv_iload_n S.1 S.2.1 dX9_copies_30 rfl (lv_at hl 0 rfl) ?_
  refine gx_iald (v := 0) S hG 0 (fu_at (by omega) h3) rfl (fin_l (by decide)) (by decide) dX9_copies_31 ?_
  refine lv_aload_n S.1 S.2.1 dX9_copies_32 rfl (lv_at hl 2 rfl) ?_
  refine gx_get (C := RX9) (T := TX9) (N := 5) S hG (fu_at (by omega) h0) i_X9_copies_X9 rfl 2 (by decide) (by decide +kernel) rfl dX9_copies_33 ?_
  refine lv_iload_n S.1 S.2.1 dX9_copies_36 rfl (lv_at hl 0 rfl) ?_
  refine gx_iald (v := 0) S hG 0 (fu_at (by omega) h4) rfl (fin_l (by decide)) (by decide) dX9_copies_37 ?_
  refine lv_aload_n S.1 S.2.1 dX9_copies_38 rfl (lv_at hl 2 rfl) ?_
  refine gx_get (C := RX9) (T := TX9) (N := 5) S hG (fu_at (by omega) h0) i_X9_copies_X9 rfl 3 (by decide) (by decide +kernel) rfl dX9_copies_39 ?_
  refine lv_iload_n S.1 S.2.1 dX9_copies_42 rfl (lv_at hl 0 rfl) ?_
  refine gx_iald (v := (-1)) S hG 0 (fu_at (by omega) h5) rfl (fin_l (by decide)) (by decide) dX9_copies_43 ?_
  refine fx_cVv (As := [.int 0, .int 97, .int 0, .int 0, .int (-1)]) (rest := []) S hG (k461_X9_sets (by omega) fu_s (fu_at (by omega) h6) (fu_at (by omega) h7) (fu_at (by omega) h8) (fu_at (by omega) h9)) fu_s rfl (cwV 5 S.2.2.2.2 gX9_copies_X9_sets rfl rfl rfl (by decide +kernel) ⟨Nat.le_of_ble_eq_true rfl, Nat.le_of_ble_eq_true rfl⟩) rfl hl.1 rfl (Nat.le_of_ble_eq_true rfl) dX9_copies_44 ⟨Nat.le_of_ble_eq_true rfl, Nat.le_of_ble_eq_true rfl⟩ (fun _ H locs hp hG => ?_)
  refine lv_iinc (v := 1) (lv' := [(2, .int 1), (0, .ref (N0 + 166)), (1, .ref (N0 + 176))]) S.1 S.2.1 dX9_copies_47 hl (k := 0) rfl (by decide) (by decide) rfl (fun ls hl => ?_)
  refine lv_goto (tgt := 10) S.1 S.2.1 dX9_copies_50 (by decide) ?_
  refine lv_iload_n S.1 S.2.1 dX9_copies_10 rfl (lv_at hl 0 rfl) ?_
  refine lv_aload_n S.1 S.2.1 dX9_copies_11 rfl (lv_at hl 1 rfl) ?_
  refine gx_get (C := RX9) (T := TX9) (N := 5) S hG (fu_at (by omega) (fu_at (by omega) (fu_at (by omega) (fu_at (by omega) fu_s)))) i_X9_copies_X9 rfl 4 (by decide) (by decide +kernel) rfl dX9_copies_12 ?_
  refine lv_icmp_ge (tgt := 53) S.1 S.2.1 dX9_copies_15 (by decide) (fun _ => ?_) (fun c => absurd (by decide) c)
  exact fx_vret S hr hlocks () hG trivial dX9_copies_53
theorem k520_X10_copyTree {n : Nat} (hn : N0 + 231 ≤ n) (h0 : F (N0 + 164) = some (.inr (12, [.ref (N0 + 165), .int 0, .ref (N0 + 181), .int 0, .int 0, .int 0, .int (-1), .ref (ql 24), .ref (N0 + 182), .ref (N0 + 187), .ref (N0 + 208), .ref (N0 + 209), .ref (N0 + 210), .ref (N0 + 211), .ref (N0 + 212), .int 0, .ref (N0 + 213), .ref (N0 + 218), .ref (N0 + 223), .ref (N0 + 224), .ref (N0 + 225), .ref (N0 + 226), .ref (N0 + 227), .int 0, .int 0, .ref (N0 + 228), .null, .int (-1), .int 0, .int 0, .int 0]))) (h1 : F (N0 + 165) = some (.inl (cTm, 3, .inr (.inr (.inr (.inr (va_up (va_up (va_up (fun _ => none) 0 (some (N0 + 166))) 1 (some (N0 + 171))) 2 (some (N0 + 176))))))))) (h2 : F (N0 + 176) = some (.inr (11, [.ref (N0 + 177), .ref (N0 + 178), .ref (N0 + 179), .ref (N0 + 180), .int 1]))) (h3 : F (N0 + 166) = some (.inr (11, [.ref (N0 + 167), .ref (N0 + 168), .ref (N0 + 169), .ref (N0 + 170), .int 1]))) (h4 : F (N0 + 177) = some (.inl (cI, 20, .inl (upd (fun _ => 0) 0 97)))) (h5 : F (N0 + 178) = some (.inl (cI, 20, .inl (upd (fun _ => 0) 0 0)))) (h6 : F (N0 + 179) = some (.inl (cI, 20, .inl (upd (fun _ => 0) 0 0)))) (h7 : F (N0 + 180) = some (.inl (cI, 20, .inl (upd (fun _ => 0) 0 (-1))))) (h8 : F (N0 + 167) = some (.inl (cI, 20, .inl (upd (fun _ => 0) 0 97)))) (h9 : F (N0 + 168) = some (.inl (cI, 20, .inl (upd (fun _ => 0) 0 0)))) (h10 : F (N0 + 169) = some (.inl (cI, 20, .inl (upd (fun _ => 0) 0 0)))) (h11 : F (N0 + 170) = some (.inl (cI, 20, .inl (upd (fun _ => 0) 0 (-1))))) : Met l yX10_copyTree wsX10_copyTree ({ frames := 3, cells := 0, slots := 0, locals := 64 }) (va_Pc [.ref (N0 + 164), .int 2, .int 0] (fP N0 D vwCl (fty cI cC cL cD cII cTr cTm cIt cB) (fen ql) F n)) (fQi N0 D vwCl (fty cI cC cL cD cII cTr cTm cIt cB) (fun (r : Int32) (_ : Unit) => r = 1) (fun _ => (fu (fu (fu (fu (fu (fu F (N0 + 164) (.inr (12, [.ref (N0 + 165), .int 0, .ref (N0 + 181), .int 0, .int 0, .int 0, .int (-1), .ref (ql 24), .ref (N0 + 182), .ref (N0 + 187), .ref (N0 + 208), .ref (N0 + 209), .ref (N0 + 210), .ref (N0 + 211), .ref (N0 + 212), .int 0, .ref (N0 + 213), .ref (N0 + 218), .ref (N0 + 223), .ref (N0 + 224), .ref (N0 + 225), .ref (N0 + 226), .ref (N0 + 227), .int 0, .int 0, .ref (N0 + 228), .null, .int (-1), .int 0, .int 0, .int 0]))) (N0 + 166) (.inr (11, [.ref (N0 + 167), .ref (N0 + 168), .ref (N0 + 169), .ref (N0 + 170), .int 1]))) (N0 + 167) (.inl (cI, 20, .inl (upd (upd (fun _ => 0) 0 97) 0 97)))) (N0 + 168) (.inl (cI, 20, .inl (upd (upd (fun _ => 0) 0 0) 0 0)))) (N0 + 169) (.inl (cI, 20, .inl (upd (upd (fun _ => 0) 0 0) 0 0)))) (N0 + 170) (.inl (cI, 20, .inl (upd (upd (fun _ => 0) 0 (-1)) 0 (-1)))))) (fun _ => n)) 0 0 (fA N0) := by
  refine fx_start 3 rfl rfl (Nat.le_of_ble_eq_true rfl) ?_ rfl
  intro p e s m below meth c ls S hr hlocks hin hG hl
  have hl : lv_has ls 3 [(0, .ref (N0 + 164)), (1, .int 2), (2, .int 0)] := hl
  have lt_h0 := hG.1.lt h0
  have lt_h1 := hG.1.lt h1
  have lt_h2 := hG.1.lt h2
  have lt_h3 := hG.1.lt h3
  have lt_h4 := hG.1.lt h4
  have lt_h5 := hG.1.lt h5
  have lt_h6 := hG.1.lt h6
  have lt_h7 := hG.1.lt h7
  have lt_h8 := hG.1.lt h8
  have lt_h9 := hG.1.lt h9
  have lt_h10 := hG.1.lt h10
  have lt_h11 := hG.1.lt h11
  refine lv_aload_n S.1 S.2.1 dX10_copyTree_0 rfl (lv_at hl 0 rfl) ?_
  refine lv_iload_n S.1 S.2.1 dX10_copyTree_1 rfl (lv_at hl 1 rfl) ?_
  refine lv_iload_n S.1 S.2.1 dX10_copyTree_2 rfl (lv_at hl 2 rfl) ?_
  refine fx_cVi (As := [.int 2, .int 0]) (rest := []) S hG (k518_X10_areNone (by omega) h0) h0 rfl (cwV 2 S.2.2.2.2 gX10_copyTree_X10_areNone rfl rfl rfl (by decide +kernel) ⟨Nat.le_of_ble_eq_true rfl, Nat.le_of_ble_eq_true rfl⟩) rfl hl.1 rfl (Nat.le_of_ble_eq_true rfl) dX10_copyTree_3 ⟨Nat.le_of_ble_eq_true rfl, Nat.le_of_ble_eq_true rfl⟩ (fun rv_1 _ H locs hp hG => ?_)
  subst rv_1
  refine lv_if_eq (tgt := 11) S.1 S.2.1 dX10_copyTree_6 (by decide) (fun _ => ?_) (fun c => absurd (by decide) c)
  refine lv_aload_n S.1 S.2.1 dX10_copyTree_11 rfl (lv_at hl 0 rfl) ?_
  refine gx_get (C := RX10) (T := TX10) (N := 31) S hG fu_s i_X10_copyTree_X10 rfl 0 (by decide) (by decide +kernel) rfl dX10_copyTree_12 ?_
  refine lv_iload_n S.1 S.2.1 dX10_copyTree_15 rfl (lv_at hl 2 rfl) ?_
  refine gx_aldq (x := (N0 + 166)) S hG 6 rfl (fu_at (by omega) h1) rfl (fin_l (by decide)) (rfl) dX10_copyTree_16 ?_
  refine lv_aload_n S.1 S.2.1 dX10_copyTree_17 rfl (lv_at hl 0 rfl) ?_
  refine gx_get (C := RX10) (T := TX10) (N := 31) S hG fu_s i_X10_copyTree_X10 rfl 0 (by decide) (by decide +kernel) rfl dX10_copyTree_18 ?_
  refine lv_iload_n S.1 S.2.1 dX10_copyTree_21 rfl (lv_at hl 1 rfl) ?_
  refine gx_aldq (x := (N0 + 176)) S hG 6 rfl (fu_at (by omega) h1) rfl (fin_l (by decide)) (rfl) dX10_copyTree_22 ?_
  refine fx_cVNv (host := "TreeDifferModel") (As := [.ref (N0 + 176)]) (rest := []) S hG (k519_X9_copies (by omega) (fu_at (by omega) h2) (fu_at (by omega) h3) (fu_at (by omega) h4) (fu_at (by omega) h5) (fu_at (by omega) h6) (fu_at (by omega) h7) (fu_at (by omega) h8) (fu_at (by omega) h9) (fu_at (by omega) h10) (fu_at (by omega) h11)) (fu_at (by omega) h3) rfl ⟨(va_cnB 1 S.2.2.2.2 gX10_copyTree_X9_copies_n157 rfl rfl rfl (hG.nest (show _ ∈ fen2.2.2.1 from by decide)) (S.2.2.2.2 (.initialized RX9) (by decide +kernel)) (by decide +kernel) ⟨Nat.le_of_ble_eq_true rfl, Nat.le_of_ble_eq_true rfl⟩), S.2.2.2.2 (.instanceMethod yX9_copies) (by decide +kernel), S.2.2.2.2 (.selects RX9 yX9_copies yX9_copies) (by decide +kernel)⟩ rfl hl.1 rfl (Nat.le_of_ble_eq_true rfl) dX10_copyTree_23 ⟨Nat.le_of_ble_eq_true rfl, Nat.le_of_ble_eq_true rfl⟩ (fun _ H locs hp hG => ?_)
  refine lv_aload_n S.1 S.2.1 dX10_copyTree_26 rfl (lv_at hl 0 rfl) ?_
  refine gx_get (C := RX10) (T := TX10) (N := 31) S hG (fu_at (by omega) (fu_at (by omega) (fu_at (by omega) (fu_at (by omega) (fu_at (by omega) fu_s))))) i_X10_copyTree_X10 rfl 0 (by decide) (by decide +kernel) rfl dX10_copyTree_27 ?_
  refine lv_iload_n S.1 S.2.1 dX10_copyTree_30 rfl (lv_at hl 1 rfl) ?_
  refine gx_aldq (x := (N0 + 176)) S hG 6 rfl (fu_at (by omega) (fu_at (by omega) (fu_at (by omega) (fu_at (by omega) (fu_at (by omega) (fu_at (by omega) h1)))))) rfl (fin_l (by decide)) (rfl) dX10_copyTree_31 ?_
  refine gx_getN (C := RX9) (T := TX9) (N := 5) S hG (fu_at (by omega) (fu_at (by omega) (fu_at (by omega) (fu_at (by omega) (fu_at (by omega) (fu_at (by omega) h2)))))) i_X10_copyTree_X9 rfl 4 (by decide) (List.mem_of_getElem? (i := 4) rfl) rfl dX10_copyTree_32 ?_
  exact fx_iret S hr hlocks () hG (rfl) dX10_copyTree_35
theorem k521_X5_copyFrom {n : Nat} (hn : N0 + 231 ≤ n) (h0 : F (N0 + 157) = some (.inr (7, [.ref (N0 + 158), .ref (N0 + 159), .ref (N0 + 160), .ref (N0 + 161), .ref (N0 + 162), .ref (N0 + 163), .int 1]))) (h1 : F (N0 + 150) = some (.inr (7, [.ref (N0 + 151), .ref (N0 + 152), .ref (N0 + 153), .ref (N0 + 154), .ref (N0 + 155), .ref (N0 + 156), .int 1]))) (h2 : F (N0 + 158) = some (.inl (cC, 20, .inl (upd (fun _ => 0) 0 97)))) (h3 : F (N0 + 151) = some (.inl (cC, 20, .inl (upd (fun _ => 0) 0 97)))) (h4 : F (N0 + 159) = some (.inl (cI, 20, .inl (fun _ => 0)))) (h5 : F (N0 + 152) = some (.inl (cI, 20, .inl (fun _ => 0)))) (h6 : F (N0 + 160) = some (.inl (cI, 20, .inl (fun _ => 0)))) (h7 : F (N0 + 153) = some (.inl (cI, 20, .inl (fun _ => 0)))) (h8 : F (N0 + 161) = some (.inl (cI, 20, .inl (upd (fun _ => 0) 0 (-1))))) (h9 : F (N0 + 154) = some (.inl (cI, 20, .inl (upd (fun _ => 0) 0 (-1))))) : Met l yX5_copyFrom wsX5_copyFrom ({ frames := 1, cells := 0, slots := 0, locals := 40 }) (va_Pc [.ref (N0 + 150), .ref (N0 + 157)] (fP N0 D vwCl (fty cI cC cL cD cII cTr cTm cIt cB) (fen ql) F n)) (fQv N0 D vwCl (fty cI cC cL cD cII cTr cTm cIt cB) (fun (_ : Unit) => True) (fun _ => (fu (fu (fu (fu (fu F (N0 + 151) (.inl (cC, 20, .inl (upd (fun _ => 0) 0 97)))) (N0 + 152) (.inl (cI, 20, .inl (fun _ => 0)))) (N0 + 153) (.inl (cI, 20, .inl (fun _ => 0)))) (N0 + 154) (.inl (cI, 20, .inl (upd (fun _ => 0) 0 (-1))))) (N0 + 150) (.inr (7, [.ref (N0 + 151), .ref (N0 + 152), .ref (N0 + 153), .ref (N0 + 154), .ref (N0 + 155), .ref (N0 + 156), .int 1])))) (fun _ => n)) 0 0 (fA N0) := by
  refine fx_start 2 rfl rfl (Nat.le_of_ble_eq_true rfl) ?_ rfl
  intro p e s m below meth c ls S hr hlocks hin hG hl
  have hl : lv_has ls 2 [(0, .ref (N0 + 150)), (1, .ref (N0 + 157))] := hl
  have lt_h0 := hG.1.lt h0
  have lt_h1 := hG.1.lt h1
  have lt_h2 := hG.1.lt h2
  have lt_h3 := hG.1.lt h3
  have lt_h4 := hG.1.lt h4
  have lt_h5 := hG.1.lt h5
  have lt_h6 := hG.1.lt h6
  have lt_h7 := hG.1.lt h7
  have lt_h8 := hG.1.lt h8
  have lt_h9 := hG.1.lt h9
  refine lv_aload_n S.1 S.2.1 dX5_copyFrom_0 rfl (lv_at hl 1 rfl) ?_
  refine gx_get (C := RX5) (T := TX5) (N := 7) S hG h0 i_X5_copyFrom_X5 rfl 0 (by decide) (by decide +kernel) rfl dX5_copyFrom_1 ?_
  refine lv_iconst (v := 0) S.1 S.2.1 dX5_copyFrom_4 (by decide) ?_
  refine lv_aload_n S.1 S.2.1 dX5_copyFrom_5 rfl (lv_at hl 0 rfl) ?_
  refine gx_get (C := RX5) (T := TX5) (N := 7) S hG h1 i_X5_copyFrom_X5 rfl 0 (by decide) (by decide +kernel) rfl dX5_copyFrom_6 ?_
  refine lv_iconst (v := 0) S.1 S.2.1 dX5_copyFrom_9 (by decide) ?_
  refine lv_bipush (v := 20) S.1 S.2.1 dX5_copyFrom_10 (by decide) ?_
  refine gx_copyi (f' := upd (fun _ => 0) 0 97) S hG hl.1 (by decide +kernel) (by decide +kernel) (by decide +kernel) (by decide +kernel) 1 h2 h3 rfl rfl (by decide) (by decide) (by decide) (by decide) (by decide) (fun i _ => (ffitU ffit0 (by decide)) _) (Nat.le_of_ble_eq_true rfl) (Nat.le_of_ble_eq_true rfl) dX5_copyFrom_12 fcpy_same (fun H locs hG => ?_)
  refine lv_aload_n S.1 S.2.1 dX5_copyFrom_15 rfl (lv_at hl 1 rfl) ?_
  refine gx_get (C := RX5) (T := TX5) (N := 7) S hG (fu_at (by omega) h0) i_X5_copyFrom_X5 rfl 1 (by decide) (by decide +kernel) rfl dX5_copyFrom_16 ?_
  refine lv_iconst (v := 0) S.1 S.2.1 dX5_copyFrom_19 (by decide) ?_
  refine lv_aload_n S.1 S.2.1 dX5_copyFrom_20 rfl (lv_at hl 0 rfl) ?_
  refine gx_get (C := RX5) (T := TX5) (N := 7) S hG (fu_at (by omega) h1) i_X5_copyFrom_X5 rfl 1 (by decide) (by decide +kernel) rfl dX5_copyFrom_21 ?_
  refine lv_iconst (v := 0) S.1 S.2.1 dX5_copyFrom_24 (by decide) ?_
  refine lv_bipush (v := 20) S.1 S.2.1 dX5_copyFrom_25 (by decide) ?_
  refine gx_copyi (f' := fun _ => 0) S hG hl.1 (by decide +kernel) (by decide +kernel) (by decide +kernel) (by decide +kernel) 0 (fu_at (by omega) h4) (fu_at (by omega) h5) rfl rfl (by decide) (by decide) (by decide) (by decide) (by decide) (fun i _ => rfl) (Nat.le_of_ble_eq_true rfl) (Nat.le_of_ble_eq_true rfl) dX5_copyFrom_27 fcpy_same (fun H locs hG => ?_)
  refine lv_aload_n S.1 S.2.1 dX5_copyFrom_30 rfl (lv_at hl 1 rfl) ?_
  refine gx_get (C := RX5) (T := TX5) (N := 7) S hG (fu_at (by omega) (fu_at (by omega) h0)) i_X5_copyFrom_X5 rfl 2 (by decide) (by decide +kernel) rfl dX5_copyFrom_31 ?_
  refine lv_iconst (v := 0) S.1 S.2.1 dX5_copyFrom_34 (by decide) ?_
  refine lv_aload_n S.1 S.2.1 dX5_copyFrom_35 rfl (lv_at hl 0 rfl) ?_
  refine gx_get (C := RX5) (T := TX5) (N := 7) S hG (fu_at (by omega) (fu_at (by omega) h1)) i_X5_copyFrom_X5 rfl 2 (by decide) (by decide +kernel) rfl dX5_copyFrom_36 ?_
  refine lv_iconst (v := 0) S.1 S.2.1 dX5_copyFrom_39 (by decide) ?_
  refine lv_bipush (v := 20) S.1 S.2.1 dX5_copyFrom_40 (by decide) ?_
  refine gx_copyi (f' := fun _ => 0) S hG hl.1 (by decide +kernel) (by decide +kernel) (by decide +kernel) (by decide +kernel) 0 (fu_at (by omega) (fu_at (by omega) h6)) (fu_at (by omega) (fu_at (by omega) h7)) rfl rfl (by decide) (by decide) (by decide) (by decide) (by decide) (fun i _ => rfl) (Nat.le_of_ble_eq_true rfl) (Nat.le_of_ble_eq_true rfl) dX5_copyFrom_42 fcpy_same (fun H locs hG => ?_)
  refine lv_aload_n S.1 S.2.1 dX5_copyFrom_45 rfl (lv_at hl 1 rfl) ?_
  refine gx_get (C := RX5) (T := TX5) (N := 7) S hG (fu_at (by omega) (fu_at (by omega) (fu_at (by omega) h0))) i_X5_copyFrom_X5 rfl 3 (by decide) (by decide +kernel) rfl dX5_copyFrom_46 ?_
  refine lv_iconst (v := 0) S.1 S.2.1 dX5_copyFrom_49 (by decide) ?_
  refine lv_aload_n S.1 S.2.1 dX5_copyFrom_50 rfl (lv_at hl 0 rfl) ?_
  refine gx_get (C := RX5) (T := TX5) (N := 7) S hG (fu_at (by omega) (fu_at (by omega) (fu_at (by omega) h1))) i_X5_copyFrom_X5 rfl 3 (by decide) (by decide +kernel) rfl dX5_copyFrom_51 ?_
  refine lv_iconst (v := 0) S.1 S.2.1 dX5_copyFrom_54 (by decide) ?_
  refine lv_bipush (v := 20) S.1 S.2.1 dX5_copyFrom_55 (by decide) ?_
  refine gx_copyi (f' := upd (fun _ => 0) 0 (-1)) S hG hl.1 (by decide +kernel) (by decide +kernel) (by decide +kernel) (by decide +kernel) 0 (fu_at (by omega) (fu_at (by omega) (fu_at (by omega) h8))) (fu_at (by omega) (fu_at (by omega) (fu_at (by omega) h9))) rfl rfl (by decide) (by decide) (by decide) (by decide) (by decide) (fun i _ => rfl) (Nat.le_of_ble_eq_true rfl) (Nat.le_of_ble_eq_true rfl) dX5_copyFrom_57 fcpy_same (fun H locs hG => ?_)
  refine lv_aload_n S.1 S.2.1 dX5_copyFrom_60 rfl (lv_at hl 0 rfl) ?_
  refine lv_aload_n S.1 S.2.1 dX5_copyFrom_61 rfl (lv_at hl 1 rfl) ?_
  refine gx_get (C := RX5) (T := TX5) (N := 7) S hG (fu_at (by omega) (fu_at (by omega) (fu_at (by omega) (fu_at (by omega) h0)))) i_X5_copyFrom_X5 rfl 6 (by decide) (by decide +kernel) rfl dX5_copyFrom_62 ?_
  refine gx_put (C := RX5) (T := TX5) (N := 7) (ty := .int) (v := .int 1) (fs' := [.ref (N0 + 151), .ref (N0 + 152), .ref (N0 + 153), .ref (N0 + 154), .ref (N0 + 155), .ref (N0 + 156), .int 1]) S hG (fu_at (by omega) (fu_at (by omega) (fu_at (by omega) (fu_at (by omega) h1)))) i_X5_copyFrom_X5 rfl 6 (by decide) tyX5 tyX5_ok nmX5 (by decide +kernel) rfl (by decide +kernel) rfl rfl (Nat.le_of_ble_eq_true rfl) rfl dX5_copyFrom_65 (fun H locs hG => ?_)
  exact fx_vret S hr hlocks () hG trivial dX5_copyFrom_68
theorem k522_X7_copyTree {n : Nat} (hn : N0 + 231 ≤ n) (h0 : F N0 = some (.inr (9, [.ref (N0 + 1), .ref (N0 + 2), .ref (N0 + 11), .ref (N0 + 13), .ref (N0 + 63), .ref (N0 + 65), .ref (N0 + 85), .int (-1), .int (-1), .int 32]))) (h1 : F (N0 + 1) = some (.inl (cTr, 3, .inr (.inr (.inr (.inr (va_up (va_up (va_up (fun _ => none) 0 (some (N0 + 143))) 1 (some (N0 + 150))) 2 (some (N0 + 157))))))))) (h2 : F (N0 + 157) = some (.inr (7, [.ref (N0 + 158), .ref (N0 + 159), .ref (N0 + 160), .ref (N0 + 161), .ref (N0 + 162), .ref (N0 + 163), .int 1]))) (h3 : F (N0 + 150) = some (.inr (7, [.ref (N0 + 151), .ref (N0 + 152), .ref (N0 + 153), .ref (N0 + 154), .ref (N0 + 155), .ref (N0 + 156), .int 1]))) (h4 : F (N0 + 158) = some (.inl (cC, 20, .inl (upd (fun _ => 0) 0 97)))) (h5 : F (N0 + 151) = some (.inl (cC, 20, .inl (upd (fun _ => 0) 0 97)))) (h6 : F (N0 + 159) = some (.inl (cI, 20, .inl (fun _ => 0)))) (h7 : F (N0 + 152) = some (.inl (cI, 20, .inl (fun _ => 0)))) (h8 : F (N0 + 160) = some (.inl (cI, 20, .inl (fun _ => 0)))) (h9 : F (N0 + 153) = some (.inl (cI, 20, .inl (fun _ => 0)))) (h10 : F (N0 + 161) = some (.inl (cI, 20, .inl (upd (fun _ => 0) 0 (-1))))) (h11 : F (N0 + 154) = some (.inl (cI, 20, .inl (upd (fun _ => 0) 0 (-1))))) : Met l yX7_copyTree wsX7_copyTree ({ frames := 2, cells := 0, slots := 0, locals := 61 }) (va_Pc [.ref N0, .int 2, .int 1] (fP N0 D vwCl (fty cI cC cL cD cII cTr cTm cIt cB) (fen ql) F n)) (fQi N0 D vwCl (fty cI cC cL cD cII cTr cTm cIt cB) (fun (r : Int32) (_ : Unit) => r = 1) (fun _ => (fu (fu (fu (fu (fu F (N0 + 151) (.inl (cC, 20, .inl (upd (fun _ => 0) 0 97)))) (N0 + 152) (.inl (cI, 20, .inl (fun _ => 0)))) (N0 + 153) (.inl (cI, 20, .inl (fun _ => 0)))) (N0 + 154) (.inl (cI, 20, .inl (upd (fun _ => 0) 0 (-1))))) (N0 + 150) (.inr (7, [.ref (N0 + 151), .ref (N0 + 152), .ref (N0 + 153), .ref (N0 + 154), .ref (N0 + 155), .ref (N0 + 156), .int 1])))) (fun _ => n)) 0 0 (fA N0) := by
  refine fx_start 5 rfl rfl (Nat.le_of_ble_eq_true rfl) ?_ rfl
  intro p e s m below meth c ls S hr hlocks hin hG hl
  have hl : lv_has ls 5 [(0, .ref N0), (1, .int 2), (2, .int 1)] := hl
  have lt_h0 := hG.1.lt h0
  have lt_h1 := hG.1.lt h1
  have lt_h2 := hG.1.lt h2
  have lt_h3 := hG.1.lt h3
  have lt_h4 := hG.1.lt h4
  have lt_h5 := hG.1.lt h5
  have lt_h6 := hG.1.lt h6
  have lt_h7 := hG.1.lt h7
  have lt_h8 := hG.1.lt h8
  have lt_h9 := hG.1.lt h9
  have lt_h10 := hG.1.lt h10
  have lt_h11 := hG.1.lt h11
  refine lv_aload_n S.1 S.2.1 dX7_copyTree_0 rfl (lv_at hl 0 rfl) ?_
  refine lv_iload_n S.1 S.2.1 dX7_copyTree_1 rfl (lv_at hl 1 rfl) ?_
  refine fx_cVr (As := [.int 2]) (rest := []) S hG (k48_X7_treeAt (by omega) h0 h1) h0 rfl (cwV 1 S.2.2.2.2 gX7_copyTree_X7_treeAt rfl rfl rfl (by decide +kernel) ⟨Nat.le_of_ble_eq_true rfl, Nat.le_of_ble_eq_true rfl⟩) rfl hl.1 rfl (Nat.le_of_ble_eq_true rfl) dX7_copyTree_2 ⟨Nat.le_of_ble_eq_true rfl, Nat.le_of_ble_eq_true rfl⟩ (fun rv_1 _ H locs hp hG => ?_)
  subst rv_1
  refine lv_astore_n (lv' := [(3, .ref (N0 + 157)), (0, .ref N0), (1, .int 2), (2, .int 1)]) S.1 S.2.1 dX7_copyTree_5 rfl hl (by decide) rfl (fun ls hl => ?_)
  refine lv_aload_n S.1 S.2.1 dX7_copyTree_6 rfl (lv_at hl 1 rfl) ?_
  refine lv_iload_n S.1 S.2.1 dX7_copyTree_7 rfl (lv_at hl 3 rfl) ?_
  refine fx_cVr (As := [.int 1]) (rest := []) S hG (k42_X7_treeAt (by omega) h0 h1) h0 rfl (cwV 1 S.2.2.2.2 gX7_copyTree_X7_treeAt rfl rfl rfl (by decide +kernel) ⟨Nat.le_of_ble_eq_true rfl, Nat.le_of_ble_eq_true rfl⟩) rfl hl.1 rfl (Nat.le_of_ble_eq_true rfl) dX7_copyTree_8 ⟨Nat.le_of_ble_eq_true rfl, Nat.le_of_ble_eq_true rfl⟩ (fun rv_2 _ H locs hp hG => ?_)
  subst rv_2
  refine lv_astore (lv' := [(4, .ref (N0 + 150)), (3, .ref (N0 + 157)), (0, .ref N0), (1, .int 2), (2, .int 1)]) S.1 S.2.1 dX7_copyTree_11 hl (by decide) rfl (fun ls hl => ?_)
  refine lv_aload S.1 S.2.1 dX7_copyTree_13 (lv_at hl 0 rfl) ?_
  refine lv_aload_n S.1 S.2.1 dX7_copyTree_15 rfl (lv_at hl 1 rfl) ?_
  refine fx_cVv (As := [.ref (N0 + 157)]) (rest := []) S hG (k521_X5_copyFrom (by omega) h2 h3 h4 h5 h6 h7 h8 h9 h10 h11) h3 rfl (cwV 1 S.2.2.2.2 gX7_copyTree_X5_copyFrom rfl rfl rfl (by decide +kernel) ⟨Nat.le_of_ble_eq_true rfl, Nat.le_of_ble_eq_true rfl⟩) rfl hl.1 rfl (Nat.le_of_ble_eq_true rfl) dX7_copyTree_16 ⟨Nat.le_of_ble_eq_true rfl, Nat.le_of_ble_eq_true rfl⟩ (fun _ H locs hp hG => ?_)
  refine lv_aload S.1 S.2.1 dX7_copyTree_19 (lv_at hl 0 rfl) ?_
  refine gx_get (C := RX5) (T := TX5) (N := 7) S hG fu_s i_X7_copyTree_X5 rfl 6 (by decide) (by decide +kernel) rfl dX7_copyTree_21 ?_
  exact fx_iret S hr hlocks () hG (rfl) dX7_copyTree_24
theorem k523_L_copyTree {n : Nat} (hn : N0 + 231 ≤ n) (h0 : F N0 = some (.inr (9, [.ref (N0 + 1), .ref (N0 + 2), .ref (N0 + 11), .ref (N0 + 13), .ref (N0 + 63), .ref (N0 + 65), .ref (N0 + 85), .int (-1), .int (-1), .int 32]))) (h1 : F (N0 + 1) = some (.inl (cTr, 3, .inr (.inr (.inr (.inr (va_up (va_up (va_up (fun _ => none) 0 (some (N0 + 143))) 1 (some (N0 + 150))) 2 (some (N0 + 157))))))))) (h2 : F (N0 + 157) = some (.inr (7, [.ref (N0 + 158), .ref (N0 + 159), .ref (N0 + 160), .ref (N0 + 161), .ref (N0 + 162), .ref (N0 + 163), .int 1]))) (h3 : F (N0 + 150) = some (.inr (7, [.ref (N0 + 151), .ref (N0 + 152), .ref (N0 + 153), .ref (N0 + 154), .ref (N0 + 155), .ref (N0 + 156), .int 1]))) (h4 : F (N0 + 158) = some (.inl (cC, 20, .inl (upd (fun _ => 0) 0 97)))) (h5 : F (N0 + 151) = some (.inl (cC, 20, .inl (upd (fun _ => 0) 0 97)))) (h6 : F (N0 + 159) = some (.inl (cI, 20, .inl (fun _ => 0)))) (h7 : F (N0 + 152) = some (.inl (cI, 20, .inl (fun _ => 0)))) (h8 : F (N0 + 160) = some (.inl (cI, 20, .inl (fun _ => 0)))) (h9 : F (N0 + 153) = some (.inl (cI, 20, .inl (fun _ => 0)))) (h10 : F (N0 + 161) = some (.inl (cI, 20, .inl (upd (fun _ => 0) 0 (-1))))) (h11 : F (N0 + 154) = some (.inl (cI, 20, .inl (upd (fun _ => 0) 0 (-1))))) (h12 : F (N0 + 229) = some (.inl (cL, 1, .inr (.inl (fun _ => 0))))) : Met l yL_copyTree wsL_copyTree ({ frames := 3, cells := 0, slots := 0, locals := 85 }) (va_Pc [.ref N0, .int 2, .int 1, .ref (N0 + 229)] (fP N0 D vwCl (fty cI cC cL cD cII cTr cTm cIt cB) (fen ql) F n)) (fQi N0 D vwCl (fty cI cC cL cD cII cTr cTm cIt cB) (fun (r : Int32) (_ : Unit) => r = 0) (fun _ => (fu (fu (fu (fu (fu (fu F (N0 + 151) (.inl (cC, 20, .inl (upd (fun _ => 0) 0 97)))) (N0 + 152) (.inl (cI, 20, .inl (fun _ => 0)))) (N0 + 153) (.inl (cI, 20, .inl (fun _ => 0)))) (N0 + 154) (.inl (cI, 20, .inl (upd (fun _ => 0) 0 (-1))))) (N0 + 150) (.inr (7, [.ref (N0 + 151), .ref (N0 + 152), .ref (N0 + 153), .ref (N0 + 154), .ref (N0 + 155), .ref (N0 + 156), .int 1]))) (N0 + 229) (.inl (cL, 1, .inr (.inl (vp_updL (fun _ => 0) 0 1)))))) (fun _ => n)) 0 0 (fA N0) := by
  refine fx_startW (hh := [(0, 10, 13, 19)]) 5 rfl rfl (Nat.le_of_ble_eq_true rfl) ?_ rfl
  intro p e s m below meth c ls S htab hr hlocks hG hl
  have hl : lv_has ls 5 [(0, .ref N0), (1, .int 2), (2, .int 1), (3, .ref (N0 + 229))] := hl
  have lt_h0 := hG.1.lt h0
  have lt_h1 := hG.1.lt h1
  have lt_h2 := hG.1.lt h2
  have lt_h3 := hG.1.lt h3
  have lt_h4 := hG.1.lt h4
  have lt_h5 := hG.1.lt h5
  have lt_h6 := hG.1.lt h6
  have lt_h7 := hG.1.lt h7
  have lt_h8 := hG.1.lt h8
  have lt_h9 := hG.1.lt h9
  have lt_h10 := hG.1.lt h10
  have lt_h11 := hG.1.lt h11
  have lt_h12 := hG.1.lt h12
  refine lv_aload_n S.1 S.2.1 dL_copyTree_0 rfl (lv_at hl 3 rfl) ?_
  refine lv_iconst (v := 0) S.1 S.2.1 dL_copyTree_1 (by decide) ?_
  refine lv_aload_n S.1 S.2.1 dL_copyTree_2 rfl (lv_at hl 0 rfl) ?_
  refine lv_iload_n S.1 S.2.1 dL_copyTree_3 rfl (lv_at hl 1 rfl) ?_
  refine lv_iload_n S.1 S.2.1 dL_copyTree_4 rfl (lv_at hl 2 rfl) ?_
  refine fx_cVi (As := [.int 2, .int 1]) (rest := [.int 0, .ref (N0 + 229)]) S hG (k522_X7_copyTree (by omega) h0 h1 h2 h3 h4 h5 h6 h7 h8 h9 h10 h11) h0 rfl (cwV 2 S.2.2.2.2 gL_copyTree_X7_copyTree rfl rfl rfl (by decide +kernel) ⟨Nat.le_of_ble_eq_true rfl, Nat.le_of_ble_eq_true rfl⟩) rfl hl.1 rfl (Nat.le_of_ble_eq_true rfl) dL_copyTree_5 ⟨Nat.le_of_ble_eq_true rfl, Nat.le_of_ble_eq_true rfl⟩ (fun rv_1 _ H locs hp hG => ?_)
  subst rv_1
  refine lv_i2l (v := 1) S.1 S.2.1 dL_copyTree_8 (by decide) ?_
  refine gx_last (f' := vp_updL (fun _ => 0) 0 1) S hG 2 (fu_at (by omega) (fu_at (by omega) (fu_at (by omega) (fu_at (by omega) (fu_at (by omega) h12))))) rfl (fin_l (by decide)) dL_copyTree_9 rfl (fun H locs hG => ?_)
  refine lv_goto (tgt := 17) S.1 S.2.1 dL_copyTree_10 (by decide) ?_
  refine lv_iconst (v := 0) S.1 S.2.1 dL_copyTree_17 (by decide) ?_
  exact fx_iret S hr hlocks () hG (rfl) dL_copyTree_18
theorem k524_X10_areNone {n : Nat} (hn : N0 + 231 ≤ n) (h0 : F (N0 + 164) = some (.inr (12, [.ref (N0 + 165), .int 0, .ref (N0 + 181), .int 0, .int 0, .int 0, .int (-1), .ref (ql 24), .ref (N0 + 182), .ref (N0 + 187), .ref (N0 + 208), .ref (N0 + 209), .ref (N0 + 210), .ref (N0 + 211), .ref (N0 + 212), .int 0, .ref (N0 + 213), .ref (N0 + 218), .ref (N0 + 223), .ref (N0 + 224), .ref (N0 + 225), .ref (N0 + 226), .ref (N0 + 227), .int 0, .int 0, .ref (N0 + 228), .null, .int (-1), .int 0, .int 0, .int 0]))) : Met l yX10_areNone wsX10_areNone ({ frames := 2, cells := 0, slots := 0, locals := 42 }) (va_Pc [.ref (N0 + 164), .int 2, .int 1] (fP N0 D vwCl (fty cI cC cL cD cII cTr cTm cIt cB) (fen ql) F n)) (fQi N0 D vwCl (fty cI cC cL cD cII cTr cTm cIt cB) (fun (r : Int32) (_ : Unit) => r = 0) (fun _ => (fu F (N0 + 164) (.inr (12, [.ref (N0 + 165), .int 0, .ref (N0 + 181), .int 0, .int 0, .int 0, .int (-1), .ref (ql 24), .ref (N0 + 182), .ref (N0 + 187), .ref (N0 + 208), .ref (N0 + 209), .ref (N0 + 210), .ref (N0 + 211), .ref (N0 + 212), .int 0, .ref (N0 + 213), .ref (N0 + 218), .ref (N0 + 223), .ref (N0 + 224), .ref (N0 + 225), .ref (N0 + 226), .ref (N0 + 227), .int 0, .int 0, .ref (N0 + 228), .null, .int (-1), .int 0, .int 0, .int 0])))) (fun _ => n)) 0 0 (fA N0) := by
  refine fx_start 3 rfl rfl (Nat.le_of_ble_eq_true rfl) ?_ rfl
  intro p e s m below meth c ls S hr hlocks hin hG hl
  have hl : lv_has ls 3 [(0, .ref (N0 + 164)), (1, .int 2), (2, .int 1)] := hl
  have lt_h0 := hG.1.lt h0
  refine lv_aload_n S.1 S.2.1 dX10_areNone_0 rfl (lv_at hl 0 rfl) ?_
  refine lv_iload_n S.1 S.2.1 dX10_areNone_1 rfl (lv_at hl 1 rfl) ?_
  refine fx_cSi (As := [.int 2]) (rest := [.ref (N0 + 164)]) S hG (k52_X10_isTree (by omega)) (cwS 1 S.2.2.2.2 gX10_areNone_X10_isTree rfl rfl rfl (by decide +kernel) ⟨Nat.le_of_ble_eq_true rfl, Nat.le_of_ble_eq_true rfl⟩) rfl hl.1 rfl (Nat.le_of_ble_eq_true rfl) dX10_areNone_2 ⟨Nat.le_of_ble_eq_true rfl, Nat.le_of_ble_eq_true rfl⟩ (fun rv_1 _ H locs hp hG => ?_)
  subst rv_1
  refine lv_if_eq (tgt := 19) S.1 S.2.1 dX10_areNone_5 (by decide) (fun c => absurd c (by decide)) (fun _ => ?_)
  refine lv_iload_n S.1 S.2.1 dX10_areNone_8 rfl (lv_at hl 2 rfl) ?_
  refine fx_cSi (As := [.int 1]) (rest := [.ref (N0 + 164)]) S hG (k46_X10_isTree (by omega)) (cwS 1 S.2.2.2.2 gX10_areNone_X10_isTree rfl rfl rfl (by decide +kernel) ⟨Nat.le_of_ble_eq_true rfl, Nat.le_of_ble_eq_true rfl⟩) rfl hl.1 rfl (Nat.le_of_ble_eq_true rfl) dX10_areNone_9 ⟨Nat.le_of_ble_eq_true rfl, Nat.le_of_ble_eq_true rfl⟩ (fun rv_2 _ H locs hp hG => ?_)
  subst rv_2
  refine lv_if_eq (tgt := 19) S.1 S.2.1 dX10_areNone_12 (by decide) (fun c => absurd c (by decide)) (fun _ => ?_)
  refine lv_iconst (v := 0) S.1 S.2.1 dX10_areNone_15 (by decide) ?_
  refine lv_goto (tgt := 20) S.1 S.2.1 dX10_areNone_16 (by decide) ?_
  refine gx_put (C := RX10) (T := TX10) (N := 31) (ty := .int) (v := .int 0) (fs' := [.ref (N0 + 165), .int 0, .ref (N0 + 181), .int 0, .int 0, .int 0, .int (-1), .ref (ql 24), .ref (N0 + 182), .ref (N0 + 187), .ref (N0 + 208), .ref (N0 + 209), .ref (N0 + 210), .ref (N0 + 211), .ref (N0 + 212), .int 0, .ref (N0 + 213), .ref (N0 + 218), .ref (N0 + 223), .ref (N0 + 224), .ref (N0 + 225), .ref (N0 + 226), .ref (N0 + 227), .int 0, .int 0, .ref (N0 + 228), .null, .int (-1), .int 0, .int 0, .int 0]) S hG h0 i_X10_areNone_X10 rfl 1 (by decide) tyX10 tyX10_ok nmX10 (by decide +kernel) rfl (by decide +kernel) rfl rfl (Nat.le_of_ble_eq_true rfl) rfl dX10_areNone_20 (fun H locs hG => ?_)
  refine lv_aload_n S.1 S.2.1 dX10_areNone_23 rfl (lv_at hl 0 rfl) ?_
  refine gx_get (C := RX10) (T := TX10) (N := 31) S hG fu_s i_X10_areNone_X10 rfl 1 (by decide) (by decide +kernel) rfl dX10_areNone_24 ?_
  refine lv_if_le (tgt := 34) S.1 S.2.1 dX10_areNone_27 (by decide) (fun _ => ?_) (fun c => absurd (by decide) c)
  refine lv_iconst (v := 0) S.1 S.2.1 dX10_areNone_34 (by decide) ?_
  exact fx_zret S hr (rfl) hlocks () hG (rfl) dX10_areNone_35
theorem k525_X9_copies {n : Nat} (hn : N0 + 231 ≤ n) (h0 : F (N0 + 176) = some (.inr (11, [.ref (N0 + 177), .ref (N0 + 178), .ref (N0 + 179), .ref (N0 + 180), .int 1]))) (h1 : F (N0 + 171) = some (.inr (11, [.ref (N0 + 172), .ref (N0 + 173), .ref (N0 + 174), .ref (N0 + 175), .int 1]))) (h2 : F (N0 + 177) = some (.inl (cI, 20, .inl (upd (fun _ => 0) 0 97)))) (h3 : F (N0 + 178) = some (.inl (cI, 20, .inl (upd (fun _ => 0) 0 0)))) (h4 : F (N0 + 179) = some (.inl (cI, 20, .inl (upd (fun _ => 0) 0 0)))) (h5 : F (N0 + 180) = some (.inl (cI, 20, .inl (upd (fun _ => 0) 0 (-1))))) (h6 : F (N0 + 172) = some (.inl (cI, 20, .inl (upd (fun _ => 0) 0 97)))) (h7 : F (N0 + 173) = some (.inl (cI, 20, .inl (upd (fun _ => 0) 0 0)))) (h8 : F (N0 + 174) = some (.inl (cI, 20, .inl (upd (fun _ => 0) 0 0)))) (h9 : F (N0 + 175) = some (.inl (cI, 20, .inl (upd (fun _ => 0) 0 (-1))))) : Met l yX9_copies wsX9_copies ({ frames := 1, cells := 0, slots := 0, locals := 25 }) (va_Pc [.ref (N0 + 171), .ref (N0 + 176)] (fP N0 D vwCl (fty cI cC cL cD cII cTr cTm cIt cB) (fen ql) F n)) (fQv N0 D vwCl (fty cI cC cL cD cII cTr cTm cIt cB) (fun (_ : Unit) => True) (fun _ => (fu (fu (fu (fu (fu F (N0 + 171) (.inr (11, [.ref (N0 + 172), .ref (N0 + 173), .ref (N0 + 174), .ref (N0 + 175), .int 1]))) (N0 + 172) (.inl (cI, 20, .inl (upd (upd (fun _ => 0) 0 97) 0 97)))) (N0 + 173) (.inl (cI, 20, .inl (upd (upd (fun _ => 0) 0 0) 0 0)))) (N0 + 174) (.inl (cI, 20, .inl (upd (upd (fun _ => 0) 0 0) 0 0)))) (N0 + 175) (.inl (cI, 20, .inl (upd (upd (fun _ => 0) 0 (-1)) 0 (-1)))))) (fun _ => n)) 0 0 (fA N0) := by
  refine fx_start 3 rfl rfl (Nat.le_of_ble_eq_true rfl) ?_ rfl
  intro p e s m below meth c ls S hr hlocks hin hG hl
  have hl : lv_has ls 3 [(0, .ref (N0 + 171)), (1, .ref (N0 + 176))] := hl
  have lt_h0 := hG.1.lt h0
  have lt_h1 := hG.1.lt h1
  have lt_h2 := hG.1.lt h2
  have lt_h3 := hG.1.lt h3
  have lt_h4 := hG.1.lt h4
  have lt_h5 := hG.1.lt h5
  have lt_h6 := hG.1.lt h6
  have lt_h7 := hG.1.lt h7
  have lt_h8 := hG.1.lt h8
  have lt_h9 := hG.1.lt h9
  refine lv_aload_n S.1 S.2.1 dX9_copies_0 rfl (lv_at hl 0 rfl) ?_
  refine lv_aload_n S.1 S.2.1 dX9_copies_1 rfl (lv_at hl 1 rfl) ?_
  refine gx_get (C := RX9) (T := TX9) (N := 5) S hG h0 i_X9_copies_X9 rfl 4 (by decide) (by decide +kernel) rfl dX9_copies_2 ?_
  refine gx_put (C := RX9) (T := TX9) (N := 5) (ty := .int) (v := .int 1) (fs' := [.ref (N0 + 172), .ref (N0 + 173), .ref (N0 + 174), .ref (N0 + 175), .int 1]) S hG h1 i_X9_copies_X9 rfl 4 (by decide) tyX9 tyX9_ok nmX9 (by decide +kernel) rfl (by decide +kernel) rfl rfl (Nat.le_of_ble_eq_true rfl) rfl dX9_copies_5 (fun H locs hG => ?_)
  refine lv_iconst (v := 0) S.1 S.2.1 dX9_copies_8 (by decide) ?_
  refine lv_istore_n (lv' := [(2, .int 0), (0, .ref (N0 + 171)), (1, .ref (N0 + 176))]) S.1 S.2.1 dX9_copies_9 rfl hl (by decide) rfl (fun ls hl => ?_)
  refine lv_iload_n S.1 S.2.1 dX9_copies_10 rfl (lv_at hl 0 rfl) ?_
  refine lv_aload_n S.1 S.2.1 dX9_copies_11 rfl (lv_at hl 1 rfl) ?_
  refine gx_get (C := RX9) (T := TX9) (N := 5) S hG fu_s i_X9_copies_X9 rfl 4 (by decide) (by decide +kernel) rfl dX9_copies_12 ?_
  refine lv_icmp_ge (tgt := 53) S.1 S.2.1 dX9_copies_15 (by decide) (fun c => absurd c (by decide)) (fun _ => ?_)
  refine lv_aload_n S.1 S.2.1 dX9_copies_18 rfl (lv_at hl 1 rfl) ?_
  refine lv_iload_n S.1 S.2.1 dX9_copies_19 rfl (lv_at hl 0 rfl) ?_
  refine lv_aload_n S.1 S.2.1 dX9_copies_20 rfl (lv_at hl 2 rfl) ?_
  refine gx_get (C := RX9) (T := TX9) (N := 5) S hG (fu_at (by omega) h0) i_X9_copies_X9 rfl 0 (by decide) (by decide +kernel) rfl dX9_copies_21 ?_
  refine lv_iload_n S.1 S.2.1 dX9_copies_24 rfl (lv_at hl 0 rfl) ?_
  refine gx_iald (v := 97) S hG 0 (fu_at (by omega) h2) rfl (fin_l (by decide)) (by decide) dX9_copies_25 ?_
  refine lv_aload_n S.1 S.2.1 dX9_copies_26 rfl (lv_at hl 2 rfl) ?_
  refine gx_get (C := RX9) (T := TX9) (N := 5) S hG (fu_at (by omega) h0) i_X9_copies_X9 rfl 1 (by decide) (by decide +kernel) rfl dX9_copies_27 ?_
  refine lv_iload_n S.1 S.2.1 dX9_copies_30 rfl (lv_at hl 0 rfl) ?_
  refine gx_iald (v := 0) S hG 0 (fu_at (by omega) h3) rfl (fin_l (by decide)) (by decide) dX9_copies_31 ?_
  refine lv_aload_n S.1 S.2.1 dX9_copies_32 rfl (lv_at hl 2 rfl) ?_
  refine gx_get (C := RX9) (T := TX9) (N := 5) S hG (fu_at (by omega) h0) i_X9_copies_X9 rfl 2 (by decide) (by decide +kernel) rfl dX9_copies_33 ?_
  refine lv_iload_n S.1 S.2.1 dX9_copies_36 rfl (lv_at hl 0 rfl) ?_
  refine gx_iald (v := 0) S hG 0 (fu_at (by omega) h4) rfl (fin_l (by decide)) (by decide) dX9_copies_37 ?_
  refine lv_aload_n S.1 S.2.1 dX9_copies_38 rfl (lv_at hl 2 rfl) ?_
  refine gx_get (C := RX9) (T := TX9) (N := 5) S hG (fu_at (by omega) h0) i_X9_copies_X9 rfl 3 (by decide) (by decide +kernel) rfl dX9_copies_39 ?_
  refine lv_iload_n S.1 S.2.1 dX9_copies_42 rfl (lv_at hl 0 rfl) ?_
  refine gx_iald (v := (-1)) S hG 0 (fu_at (by omega) h5) rfl (fin_l (by decide)) (by decide) dX9_copies_43 ?_
  refine fx_cVv (As := [.int 0, .int 97, .int 0, .int 0, .int (-1)]) (rest := []) S hG (k468_X9_sets (by omega) fu_s (fu_at (by omega) h6) (fu_at (by omega) h7) (fu_at (by omega) h8) (fu_at (by omega) h9)) fu_s rfl (cwV 5 S.2.2.2.2 gX9_copies_X9_sets rfl rfl rfl (by decide +kernel) ⟨Nat.le_of_ble_eq_true rfl, Nat.le_of_ble_eq_true rfl⟩) rfl hl.1 rfl (Nat.le_of_ble_eq_true rfl) dX9_copies_44 ⟨Nat.le_of_ble_eq_true rfl, Nat.le_of_ble_eq_true rfl⟩ (fun _ H locs hp hG => ?_)
  refine lv_iinc (v := 1) (lv' := [(2, .int 1), (0, .ref (N0 + 171)), (1, .ref (N0 + 176))]) S.1 S.2.1 dX9_copies_47 hl (k := 0) rfl (by decide) (by decide) rfl (fun ls hl => ?_)
  refine lv_goto (tgt := 10) S.1 S.2.1 dX9_copies_50 (by decide) ?_
  refine lv_iload_n S.1 S.2.1 dX9_copies_10 rfl (lv_at hl 0 rfl) ?_
  refine lv_aload_n S.1 S.2.1 dX9_copies_11 rfl (lv_at hl 1 rfl) ?_
  refine gx_get (C := RX9) (T := TX9) (N := 5) S hG (fu_at (by omega) (fu_at (by omega) (fu_at (by omega) (fu_at (by omega) fu_s)))) i_X9_copies_X9 rfl 4 (by decide) (by decide +kernel) rfl dX9_copies_12 ?_
  refine lv_icmp_ge (tgt := 53) S.1 S.2.1 dX9_copies_15 (by decide) (fun _ => ?_) (fun c => absurd (by decide) c)
  exact fx_vret S hr hlocks () hG trivial dX9_copies_53
theorem k526_X10_copyTree {n : Nat} (hn : N0 + 231 ≤ n) (h0 : F (N0 + 164) = some (.inr (12, [.ref (N0 + 165), .int 0, .ref (N0 + 181), .int 0, .int 0, .int 0, .int (-1), .ref (ql 24), .ref (N0 + 182), .ref (N0 + 187), .ref (N0 + 208), .ref (N0 + 209), .ref (N0 + 210), .ref (N0 + 211), .ref (N0 + 212), .int 0, .ref (N0 + 213), .ref (N0 + 218), .ref (N0 + 223), .ref (N0 + 224), .ref (N0 + 225), .ref (N0 + 226), .ref (N0 + 227), .int 0, .int 0, .ref (N0 + 228), .null, .int (-1), .int 0, .int 0, .int 0]))) (h1 : F (N0 + 165) = some (.inl (cTm, 3, .inr (.inr (.inr (.inr (va_up (va_up (va_up (fun _ => none) 0 (some (N0 + 166))) 1 (some (N0 + 171))) 2 (some (N0 + 176))))))))) (h2 : F (N0 + 176) = some (.inr (11, [.ref (N0 + 177), .ref (N0 + 178), .ref (N0 + 179), .ref (N0 + 180), .int 1]))) (h3 : F (N0 + 171) = some (.inr (11, [.ref (N0 + 172), .ref (N0 + 173), .ref (N0 + 174), .ref (N0 + 175), .int 1]))) (h4 : F (N0 + 177) = some (.inl (cI, 20, .inl (upd (fun _ => 0) 0 97)))) (h5 : F (N0 + 178) = some (.inl (cI, 20, .inl (upd (fun _ => 0) 0 0)))) (h6 : F (N0 + 179) = some (.inl (cI, 20, .inl (upd (fun _ => 0) 0 0)))) (h7 : F (N0 + 180) = some (.inl (cI, 20, .inl (upd (fun _ => 0) 0 (-1))))) (h8 : F (N0 + 172) = some (.inl (cI, 20, .inl (upd (fun _ => 0) 0 97)))) (h9 : F (N0 + 173) = some (.inl (cI, 20, .inl (upd (fun _ => 0) 0 0)))) (h10 : F (N0 + 174) = some (.inl (cI, 20, .inl (upd (fun _ => 0) 0 0)))) (h11 : F (N0 + 175) = some (.inl (cI, 20, .inl (upd (fun _ => 0) 0 (-1))))) : Met l yX10_copyTree wsX10_copyTree ({ frames := 3, cells := 0, slots := 0, locals := 64 }) (va_Pc [.ref (N0 + 164), .int 2, .int 1] (fP N0 D vwCl (fty cI cC cL cD cII cTr cTm cIt cB) (fen ql) F n)) (fQi N0 D vwCl (fty cI cC cL cD cII cTr cTm cIt cB) (fun (r : Int32) (_ : Unit) => r = 1) (fun _ => (fu (fu (fu (fu (fu (fu F (N0 + 164) (.inr (12, [.ref (N0 + 165), .int 0, .ref (N0 + 181), .int 0, .int 0, .int 0, .int (-1), .ref (ql 24), .ref (N0 + 182), .ref (N0 + 187), .ref (N0 + 208), .ref (N0 + 209), .ref (N0 + 210), .ref (N0 + 211), .ref (N0 + 212), .int 0, .ref (N0 + 213), .ref (N0 + 218), .ref (N0 + 223), .ref (N0 + 224), .ref (N0 + 225), .ref (N0 + 226), .ref (N0 + 227), .int 0, .int 0, .ref (N0 + 228), .null, .int (-1), .int 0, .int 0, .int 0]))) (N0 + 171) (.inr (11, [.ref (N0 + 172), .ref (N0 + 173), .ref (N0 + 174), .ref (N0 + 175), .int 1]))) (N0 + 172) (.inl (cI, 20, .inl (upd (upd (fun _ => 0) 0 97) 0 97)))) (N0 + 173) (.inl (cI, 20, .inl (upd (upd (fun _ => 0) 0 0) 0 0)))) (N0 + 174) (.inl (cI, 20, .inl (upd (upd (fun _ => 0) 0 0) 0 0)))) (N0 + 175) (.inl (cI, 20, .inl (upd (upd (fun _ => 0) 0 (-1)) 0 (-1)))))) (fun _ => n)) 0 0 (fA N0) := by
  refine fx_start 3 rfl rfl (Nat.le_of_ble_eq_true rfl) ?_ rfl
  intro p e s m below meth c ls S hr hlocks hin hG hl
  have hl : lv_has ls 3 [(0, .ref (N0 + 164)), (1, .int 2), (2, .int 1)] := hl
  have lt_h0 := hG.1.lt h0
  have lt_h1 := hG.1.lt h1
  have lt_h2 := hG.1.lt h2
  have lt_h3 := hG.1.lt h3
  have lt_h4 := hG.1.lt h4
  have lt_h5 := hG.1.lt h5
  have lt_h6 := hG.1.lt h6
  have lt_h7 := hG.1.lt h7
  have lt_h8 := hG.1.lt h8
  have lt_h9 := hG.1.lt h9
  have lt_h10 := hG.1.lt h10
  have lt_h11 := hG.1.lt h11
  refine lv_aload_n S.1 S.2.1 dX10_copyTree_0 rfl (lv_at hl 0 rfl) ?_
  refine lv_iload_n S.1 S.2.1 dX10_copyTree_1 rfl (lv_at hl 1 rfl) ?_
  refine lv_iload_n S.1 S.2.1 dX10_copyTree_2 rfl (lv_at hl 2 rfl) ?_
  refine fx_cVi (As := [.int 2, .int 1]) (rest := []) S hG (k524_X10_areNone (by omega) h0) h0 rfl (cwV 2 S.2.2.2.2 gX10_copyTree_X10_areNone rfl rfl rfl (by decide +kernel) ⟨Nat.le_of_ble_eq_true rfl, Nat.le_of_ble_eq_true rfl⟩) rfl hl.1 rfl (Nat.le_of_ble_eq_true rfl) dX10_copyTree_3 ⟨Nat.le_of_ble_eq_true rfl, Nat.le_of_ble_eq_true rfl⟩ (fun rv_1 _ H locs hp hG => ?_)
  subst rv_1
  refine lv_if_eq (tgt := 11) S.1 S.2.1 dX10_copyTree_6 (by decide) (fun _ => ?_) (fun c => absurd (by decide) c)
  refine lv_aload_n S.1 S.2.1 dX10_copyTree_11 rfl (lv_at hl 0 rfl) ?_
  refine gx_get (C := RX10) (T := TX10) (N := 31) S hG fu_s i_X10_copyTree_X10 rfl 0 (by decide) (by decide +kernel) rfl dX10_copyTree_12 ?_
  refine lv_iload_n S.1 S.2.1 dX10_copyTree_15 rfl (lv_at hl 2 rfl) ?_
  refine gx_aldq (x := (N0 + 171)) S hG 6 rfl (fu_at (by omega) h1) rfl (fin_l (by decide)) (rfl) dX10_copyTree_16 ?_
  refine lv_aload_n S.1 S.2.1 dX10_copyTree_17 rfl (lv_at hl 0 rfl) ?_
  refine gx_get (C := RX10) (T := TX10) (N := 31) S hG fu_s i_X10_copyTree_X10 rfl 0 (by decide) (by decide +kernel) rfl dX10_copyTree_18 ?_
  refine lv_iload_n S.1 S.2.1 dX10_copyTree_21 rfl (lv_at hl 1 rfl) ?_
  refine gx_aldq (x := (N0 + 176)) S hG 6 rfl (fu_at (by omega) h1) rfl (fin_l (by decide)) (rfl) dX10_copyTree_22 ?_
  refine fx_cVNv (host := "TreeDifferModel") (As := [.ref (N0 + 176)]) (rest := []) S hG (k525_X9_copies (by omega) (fu_at (by omega) h2) (fu_at (by omega) h3) (fu_at (by omega) h4) (fu_at (by omega) h5) (fu_at (by omega) h6) (fu_at (by omega) h7) (fu_at (by omega) h8) (fu_at (by omega) h9) (fu_at (by omega) h10) (fu_at (by omega) h11)) (fu_at (by omega) h3) rfl ⟨(va_cnB 1 S.2.2.2.2 gX10_copyTree_X9_copies_n157 rfl rfl rfl (hG.nest (show _ ∈ fen2.2.2.1 from by decide)) (S.2.2.2.2 (.initialized RX9) (by decide +kernel)) (by decide +kernel) ⟨Nat.le_of_ble_eq_true rfl, Nat.le_of_ble_eq_true rfl⟩), S.2.2.2.2 (.instanceMethod yX9_copies) (by decide +kernel), S.2.2.2.2 (.selects RX9 yX9_copies yX9_copies) (by decide +kernel)⟩ rfl hl.1 rfl (Nat.le_of_ble_eq_true rfl) dX10_copyTree_23 ⟨Nat.le_of_ble_eq_true rfl, Nat.le_of_ble_eq_true rfl⟩ (fun _ H locs hp hG => ?_)
  refine lv_aload_n S.1 S.2.1 dX10_copyTree_26 rfl (lv_at hl 0 rfl) ?_
  refine gx_get (C := RX10) (T := TX10) (N := 31) S hG (fu_at (by omega) (fu_at (by omega) (fu_at (by omega) (fu_at (by omega) (fu_at (by omega) fu_s))))) i_X10_copyTree_X10 rfl 0 (by decide) (by decide +kernel) rfl dX10_copyTree_27 ?_
  refine lv_iload_n S.1 S.2.1 dX10_copyTree_30 rfl (lv_at hl 1 rfl) ?_
  refine gx_aldq (x := (N0 + 176)) S hG 6 rfl (fu_at (by omega) (fu_at (by omega) (fu_at (by omega) (fu_at (by omega) (fu_at (by omega) (fu_at (by omega) h1)))))) rfl (fin_l (by decide)) (rfl) dX10_copyTree_31 ?_
  refine gx_getN (C := RX9) (T := TX9) (N := 5) S hG (fu_at (by omega) (fu_at (by omega) (fu_at (by omega) (fu_at (by omega) (fu_at (by omega) (fu_at (by omega) h2)))))) i_X10_copyTree_X9 rfl 4 (by decide) (List.mem_of_getElem? (i := 4) rfl) rfl dX10_copyTree_32 ?_
  exact fx_iret S hr hlocks () hG (rfl) dX10_copyTree_35
theorem k527_X5_copyFrom {n : Nat} (hn : N0 + 231 ≤ n) (h0 : F (N0 + 157) = some (.inr (7, [.ref (N0 + 158), .ref (N0 + 159), .ref (N0 + 160), .ref (N0 + 161), .ref (N0 + 162), .ref (N0 + 163), .int 1]))) (h1 : F (N0 + 158) = some (.inl (cC, 20, .inl (upd (fun _ => 0) 0 97)))) (h2 : F (N0 + 159) = some (.inl (cI, 20, .inl (fun _ => 0)))) (h3 : F (N0 + 160) = some (.inl (cI, 20, .inl (fun _ => 0)))) (h4 : F (N0 + 161) = some (.inl (cI, 20, .inl (upd (fun _ => 0) 0 (-1))))) : Met l yX5_copyFrom wsX5_copyFrom ({ frames := 1, cells := 0, slots := 0, locals := 40 }) (va_Pc [.ref (N0 + 157), .ref (N0 + 157)] (fP N0 D vwCl (fty cI cC cL cD cII cTr cTm cIt cB) (fen ql) F n)) (fQv N0 D vwCl (fty cI cC cL cD cII cTr cTm cIt cB) (fun (_ : Unit) => True) (fun _ => (fu (fu (fu (fu (fu F (N0 + 158) (.inl (cC, 20, .inl (upd (fun _ => 0) 0 97)))) (N0 + 159) (.inl (cI, 20, .inl (fun _ => 0)))) (N0 + 160) (.inl (cI, 20, .inl (fun _ => 0)))) (N0 + 161) (.inl (cI, 20, .inl (upd (fun _ => 0) 0 (-1))))) (N0 + 157) (.inr (7, [.ref (N0 + 158), .ref (N0 + 159), .ref (N0 + 160), .ref (N0 + 161), .ref (N0 + 162), .ref (N0 + 163), .int 1])))) (fun _ => n)) 0 0 (fA N0) := by
  refine fx_start 2 rfl rfl (Nat.le_of_ble_eq_true rfl) ?_ rfl
  intro p e s m below meth c ls S hr hlocks hin hG hl
  have hl : lv_has ls 2 [(0, .ref (N0 + 157)), (1, .ref (N0 + 157))] := hl
  have lt_h0 := hG.1.lt h0
  have lt_h1 := hG.1.lt h1
  have lt_h2 := hG.1.lt h2
  have lt_h3 := hG.1.lt h3
  have lt_h4 := hG.1.lt h4
  refine lv_aload_n S.1 S.2.1 dX5_copyFrom_0 rfl (lv_at hl 1 rfl) ?_
  refine gx_get (C := RX5) (T := TX5) (N := 7) S hG h0 i_X5_copyFrom_X5 rfl 0 (by decide) (by decide +kernel) rfl dX5_copyFrom_1 ?_
  refine lv_iconst (v := 0) S.1 S.2.1 dX5_copyFrom_4 (by decide) ?_
  refine lv_aload_n S.1 S.2.1 dX5_copyFrom_5 rfl (lv_at hl 0 rfl) ?_
  refine gx_get (C := RX5) (T := TX5) (N := 7) S hG h0 i_X5_copyFrom_X5 rfl 0 (by decide) (by decide +kernel) rfl dX5_copyFrom_6 ?_
  refine lv_iconst (v := 0) S.1 S.2.1 dX5_copyFrom_9 (by decide) ?_
  refine lv_bipush (v := 20) S.1 S.2.1 dX5_copyFrom_10 (by decide) ?_
  refine gx_copyi (f' := upd (fun _ => 0) 0 97) S hG hl.1 (by decide +kernel) (by decide +kernel) (by decide +kernel) (by decide +kernel) 1 h1 h1 rfl rfl (by decide) (by decide) (by decide) (by decide) (by decide) (fun i _ => (ffitU ffit0 (by decide)) _) (Nat.le_of_ble_eq_true rfl) (Nat.le_of_ble_eq_true rfl) dX5_copyFrom_12 fcpy_same (fun H locs hG => ?_)
  refine lv_aload_n S.1 S.2.1 dX5_copyFrom_15 rfl (lv_at hl 1 rfl) ?_
  refine gx_get (C := RX5) (T := TX5) (N := 7) S hG (fu_at (by omega) h0) i_X5_copyFrom_X5 rfl 1 (by decide) (by decide +kernel) rfl dX5_copyFrom_16 ?_
  refine lv_iconst (v := 0) S.1 S.2.1 dX5_copyFrom_19 (by decide) ?_
  refine lv_aload_n S.1 S.2.1 dX5_copyFrom_20 rfl (lv_at hl 0 rfl) ?_
  refine gx_get (C := RX5) (T := TX5) (N := 7) S hG (fu_at (by omega) h0) i_X5_copyFrom_X5 rfl 1 (by decide) (by decide +kernel) rfl dX5_copyFrom_21 ?_
  refine lv_iconst (v := 0) S.1 S.2.1 dX5_copyFrom_24 (by decide) ?_
  refine lv_bipush (v := 20) S.1 S.2.1 dX5_copyFrom_25 (by decide) ?_
  refine gx_copyi (f' := fun _ => 0) S hG hl.1 (by decide +kernel) (by decide +kernel) (by decide +kernel) (by decide +kernel) 0 (fu_at (by omega) h2) (fu_at (by omega) h2) rfl rfl (by decide) (by decide) (by decide) (by decide) (by decide) (fun i _ => rfl) (Nat.le_of_ble_eq_true rfl) (Nat.le_of_ble_eq_true rfl) dX5_copyFrom_27 fcpy_same (fun H locs hG => ?_)
  refine lv_aload_n S.1 S.2.1 dX5_copyFrom_30 rfl (lv_at hl 1 rfl) ?_
  refine gx_get (C := RX5) (T := TX5) (N := 7) S hG (fu_at (by omega) (fu_at (by omega) h0)) i_X5_copyFrom_X5 rfl 2 (by decide) (by decide +kernel) rfl dX5_copyFrom_31 ?_
  refine lv_iconst (v := 0) S.1 S.2.1 dX5_copyFrom_34 (by decide) ?_
  refine lv_aload_n S.1 S.2.1 dX5_copyFrom_35 rfl (lv_at hl 0 rfl) ?_
  refine gx_get (C := RX5) (T := TX5) (N := 7) S hG (fu_at (by omega) (fu_at (by omega) h0)) i_X5_copyFrom_X5 rfl 2 (by decide) (by decide +kernel) rfl dX5_copyFrom_36 ?_
  refine lv_iconst (v := 0) S.1 S.2.1 dX5_copyFrom_39 (by decide) ?_
  refine lv_bipush (v := 20) S.1 S.2.1 dX5_copyFrom_40 (by decide) ?_
  refine gx_copyi (f' := fun _ => 0) S hG hl.1 (by decide +kernel) (by decide +kernel) (by decide +kernel) (by decide +kernel) 0 (fu_at (by omega) (fu_at (by omega) h3)) (fu_at (by omega) (fu_at (by omega) h3)) rfl rfl (by decide) (by decide) (by decide) (by decide) (by decide) (fun i _ => rfl) (Nat.le_of_ble_eq_true rfl) (Nat.le_of_ble_eq_true rfl) dX5_copyFrom_42 fcpy_same (fun H locs hG => ?_)
  refine lv_aload_n S.1 S.2.1 dX5_copyFrom_45 rfl (lv_at hl 1 rfl) ?_
  refine gx_get (C := RX5) (T := TX5) (N := 7) S hG (fu_at (by omega) (fu_at (by omega) (fu_at (by omega) h0))) i_X5_copyFrom_X5 rfl 3 (by decide) (by decide +kernel) rfl dX5_copyFrom_46 ?_
  refine lv_iconst (v := 0) S.1 S.2.1 dX5_copyFrom_49 (by decide) ?_
  refine lv_aload_n S.1 S.2.1 dX5_copyFrom_50 rfl (lv_at hl 0 rfl) ?_
  refine gx_get (C := RX5) (T := TX5) (N := 7) S hG (fu_at (by omega) (fu_at (by omega) (fu_at (by omega) h0))) i_X5_copyFrom_X5 rfl 3 (by decide) (by decide +kernel) rfl dX5_copyFrom_51 ?_
  refine lv_iconst (v := 0) S.1 S.2.1 dX5_copyFrom_54 (by decide) ?_
  refine lv_bipush (v := 20) S.1 S.2.1 dX5_copyFrom_55 (by decide) ?_
  refine gx_copyi (f' := upd (fun _ => 0) 0 (-1)) S hG hl.1 (by decide +kernel) (by decide +kernel) (by decide +kernel) (by decide +kernel) 0 (fu_at (by omega) (fu_at (by omega) (fu_at (by omega) h4))) (fu_at (by omega) (fu_at (by omega) (fu_at (by omega) h4))) rfl rfl (by decide) (by decide) (by decide) (by decide) (by decide) (fun i _ => rfl) (Nat.le_of_ble_eq_true rfl) (Nat.le_of_ble_eq_true rfl) dX5_copyFrom_57 fcpy_same (fun H locs hG => ?_)
  refine lv_aload_n S.1 S.2.1 dX5_copyFrom_60 rfl (lv_at hl 0 rfl) ?_
  refine lv_aload_n S.1 S.2.1 dX5_copyFrom_61 rfl (lv_at hl 1 rfl) ?_
  refine gx_get (C := RX5) (T := TX5) (N := 7) S hG (fu_at (by omega) (fu_at (by omega) (fu_at (by omega) (fu_at (by omega) h0)))) i_X5_copyFrom_X5 rfl 6 (by decide) (by decide +kernel) rfl dX5_copyFrom_62 ?_
  refine gx_put (C := RX5) (T := TX5) (N := 7) (ty := .int) (v := .int 1) (fs' := [.ref (N0 + 158), .ref (N0 + 159), .ref (N0 + 160), .ref (N0 + 161), .ref (N0 + 162), .ref (N0 + 163), .int 1]) S hG (fu_at (by omega) (fu_at (by omega) (fu_at (by omega) (fu_at (by omega) h0)))) i_X5_copyFrom_X5 rfl 6 (by decide) tyX5 tyX5_ok nmX5 (by decide +kernel) rfl (by decide +kernel) rfl rfl (Nat.le_of_ble_eq_true rfl) rfl dX5_copyFrom_65 (fun H locs hG => ?_)
  exact fx_vret S hr hlocks () hG trivial dX5_copyFrom_68
theorem k528_X7_copyTree {n : Nat} (hn : N0 + 231 ≤ n) (h0 : F N0 = some (.inr (9, [.ref (N0 + 1), .ref (N0 + 2), .ref (N0 + 11), .ref (N0 + 13), .ref (N0 + 63), .ref (N0 + 65), .ref (N0 + 85), .int (-1), .int (-1), .int 32]))) (h1 : F (N0 + 1) = some (.inl (cTr, 3, .inr (.inr (.inr (.inr (va_up (va_up (va_up (fun _ => none) 0 (some (N0 + 143))) 1 (some (N0 + 150))) 2 (some (N0 + 157))))))))) (h2 : F (N0 + 157) = some (.inr (7, [.ref (N0 + 158), .ref (N0 + 159), .ref (N0 + 160), .ref (N0 + 161), .ref (N0 + 162), .ref (N0 + 163), .int 1]))) (h3 : F (N0 + 158) = some (.inl (cC, 20, .inl (upd (fun _ => 0) 0 97)))) (h4 : F (N0 + 159) = some (.inl (cI, 20, .inl (fun _ => 0)))) (h5 : F (N0 + 160) = some (.inl (cI, 20, .inl (fun _ => 0)))) (h6 : F (N0 + 161) = some (.inl (cI, 20, .inl (upd (fun _ => 0) 0 (-1))))) : Met l yX7_copyTree wsX7_copyTree ({ frames := 2, cells := 0, slots := 0, locals := 61 }) (va_Pc [.ref N0, .int 2, .int 2] (fP N0 D vwCl (fty cI cC cL cD cII cTr cTm cIt cB) (fen ql) F n)) (fQi N0 D vwCl (fty cI cC cL cD cII cTr cTm cIt cB) (fun (r : Int32) (_ : Unit) => r = 1) (fun _ => (fu (fu (fu (fu (fu F (N0 + 158) (.inl (cC, 20, .inl (upd (fun _ => 0) 0 97)))) (N0 + 159) (.inl (cI, 20, .inl (fun _ => 0)))) (N0 + 160) (.inl (cI, 20, .inl (fun _ => 0)))) (N0 + 161) (.inl (cI, 20, .inl (upd (fun _ => 0) 0 (-1))))) (N0 + 157) (.inr (7, [.ref (N0 + 158), .ref (N0 + 159), .ref (N0 + 160), .ref (N0 + 161), .ref (N0 + 162), .ref (N0 + 163), .int 1])))) (fun _ => n)) 0 0 (fA N0) := by
  refine fx_start 5 rfl rfl (Nat.le_of_ble_eq_true rfl) ?_ rfl
  intro p e s m below meth c ls S hr hlocks hin hG hl
  have hl : lv_has ls 5 [(0, .ref N0), (1, .int 2), (2, .int 2)] := hl
  have lt_h0 := hG.1.lt h0
  have lt_h1 := hG.1.lt h1
  have lt_h2 := hG.1.lt h2
  have lt_h3 := hG.1.lt h3
  have lt_h4 := hG.1.lt h4
  have lt_h5 := hG.1.lt h5
  have lt_h6 := hG.1.lt h6
  refine lv_aload_n S.1 S.2.1 dX7_copyTree_0 rfl (lv_at hl 0 rfl) ?_
  refine lv_iload_n S.1 S.2.1 dX7_copyTree_1 rfl (lv_at hl 1 rfl) ?_
  refine fx_cVr (As := [.int 2]) (rest := []) S hG (k48_X7_treeAt (by omega) h0 h1) h0 rfl (cwV 1 S.2.2.2.2 gX7_copyTree_X7_treeAt rfl rfl rfl (by decide +kernel) ⟨Nat.le_of_ble_eq_true rfl, Nat.le_of_ble_eq_true rfl⟩) rfl hl.1 rfl (Nat.le_of_ble_eq_true rfl) dX7_copyTree_2 ⟨Nat.le_of_ble_eq_true rfl, Nat.le_of_ble_eq_true rfl⟩ (fun rv_1 _ H locs hp hG => ?_)
  subst rv_1
  refine lv_astore_n (lv' := [(3, .ref (N0 + 157)), (0, .ref N0), (1, .int 2), (2, .int 2)]) S.1 S.2.1 dX7_copyTree_5 rfl hl (by decide) rfl (fun ls hl => ?_)
  refine lv_aload_n S.1 S.2.1 dX7_copyTree_6 rfl (lv_at hl 1 rfl) ?_
  refine lv_iload_n S.1 S.2.1 dX7_copyTree_7 rfl (lv_at hl 3 rfl) ?_
  refine fx_cVr (As := [.int 2]) (rest := []) S hG (k48_X7_treeAt (by omega) h0 h1) h0 rfl (cwV 1 S.2.2.2.2 gX7_copyTree_X7_treeAt rfl rfl rfl (by decide +kernel) ⟨Nat.le_of_ble_eq_true rfl, Nat.le_of_ble_eq_true rfl⟩) rfl hl.1 rfl (Nat.le_of_ble_eq_true rfl) dX7_copyTree_8 ⟨Nat.le_of_ble_eq_true rfl, Nat.le_of_ble_eq_true rfl⟩ (fun rv_2 _ H locs hp hG => ?_)
  subst rv_2
  refine lv_astore (lv' := [(4, .ref (N0 + 157)), (3, .ref (N0 + 157)), (0, .ref N0), (1, .int 2), (2, .int 2)]) S.1 S.2.1 dX7_copyTree_11 hl (by decide) rfl (fun ls hl => ?_)
  refine lv_aload S.1 S.2.1 dX7_copyTree_13 (lv_at hl 0 rfl) ?_
  refine lv_aload_n S.1 S.2.1 dX7_copyTree_15 rfl (lv_at hl 1 rfl) ?_
  refine fx_cVv (As := [.ref (N0 + 157)]) (rest := []) S hG (k527_X5_copyFrom (by omega) h2 h3 h4 h5 h6) h2 rfl (cwV 1 S.2.2.2.2 gX7_copyTree_X5_copyFrom rfl rfl rfl (by decide +kernel) ⟨Nat.le_of_ble_eq_true rfl, Nat.le_of_ble_eq_true rfl⟩) rfl hl.1 rfl (Nat.le_of_ble_eq_true rfl) dX7_copyTree_16 ⟨Nat.le_of_ble_eq_true rfl, Nat.le_of_ble_eq_true rfl⟩ (fun _ H locs hp hG => ?_)
  refine lv_aload S.1 S.2.1 dX7_copyTree_19 (lv_at hl 0 rfl) ?_
  refine gx_get (C := RX5) (T := TX5) (N := 7) S hG fu_s i_X7_copyTree_X5 rfl 6 (by decide) (by decide +kernel) rfl dX7_copyTree_21 ?_
  exact fx_iret S hr hlocks () hG (rfl) dX7_copyTree_24
theorem k529_L_copyTree {n : Nat} (hn : N0 + 231 ≤ n) (h0 : F N0 = some (.inr (9, [.ref (N0 + 1), .ref (N0 + 2), .ref (N0 + 11), .ref (N0 + 13), .ref (N0 + 63), .ref (N0 + 65), .ref (N0 + 85), .int (-1), .int (-1), .int 32]))) (h1 : F (N0 + 1) = some (.inl (cTr, 3, .inr (.inr (.inr (.inr (va_up (va_up (va_up (fun _ => none) 0 (some (N0 + 143))) 1 (some (N0 + 150))) 2 (some (N0 + 157))))))))) (h2 : F (N0 + 157) = some (.inr (7, [.ref (N0 + 158), .ref (N0 + 159), .ref (N0 + 160), .ref (N0 + 161), .ref (N0 + 162), .ref (N0 + 163), .int 1]))) (h3 : F (N0 + 158) = some (.inl (cC, 20, .inl (upd (fun _ => 0) 0 97)))) (h4 : F (N0 + 159) = some (.inl (cI, 20, .inl (fun _ => 0)))) (h5 : F (N0 + 160) = some (.inl (cI, 20, .inl (fun _ => 0)))) (h6 : F (N0 + 161) = some (.inl (cI, 20, .inl (upd (fun _ => 0) 0 (-1))))) (h7 : F (N0 + 229) = some (.inl (cL, 1, .inr (.inl (fun _ => 0))))) : Met l yL_copyTree wsL_copyTree ({ frames := 3, cells := 0, slots := 0, locals := 85 }) (va_Pc [.ref N0, .int 2, .int 2, .ref (N0 + 229)] (fP N0 D vwCl (fty cI cC cL cD cII cTr cTm cIt cB) (fen ql) F n)) (fQi N0 D vwCl (fty cI cC cL cD cII cTr cTm cIt cB) (fun (r : Int32) (_ : Unit) => r = 0) (fun _ => (fu (fu (fu (fu (fu (fu F (N0 + 158) (.inl (cC, 20, .inl (upd (fun _ => 0) 0 97)))) (N0 + 159) (.inl (cI, 20, .inl (fun _ => 0)))) (N0 + 160) (.inl (cI, 20, .inl (fun _ => 0)))) (N0 + 161) (.inl (cI, 20, .inl (upd (fun _ => 0) 0 (-1))))) (N0 + 157) (.inr (7, [.ref (N0 + 158), .ref (N0 + 159), .ref (N0 + 160), .ref (N0 + 161), .ref (N0 + 162), .ref (N0 + 163), .int 1]))) (N0 + 229) (.inl (cL, 1, .inr (.inl (vp_updL (fun _ => 0) 0 1)))))) (fun _ => n)) 0 0 (fA N0) := by
  refine fx_startW (hh := [(0, 10, 13, 19)]) 5 rfl rfl (Nat.le_of_ble_eq_true rfl) ?_ rfl
  intro p e s m below meth c ls S htab hr hlocks hG hl
  have hl : lv_has ls 5 [(0, .ref N0), (1, .int 2), (2, .int 2), (3, .ref (N0 + 229))] := hl
  have lt_h0 := hG.1.lt h0
  have lt_h1 := hG.1.lt h1
  have lt_h2 := hG.1.lt h2
  have lt_h3 := hG.1.lt h3
  have lt_h4 := hG.1.lt h4
  have lt_h5 := hG.1.lt h5
  have lt_h6 := hG.1.lt h6
  have lt_h7 := hG.1.lt h7
  refine lv_aload_n S.1 S.2.1 dL_copyTree_0 rfl (lv_at hl 3 rfl) ?_
  refine lv_iconst (v := 0) S.1 S.2.1 dL_copyTree_1 (by decide) ?_
  refine lv_aload_n S.1 S.2.1 dL_copyTree_2 rfl (lv_at hl 0 rfl) ?_
  refine lv_iload_n S.1 S.2.1 dL_copyTree_3 rfl (lv_at hl 1 rfl) ?_
  refine lv_iload_n S.1 S.2.1 dL_copyTree_4 rfl (lv_at hl 2 rfl) ?_
  refine fx_cVi (As := [.int 2, .int 2]) (rest := [.int 0, .ref (N0 + 229)]) S hG (k528_X7_copyTree (by omega) h0 h1 h2 h3 h4 h5 h6) h0 rfl (cwV 2 S.2.2.2.2 gL_copyTree_X7_copyTree rfl rfl rfl (by decide +kernel) ⟨Nat.le_of_ble_eq_true rfl, Nat.le_of_ble_eq_true rfl⟩) rfl hl.1 rfl (Nat.le_of_ble_eq_true rfl) dL_copyTree_5 ⟨Nat.le_of_ble_eq_true rfl, Nat.le_of_ble_eq_true rfl⟩ (fun rv_1 _ H locs hp hG => ?_)
  subst rv_1
  refine lv_i2l (v := 1) S.1 S.2.1 dL_copyTree_8 (by decide) ?_
  refine gx_last (f' := vp_updL (fun _ => 0) 0 1) S hG 2 (fu_at (by omega) (fu_at (by omega) (fu_at (by omega) (fu_at (by omega) (fu_at (by omega) h7))))) rfl (fin_l (by decide)) dL_copyTree_9 rfl (fun H locs hG => ?_)
  refine lv_goto (tgt := 17) S.1 S.2.1 dL_copyTree_10 (by decide) ?_
  refine lv_iconst (v := 0) S.1 S.2.1 dL_copyTree_17 (by decide) ?_
  exact fx_iret S hr hlocks () hG (rfl) dL_copyTree_18
theorem k530_X10_areNone {n : Nat} (hn : N0 + 231 ≤ n) (h0 : F (N0 + 164) = some (.inr (12, [.ref (N0 + 165), .int 0, .ref (N0 + 181), .int 0, .int 0, .int 0, .int (-1), .ref (ql 24), .ref (N0 + 182), .ref (N0 + 187), .ref (N0 + 208), .ref (N0 + 209), .ref (N0 + 210), .ref (N0 + 211), .ref (N0 + 212), .int 0, .ref (N0 + 213), .ref (N0 + 218), .ref (N0 + 223), .ref (N0 + 224), .ref (N0 + 225), .ref (N0 + 226), .ref (N0 + 227), .int 0, .int 0, .ref (N0 + 228), .null, .int (-1), .int 0, .int 0, .int 0]))) : Met l yX10_areNone wsX10_areNone ({ frames := 2, cells := 0, slots := 0, locals := 42 }) (va_Pc [.ref (N0 + 164), .int 2, .int 2] (fP N0 D vwCl (fty cI cC cL cD cII cTr cTm cIt cB) (fen ql) F n)) (fQi N0 D vwCl (fty cI cC cL cD cII cTr cTm cIt cB) (fun (r : Int32) (_ : Unit) => r = 0) (fun _ => (fu F (N0 + 164) (.inr (12, [.ref (N0 + 165), .int 0, .ref (N0 + 181), .int 0, .int 0, .int 0, .int (-1), .ref (ql 24), .ref (N0 + 182), .ref (N0 + 187), .ref (N0 + 208), .ref (N0 + 209), .ref (N0 + 210), .ref (N0 + 211), .ref (N0 + 212), .int 0, .ref (N0 + 213), .ref (N0 + 218), .ref (N0 + 223), .ref (N0 + 224), .ref (N0 + 225), .ref (N0 + 226), .ref (N0 + 227), .int 0, .int 0, .ref (N0 + 228), .null, .int (-1), .int 0, .int 0, .int 0])))) (fun _ => n)) 0 0 (fA N0) := by
  refine fx_start 3 rfl rfl (Nat.le_of_ble_eq_true rfl) ?_ rfl
  intro p e s m below meth c ls S hr hlocks hin hG hl
  have hl : lv_has ls 3 [(0, .ref (N0 + 164)), (1, .int 2), (2, .int 2)] := hl
  have lt_h0 := hG.1.lt h0
  refine lv_aload_n S.1 S.2.1 dX10_areNone_0 rfl (lv_at hl 0 rfl) ?_
  refine lv_iload_n S.1 S.2.1 dX10_areNone_1 rfl (lv_at hl 1 rfl) ?_
  refine fx_cSi (As := [.int 2]) (rest := [.ref (N0 + 164)]) S hG (k52_X10_isTree (by omega)) (cwS 1 S.2.2.2.2 gX10_areNone_X10_isTree rfl rfl rfl (by decide +kernel) ⟨Nat.le_of_ble_eq_true rfl, Nat.le_of_ble_eq_true rfl⟩) rfl hl.1 rfl (Nat.le_of_ble_eq_true rfl) dX10_areNone_2 ⟨Nat.le_of_ble_eq_true rfl, Nat.le_of_ble_eq_true rfl⟩ (fun rv_1 _ H locs hp hG => ?_)
  subst rv_1
  refine lv_if_eq (tgt := 19) S.1 S.2.1 dX10_areNone_5 (by decide) (fun c => absurd c (by decide)) (fun _ => ?_)
  refine lv_iload_n S.1 S.2.1 dX10_areNone_8 rfl (lv_at hl 2 rfl) ?_
  refine fx_cSi (As := [.int 2]) (rest := [.ref (N0 + 164)]) S hG (k52_X10_isTree (by omega)) (cwS 1 S.2.2.2.2 gX10_areNone_X10_isTree rfl rfl rfl (by decide +kernel) ⟨Nat.le_of_ble_eq_true rfl, Nat.le_of_ble_eq_true rfl⟩) rfl hl.1 rfl (Nat.le_of_ble_eq_true rfl) dX10_areNone_9 ⟨Nat.le_of_ble_eq_true rfl, Nat.le_of_ble_eq_true rfl⟩ (fun rv_2 _ H locs hp hG => ?_)
  subst rv_2
  refine lv_if_eq (tgt := 19) S.1 S.2.1 dX10_areNone_12 (by decide) (fun c => absurd c (by decide)) (fun _ => ?_)
  refine lv_iconst (v := 0) S.1 S.2.1 dX10_areNone_15 (by decide) ?_
  refine lv_goto (tgt := 20) S.1 S.2.1 dX10_areNone_16 (by decide) ?_
  refine gx_put (C := RX10) (T := TX10) (N := 31) (ty := .int) (v := .int 0) (fs' := [.ref (N0 + 165), .int 0, .ref (N0 + 181), .int 0, .int 0, .int 0, .int (-1), .ref (ql 24), .ref (N0 + 182), .ref (N0 + 187), .ref (N0 + 208), .ref (N0 + 209), .ref (N0 + 210), .ref (N0 + 211), .ref (N0 + 212), .int 0, .ref (N0 + 213), .ref (N0 + 218), .ref (N0 + 223), .ref (N0 + 224), .ref (N0 + 225), .ref (N0 + 226), .ref (N0 + 227), .int 0, .int 0, .ref (N0 + 228), .null, .int (-1), .int 0, .int 0, .int 0]) S hG h0 i_X10_areNone_X10 rfl 1 (by decide) tyX10 tyX10_ok nmX10 (by decide +kernel) rfl (by decide +kernel) rfl rfl (Nat.le_of_ble_eq_true rfl) rfl dX10_areNone_20 (fun H locs hG => ?_)
  refine lv_aload_n S.1 S.2.1 dX10_areNone_23 rfl (lv_at hl 0 rfl) ?_
  refine gx_get (C := RX10) (T := TX10) (N := 31) S hG fu_s i_X10_areNone_X10 rfl 1 (by decide) (by decide +kernel) rfl dX10_areNone_24 ?_
  refine lv_if_le (tgt := 34) S.1 S.2.1 dX10_areNone_27 (by decide) (fun _ => ?_) (fun c => absurd (by decide) c)
  refine lv_iconst (v := 0) S.1 S.2.1 dX10_areNone_34 (by decide) ?_
  exact fx_zret S hr (rfl) hlocks () hG (rfl) dX10_areNone_35
theorem k531_X9_copies {n : Nat} (hn : N0 + 231 ≤ n) (h0 : F (N0 + 176) = some (.inr (11, [.ref (N0 + 177), .ref (N0 + 178), .ref (N0 + 179), .ref (N0 + 180), .int 1]))) (h1 : F (N0 + 177) = some (.inl (cI, 20, .inl (upd (fun _ => 0) 0 97)))) (h2 : F (N0 + 178) = some (.inl (cI, 20, .inl (upd (fun _ => 0) 0 0)))) (h3 : F (N0 + 179) = some (.inl (cI, 20, .inl (upd (fun _ => 0) 0 0)))) (h4 : F (N0 + 180) = some (.inl (cI, 20, .inl (upd (fun _ => 0) 0 (-1))))) : Met l yX9_copies wsX9_copies ({ frames := 1, cells := 0, slots := 0, locals := 25 }) (va_Pc [.ref (N0 + 176), .ref (N0 + 176)] (fP N0 D vwCl (fty cI cC cL cD cII cTr cTm cIt cB) (fen ql) F n)) (fQv N0 D vwCl (fty cI cC cL cD cII cTr cTm cIt cB) (fun (_ : Unit) => True) (fun _ => (fu (fu (fu (fu (fu F (N0 + 176) (.inr (11, [.ref (N0 + 177), .ref (N0 + 178), .ref (N0 + 179), .ref (N0 + 180), .int 1]))) (N0 + 177) (.inl (cI, 20, .inl (upd (upd (fun _ => 0) 0 97) 0 97)))) (N0 + 178) (.inl (cI, 20, .inl (upd (upd (fun _ => 0) 0 0) 0 0)))) (N0 + 179) (.inl (cI, 20, .inl (upd (upd (fun _ => 0) 0 0) 0 0)))) (N0 + 180) (.inl (cI, 20, .inl (upd (upd (fun _ => 0) 0 (-1)) 0 (-1)))))) (fun _ => n)) 0 0 (fA N0) := by
  refine fx_start 3 rfl rfl (Nat.le_of_ble_eq_true rfl) ?_ rfl
  intro p e s m below meth c ls S hr hlocks hin hG hl
  have hl : lv_has ls 3 [(0, .ref (N0 + 176)), (1, .ref (N0 + 176))] := hl
  have lt_h0 := hG.1.lt h0
  have lt_h1 := hG.1.lt h1
  have lt_h2 := hG.1.lt h2
  have lt_h3 := hG.1.lt h3
  have lt_h4 := hG.1.lt h4
  refine lv_aload_n S.1 S.2.1 dX9_copies_0 rfl (lv_at hl 0 rfl) ?_
  refine lv_aload_n S.1 S.2.1 dX9_copies_1 rfl (lv_at hl 1 rfl) ?_
  refine gx_get (C := RX9) (T := TX9) (N := 5) S hG h0 i_X9_copies_X9 rfl 4 (by decide) (by decide +kernel) rfl dX9_copies_2 ?_
  refine gx_put (C := RX9) (T := TX9) (N := 5) (ty := .int) (v := .int 1) (fs' := [.ref (N0 + 177), .ref (N0 + 178), .ref (N0 + 179), .ref (N0 + 180), .int 1]) S hG h0 i_X9_copies_X9 rfl 4 (by decide) tyX9 tyX9_ok nmX9 (by decide +kernel) rfl (by decide +kernel) rfl rfl (Nat.le_of_ble_eq_true rfl) rfl dX9_copies_5 (fun H locs hG => ?_)
  refine lv_iconst (v := 0) S.1 S.2.1 dX9_copies_8 (by decide) ?_
  refine lv_istore_n (lv' := [(2, .int 0), (0, .ref (N0 + 176)), (1, .ref (N0 + 176))]) S.1 S.2.1 dX9_copies_9 rfl hl (by decide) rfl (fun ls hl => ?_)
  refine lv_iload_n S.1 S.2.1 dX9_copies_10 rfl (lv_at hl 0 rfl) ?_
  refine lv_aload_n S.1 S.2.1 dX9_copies_11 rfl (lv_at hl 1 rfl) ?_
  refine gx_get (C := RX9) (T := TX9) (N := 5) S hG fu_s i_X9_copies_X9 rfl 4 (by decide) (by decide +kernel) rfl dX9_copies_12 ?_
  refine lv_icmp_ge (tgt := 53) S.1 S.2.1 dX9_copies_15 (by decide) (fun c => absurd c (by decide)) (fun _ => ?_)
  refine lv_aload_n S.1 S.2.1 dX9_copies_18 rfl (lv_at hl 1 rfl) ?_
  refine lv_iload_n S.1 S.2.1 dX9_copies_19 rfl (lv_at hl 0 rfl) ?_
  refine lv_aload_n S.1 S.2.1 dX9_copies_20 rfl (lv_at hl 2 rfl) ?_
  refine gx_get (C := RX9) (T := TX9) (N := 5) S hG fu_s i_X9_copies_X9 rfl 0 (by decide) (by decide +kernel) rfl dX9_copies_21 ?_
  refine lv_iload_n S.1 S.2.1 dX9_copies_24 rfl (lv_at hl 0 rfl) ?_
  refine gx_iald (v := 97) S hG 0 (fu_at (by omega) h1) rfl (fin_l (by decide)) (by decide) dX9_copies_25 ?_
  refine lv_aload_n S.1 S.2.1 dX9_copies_26 rfl (lv_at hl 2 rfl) ?_
  refine gx_get (C := RX9) (T := TX9) (N := 5) S hG fu_s i_X9_copies_X9 rfl 1 (by decide) (by decide +kernel) rfl dX9_copies_27 ?_
  refine lv_iload_n S.1 S.2.1 dX9_copies_30 rfl (lv_at hl 0 rfl) ?_
  refine gx_iald (v := 0) S hG 0 (fu_at (by omega) h2) rfl (fin_l (by decide)) (by decide) dX9_copies_31 ?_
  refine lv_aload_n S.1 S.2.1 dX9_copies_32 rfl (lv_at hl 2 rfl) ?_
  refine gx_get (C := RX9) (T := TX9) (N := 5) S hG fu_s i_X9_copies_X9 rfl 2 (by decide) (by decide +kernel) rfl dX9_copies_33 ?_
  refine lv_iload_n S.1 S.2.1 dX9_copies_36 rfl (lv_at hl 0 rfl) ?_
  refine gx_iald (v := 0) S hG 0 (fu_at (by omega) h3) rfl (fin_l (by decide)) (by decide) dX9_copies_37 ?_
  refine lv_aload_n S.1 S.2.1 dX9_copies_38 rfl (lv_at hl 2 rfl) ?_
  refine gx_get (C := RX9) (T := TX9) (N := 5) S hG fu_s i_X9_copies_X9 rfl 3 (by decide) (by decide +kernel) rfl dX9_copies_39 ?_
  refine lv_iload_n S.1 S.2.1 dX9_copies_42 rfl (lv_at hl 0 rfl) ?_
  refine gx_iald (v := (-1)) S hG 0 (fu_at (by omega) h4) rfl (fin_l (by decide)) (by decide) dX9_copies_43 ?_
  refine fx_cVv (As := [.int 0, .int 97, .int 0, .int 0, .int (-1)]) (rest := []) S hG (k475_X9_sets (by omega) fu_s (fu_at (by omega) h1) (fu_at (by omega) h2) (fu_at (by omega) h3) (fu_at (by omega) h4)) fu_s rfl (cwV 5 S.2.2.2.2 gX9_copies_X9_sets rfl rfl rfl (by decide +kernel) ⟨Nat.le_of_ble_eq_true rfl, Nat.le_of_ble_eq_true rfl⟩) rfl hl.1 rfl (Nat.le_of_ble_eq_true rfl) dX9_copies_44 ⟨Nat.le_of_ble_eq_true rfl, Nat.le_of_ble_eq_true rfl⟩ (fun _ H locs hp hG => ?_)
  refine lv_iinc (v := 1) (lv' := [(2, .int 1), (0, .ref (N0 + 176)), (1, .ref (N0 + 176))]) S.1 S.2.1 dX9_copies_47 hl (k := 0) rfl (by decide) (by decide) rfl (fun ls hl => ?_)
  refine lv_goto (tgt := 10) S.1 S.2.1 dX9_copies_50 (by decide) ?_
  refine lv_iload_n S.1 S.2.1 dX9_copies_10 rfl (lv_at hl 0 rfl) ?_
  refine lv_aload_n S.1 S.2.1 dX9_copies_11 rfl (lv_at hl 1 rfl) ?_
  refine gx_get (C := RX9) (T := TX9) (N := 5) S hG (fu_at (by omega) (fu_at (by omega) (fu_at (by omega) (fu_at (by omega) fu_s)))) i_X9_copies_X9 rfl 4 (by decide) (by decide +kernel) rfl dX9_copies_12 ?_
  refine lv_icmp_ge (tgt := 53) S.1 S.2.1 dX9_copies_15 (by decide) (fun _ => ?_) (fun c => absurd (by decide) c)
  exact fx_vret S hr hlocks () hG trivial dX9_copies_53
theorem k532_X10_copyTree {n : Nat} (hn : N0 + 231 ≤ n) (h0 : F (N0 + 164) = some (.inr (12, [.ref (N0 + 165), .int 0, .ref (N0 + 181), .int 0, .int 0, .int 0, .int (-1), .ref (ql 24), .ref (N0 + 182), .ref (N0 + 187), .ref (N0 + 208), .ref (N0 + 209), .ref (N0 + 210), .ref (N0 + 211), .ref (N0 + 212), .int 0, .ref (N0 + 213), .ref (N0 + 218), .ref (N0 + 223), .ref (N0 + 224), .ref (N0 + 225), .ref (N0 + 226), .ref (N0 + 227), .int 0, .int 0, .ref (N0 + 228), .null, .int (-1), .int 0, .int 0, .int 0]))) (h1 : F (N0 + 165) = some (.inl (cTm, 3, .inr (.inr (.inr (.inr (va_up (va_up (va_up (fun _ => none) 0 (some (N0 + 166))) 1 (some (N0 + 171))) 2 (some (N0 + 176))))))))) (h2 : F (N0 + 176) = some (.inr (11, [.ref (N0 + 177), .ref (N0 + 178), .ref (N0 + 179), .ref (N0 + 180), .int 1]))) (h3 : F (N0 + 177) = some (.inl (cI, 20, .inl (upd (fun _ => 0) 0 97)))) (h4 : F (N0 + 178) = some (.inl (cI, 20, .inl (upd (fun _ => 0) 0 0)))) (h5 : F (N0 + 179) = some (.inl (cI, 20, .inl (upd (fun _ => 0) 0 0)))) (h6 : F (N0 + 180) = some (.inl (cI, 20, .inl (upd (fun _ => 0) 0 (-1))))) : Met l yX10_copyTree wsX10_copyTree ({ frames := 3, cells := 0, slots := 0, locals := 64 }) (va_Pc [.ref (N0 + 164), .int 2, .int 2] (fP N0 D vwCl (fty cI cC cL cD cII cTr cTm cIt cB) (fen ql) F n)) (fQi N0 D vwCl (fty cI cC cL cD cII cTr cTm cIt cB) (fun (r : Int32) (_ : Unit) => r = 1) (fun _ => (fu (fu (fu (fu (fu (fu F (N0 + 164) (.inr (12, [.ref (N0 + 165), .int 0, .ref (N0 + 181), .int 0, .int 0, .int 0, .int (-1), .ref (ql 24), .ref (N0 + 182), .ref (N0 + 187), .ref (N0 + 208), .ref (N0 + 209), .ref (N0 + 210), .ref (N0 + 211), .ref (N0 + 212), .int 0, .ref (N0 + 213), .ref (N0 + 218), .ref (N0 + 223), .ref (N0 + 224), .ref (N0 + 225), .ref (N0 + 226), .ref (N0 + 227), .int 0, .int 0, .ref (N0 + 228), .null, .int (-1), .int 0, .int 0, .int 0]))) (N0 + 176) (.inr (11, [.ref (N0 + 177), .ref (N0 + 178), .ref (N0 + 179), .ref (N0 + 180), .int 1]))) (N0 + 177) (.inl (cI, 20, .inl (upd (upd (fun _ => 0) 0 97) 0 97)))) (N0 + 178) (.inl (cI, 20, .inl (upd (upd (fun _ => 0) 0 0) 0 0)))) (N0 + 179) (.inl (cI, 20, .inl (upd (upd (fun _ => 0) 0 0) 0 0)))) (N0 + 180) (.inl (cI, 20, .inl (upd (upd (fun _ => 0) 0 (-1)) 0 (-1)))))) (fun _ => n)) 0 0 (fA N0) := by
  refine fx_start 3 rfl rfl (Nat.le_of_ble_eq_true rfl) ?_ rfl
  intro p e s m below meth c ls S hr hlocks hin hG hl
  have hl : lv_has ls 3 [(0, .ref (N0 + 164)), (1, .int 2), (2, .int 2)] := hl
  have lt_h0 := hG.1.lt h0
  have lt_h1 := hG.1.lt h1
  have lt_h2 := hG.1.lt h2
  have lt_h3 := hG.1.lt h3
  have lt_h4 := hG.1.lt h4
  have lt_h5 := hG.1.lt h5
  have lt_h6 := hG.1.lt h6
  refine lv_aload_n S.1 S.2.1 dX10_copyTree_0 rfl (lv_at hl 0 rfl) ?_
  refine lv_iload_n S.1 S.2.1 dX10_copyTree_1 rfl (lv_at hl 1 rfl) ?_
  refine lv_iload_n S.1 S.2.1 dX10_copyTree_2 rfl (lv_at hl 2 rfl) ?_
  refine fx_cVi (As := [.int 2, .int 2]) (rest := []) S hG (k530_X10_areNone (by omega) h0) h0 rfl (cwV 2 S.2.2.2.2 gX10_copyTree_X10_areNone rfl rfl rfl (by decide +kernel) ⟨Nat.le_of_ble_eq_true rfl, Nat.le_of_ble_eq_true rfl⟩) rfl hl.1 rfl (Nat.le_of_ble_eq_true rfl) dX10_copyTree_3 ⟨Nat.le_of_ble_eq_true rfl, Nat.le_of_ble_eq_true rfl⟩ (fun rv_1 _ H locs hp hG => ?_)
  subst rv_1
  refine lv_if_eq (tgt := 11) S.1 S.2.1 dX10_copyTree_6 (by decide) (fun _ => ?_) (fun c => absurd (by decide) c)
  refine lv_aload_n S.1 S.2.1 dX10_copyTree_11 rfl (lv_at hl 0 rfl) ?_
  refine gx_get (C := RX10) (T := TX10) (N := 31) S hG fu_s i_X10_copyTree_X10 rfl 0 (by decide) (by decide +kernel) rfl dX10_copyTree_12 ?_
  refine lv_iload_n S.1 S.2.1 dX10_copyTree_15 rfl (lv_at hl 2 rfl) ?_
  refine gx_aldq (x := (N0 + 176)) S hG 6 rfl (fu_at (by omega) h1) rfl (fin_l (by decide)) (rfl) dX10_copyTree_16 ?_
  refine lv_aload_n S.1 S.2.1 dX10_copyTree_17 rfl (lv_at hl 0 rfl) ?_
  refine gx_get (C := RX10) (T := TX10) (N := 31) S hG fu_s i_X10_copyTree_X10 rfl 0 (by decide) (by decide +kernel) rfl dX10_copyTree_18 ?_
  refine lv_iload_n S.1 S.2.1 dX10_copyTree_21 rfl (lv_at hl 1 rfl) ?_
  refine gx_aldq (x := (N0 + 176)) S hG 6 rfl (fu_at (by omega) h1) rfl (fin_l (by decide)) (rfl) dX10_copyTree_22 ?_
  refine fx_cVNv (host := "TreeDifferModel") (As := [.ref (N0 + 176)]) (rest := []) S hG (k531_X9_copies (by omega) (fu_at (by omega) h2) (fu_at (by omega) h3) (fu_at (by omega) h4) (fu_at (by omega) h5) (fu_at (by omega) h6)) (fu_at (by omega) h2) rfl ⟨(va_cnB 1 S.2.2.2.2 gX10_copyTree_X9_copies_n157 rfl rfl rfl (hG.nest (show _ ∈ fen2.2.2.1 from by decide)) (S.2.2.2.2 (.initialized RX9) (by decide +kernel)) (by decide +kernel) ⟨Nat.le_of_ble_eq_true rfl, Nat.le_of_ble_eq_true rfl⟩), S.2.2.2.2 (.instanceMethod yX9_copies) (by decide +kernel), S.2.2.2.2 (.selects RX9 yX9_copies yX9_copies) (by decide +kernel)⟩ rfl hl.1 rfl (Nat.le_of_ble_eq_true rfl) dX10_copyTree_23 ⟨Nat.le_of_ble_eq_true rfl, Nat.le_of_ble_eq_true rfl⟩ (fun _ H locs hp hG => ?_)
  refine lv_aload_n S.1 S.2.1 dX10_copyTree_26 rfl (lv_at hl 0 rfl) ?_
  refine gx_get (C := RX10) (T := TX10) (N := 31) S hG (fu_at (by omega) (fu_at (by omega) (fu_at (by omega) (fu_at (by omega) (fu_at (by omega) fu_s))))) i_X10_copyTree_X10 rfl 0 (by decide) (by decide +kernel) rfl dX10_copyTree_27 ?_
  refine lv_iload_n S.1 S.2.1 dX10_copyTree_30 rfl (lv_at hl 1 rfl) ?_
  refine gx_aldq (x := (N0 + 176)) S hG 6 rfl (fu_at (by omega) (fu_at (by omega) (fu_at (by omega) (fu_at (by omega) (fu_at (by omega) (fu_at (by omega) h1)))))) rfl (fin_l (by decide)) (rfl) dX10_copyTree_31 ?_
  refine gx_getN (C := RX9) (T := TX9) (N := 5) S hG (fu_at (by omega) (fu_at (by omega) (fu_at (by omega) (fu_at (by omega) fu_s)))) i_X10_copyTree_X9 rfl 4 (by decide) (List.mem_of_getElem? (i := 4) rfl) rfl dX10_copyTree_32 ?_
  exact fx_iret S hr hlocks () hG (rfl) dX10_copyTree_35
theorem k533_X7_copyTree {n : Nat} {a2 : Int32} (g_a2_ge_3 : 3 ≤ a2) (hst : l.stackTraces = false) (hn : N0 + 231 ≤ n) (h0 : F N0 = some (.inr (9, [.ref (N0 + 1), .ref (N0 + 2), .ref (N0 + 11), .ref (N0 + 13), .ref (N0 + 63), .ref (N0 + 65), .ref (N0 + 85), .int (-1), .int (-1), .int 32]))) (h1 : F (N0 + 1) = some (.inl (cTr, 3, .inr (.inr (.inr (.inr (va_up (va_up (va_up (fun _ => none) 0 (some (N0 + 143))) 1 (some (N0 + 150))) 2 (some (N0 + 157))))))))) : vx_Met l yX7_copyTree wsX7_copyTree ({ frames := 7, cells := 1, slots := 6, locals := 103 }) (va_Pc [.ref N0, .int 2, .int a2] (fP N0 D vwCl (fty cI cC cL cD cII cTr cTm cIt cB) (fen ql) F n)) (fNo N0 D vwCl (fty cI cC cL cD cII cTr cTm cIt cB) F n) (fXC N0 D vwCl (fty cI cC cL cD cII cTr cTm cIt cB) "java/lang/IndexOutOfBoundsException" F n) 1 6 (fA N0) := by
  refine fx_startX 5 rfl rfl (Nat.le_of_ble_eq_true rfl) ?_ rfl
  intro p e s m below meth c ls S htab hlocks hG hl
  have hl : lv_has ls 5 [(0, .ref N0), (1, .int 2), (2, .int a2)] := hl
  have lt_h0 := hG.1.lt h0
  have lt_h1 := hG.1.lt h1
  refine lv_aload_n S.1 S.2.1 dX7_copyTree_0 rfl (lv_at hl 0 rfl) ?_
  refine lv_iload_n S.1 S.2.1 dX7_copyTree_1 rfl (lv_at hl 1 rfl) ?_
  refine fx_cVr (As := [.int 2]) (rest := []) S hG (k48_X7_treeAt (by omega) h0 h1) h0 rfl (cwV 1 S.2.2.2.2 gX7_copyTree_X7_treeAt rfl rfl rfl (by decide +kernel) ⟨Nat.le_of_ble_eq_true rfl, Nat.le_of_ble_eq_true rfl⟩) rfl hl.1 rfl (Nat.le_of_ble_eq_true rfl) dX7_copyTree_2 ⟨Nat.le_of_ble_eq_true rfl, Nat.le_of_ble_eq_true rfl⟩ (fun rv_1 _ H locs hp hG => ?_)
  subst rv_1
  refine lv_astore_n (lv' := [(3, .ref (N0 + 157)), (0, .ref N0), (1, .int 2), (2, .int a2)]) S.1 S.2.1 dX7_copyTree_5 rfl hl (by decide) rfl (fun ls hl => ?_)
  refine lv_aload_n S.1 S.2.1 dX7_copyTree_6 rfl (lv_at hl 1 rfl) ?_
  refine lv_iload_n S.1 S.2.1 dX7_copyTree_7 rfl (lv_at hl 3 rfl) ?_
  refine fx_xV (As := [.int a2]) (rest := []) S hG (k478_X7_treeAt g_a2_ge_3 hst (by omega)) h0 rfl (cwV 1 S.2.2.2.2 gX7_copyTree_X7_treeAt rfl rfl rfl (by decide +kernel) ⟨Nat.le_of_ble_eq_true rfl, Nat.le_of_ble_eq_true rfl⟩) rfl hl.1 rfl (Nat.le_of_ble_eq_true rfl) dX7_copyTree_8 ⟨Nat.le_of_ble_eq_true rfl, Nat.le_of_ble_eq_true rfl⟩ (fun ceq_2 q_2 H locs n_3 hn_3 hG h1q_2 h2q_2 h3q_2 => ?_)
  exact fx_out htab hlocks hG (by omega) h1q_2 h2q_2 h3q_2 (by decide) (by decide)
theorem k534_L_copyTree {n : Nat} {a2 : Int32} (g_a2_ge_3 : 3 ≤ a2) (hst : l.stackTraces = false) (hn : N0 + 231 ≤ n) (h0 : F N0 = some (.inr (9, [.ref (N0 + 1), .ref (N0 + 2), .ref (N0 + 11), .ref (N0 + 13), .ref (N0 + 63), .ref (N0 + 65), .ref (N0 + 85), .int (-1), .int (-1), .int 32]))) (h1 : F (N0 + 1) = some (.inl (cTr, 3, .inr (.inr (.inr (.inr (va_up (va_up (va_up (fun _ => none) 0 (some (N0 + 143))) 1 (some (N0 + 150))) 2 (some (N0 + 157))))))))) : Met l yL_copyTree wsL_copyTree ({ frames := 8, cells := 1, slots := 6, locals := 127 }) (va_Pc [.ref N0, .int 2, .int a2, .ref (N0 + 229)] (fP N0 D vwCl (fty cI cC cL cD cII cTr cTm cIt cB) (fen ql) F n)) (fQi N0 D vwCl (fty cI cC cL cD cII cTr cTm cIt cB) (fun (r : Int32) (u : Nat) => r = 1 ∧ n ≤ u) (fun _ => F) (fun u => u)) 1 6 (fA N0) := by
  refine fx_startW (hh := [(0, 10, 13, 19)]) 5 rfl rfl (Nat.le_of_ble_eq_true rfl) ?_ rfl
  intro p e s m below meth c ls S htab hr hlocks hG hl
  have hl : lv_has ls 5 [(0, .ref N0), (1, .int 2), (2, .int a2), (3, .ref (N0 + 229))] := hl
  have lt_h0 := hG.1.lt h0
  have lt_h1 := hG.1.lt h1
  refine lv_aload_n S.1 S.2.1 dL_copyTree_0 rfl (lv_at hl 3 rfl) ?_
  refine lv_iconst (v := 0) S.1 S.2.1 dL_copyTree_1 (by decide) ?_
  refine lv_aload_n S.1 S.2.1 dL_copyTree_2 rfl (lv_at hl 0 rfl) ?_
  refine lv_iload_n S.1 S.2.1 dL_copyTree_3 rfl (lv_at hl 1 rfl) ?_
  refine lv_iload_n S.1 S.2.1 dL_copyTree_4 rfl (lv_at hl 2 rfl) ?_
  refine fx_xV (As := [.int 2, .int a2]) (rest := [.int 0, .ref (N0 + 229)]) S hG (k533_X7_copyTree g_a2_ge_3 hst (by omega) h0 h1) h0 rfl (cwV 2 S.2.2.2.2 gL_copyTree_X7_copyTree rfl rfl rfl (by decide +kernel) ⟨Nat.le_of_ble_eq_true rfl, Nat.le_of_ble_eq_true rfl⟩) rfl hl.1 rfl (Nat.le_of_ble_eq_true rfl) dL_copyTree_5 ⟨Nat.le_of_ble_eq_true rfl, Nat.le_of_ble_eq_true rfl⟩ (fun ceq_1 q_1 H locs n_2 hn_2 hG h1q_1 h2q_1 h3q_1 => ?_)
  refine fx_catch (hh := [(0, 10, 13, 19)]) S htab hG h1q_1 h2q_1 h3q_1 [] ⟨0, 10, 13, 19⟩ [] rfl [] (fun z hz => absurd hz List.not_mem_nil) (by decide) (by decide) (by decide +kernel) (List.mem_of_getElem? (i := 2) rfl) ?_
  refine lv_astore (lv' := [(4, .ref q_1), (0, .ref N0), (1, .int 2), (2, .int a2), (3, .ref (N0 + 229))]) S.1 S.2.1 dL_copyTree_13 hl (by decide) rfl (fun ls hl => ?_)
  refine lv_iconst (v := 1) S.1 S.2.1 dL_copyTree_15 (by decide) ?_
  exact fx_iret S hr hlocks n_2 hG (⟨rfl, hn_2⟩) dL_copyTree_16
theorem k535_X10_areNone {n : Nat} {a2 : Int32} (g_a2_ge_3 : 3 ≤ a2) (hn : N0 + 231 ≤ n) (h0 : F (N0 + 164) = some (.inr (12, [.ref (N0 + 165), .int 0, .ref (N0 + 181), .int 0, .int 0, .int 0, .int (-1), .ref (ql 24), .ref (N0 + 182), .ref (N0 + 187), .ref (N0 + 208), .ref (N0 + 209), .ref (N0 + 210), .ref (N0 + 211), .ref (N0 + 212), .int 0, .ref (N0 + 213), .ref (N0 + 218), .ref (N0 + 223), .ref (N0 + 224), .ref (N0 + 225), .ref (N0 + 226), .ref (N0 + 227), .int 0, .int 0, .ref (N0 + 228), .null, .int (-1), .int 0, .int 0, .int 0]))) : Met l yX10_areNone wsX10_areNone ({ frames := 2, cells := 0, slots := 0, locals := 42 }) (va_Pc [.ref (N0 + 164), .int 2, .int a2] (fP N0 D vwCl (fty cI cC cL cD cII cTr cTm cIt cB) (fen ql) F n)) (fQi N0 D vwCl (fty cI cC cL cD cII cTr cTm cIt cB) (fun (r : Int32) (_ : Unit) => r = 1) (fun _ => (fu F (N0 + 164) (.inr (12, [.ref (N0 + 165), .int 1, .ref (N0 + 181), .int 0, .int 0, .int 0, .int (-1), .ref (ql 24), .ref (N0 + 182), .ref (N0 + 187), .ref (N0 + 208), .ref (N0 + 209), .ref (N0 + 210), .ref (N0 + 211), .ref (N0 + 212), .int 0, .ref (N0 + 213), .ref (N0 + 218), .ref (N0 + 223), .ref (N0 + 224), .ref (N0 + 225), .ref (N0 + 226), .ref (N0 + 227), .int 0, .int 0, .ref (N0 + 228), .null, .int (-1), .int 0, .int 0, .int 0])))) (fun _ => n)) 0 0 (fA N0) := by
  refine fx_start 3 rfl rfl (Nat.le_of_ble_eq_true rfl) ?_ rfl
  intro p e s m below meth c ls S hr hlocks hin hG hl
  have hl : lv_has ls 3 [(0, .ref (N0 + 164)), (1, .int 2), (2, .int a2)] := hl
  have lt_h0 := hG.1.lt h0
  refine lv_aload_n S.1 S.2.1 dX10_areNone_0 rfl (lv_at hl 0 rfl) ?_
  refine lv_iload_n S.1 S.2.1 dX10_areNone_1 rfl (lv_at hl 1 rfl) ?_
  refine fx_cSi (As := [.int 2]) (rest := [.ref (N0 + 164)]) S hG (k52_X10_isTree (by omega)) (cwS 1 S.2.2.2.2 gX10_areNone_X10_isTree rfl rfl rfl (by decide +kernel) ⟨Nat.le_of_ble_eq_true rfl, Nat.le_of_ble_eq_true rfl⟩) rfl hl.1 rfl (Nat.le_of_ble_eq_true rfl) dX10_areNone_2 ⟨Nat.le_of_ble_eq_true rfl, Nat.le_of_ble_eq_true rfl⟩ (fun rv_1 _ H locs hp hG => ?_)
  subst rv_1
  refine lv_if_eq (tgt := 19) S.1 S.2.1 dX10_areNone_5 (by decide) (fun c => absurd c (by decide)) (fun _ => ?_)
  refine lv_iload_n S.1 S.2.1 dX10_areNone_8 rfl (lv_at hl 2 rfl) ?_
  refine fx_cSi (As := [.int a2]) (rest := [.ref (N0 + 164)]) S hG (k482_X10_isTree g_a2_ge_3 (by omega)) (cwS 1 S.2.2.2.2 gX10_areNone_X10_isTree rfl rfl rfl (by decide +kernel) ⟨Nat.le_of_ble_eq_true rfl, Nat.le_of_ble_eq_true rfl⟩) rfl hl.1 rfl (Nat.le_of_ble_eq_true rfl) dX10_areNone_9 ⟨Nat.le_of_ble_eq_true rfl, Nat.le_of_ble_eq_true rfl⟩ (fun rv_2 _ H locs hp hG => ?_)
  subst rv_2
  refine lv_if_eq (tgt := 19) S.1 S.2.1 dX10_areNone_12 (by decide) (fun _ => ?_) (fun c => absurd (by decide) c)
  refine lv_iconst (v := 1) S.1 S.2.1 dX10_areNone_19 (by decide) ?_
  refine gx_put (C := RX10) (T := TX10) (N := 31) (ty := .int) (v := .int 1) (fs' := [.ref (N0 + 165), .int 1, .ref (N0 + 181), .int 0, .int 0, .int 0, .int (-1), .ref (ql 24), .ref (N0 + 182), .ref (N0 + 187), .ref (N0 + 208), .ref (N0 + 209), .ref (N0 + 210), .ref (N0 + 211), .ref (N0 + 212), .int 0, .ref (N0 + 213), .ref (N0 + 218), .ref (N0 + 223), .ref (N0 + 224), .ref (N0 + 225), .ref (N0 + 226), .ref (N0 + 227), .int 0, .int 0, .ref (N0 + 228), .null, .int (-1), .int 0, .int 0, .int 0]) S hG h0 i_X10_areNone_X10 rfl 1 (by decide) tyX10 tyX10_ok nmX10 (by decide +kernel) rfl (by decide +kernel) rfl rfl (Nat.le_of_ble_eq_true rfl) rfl dX10_areNone_20 (fun H locs hG => ?_)
  refine lv_aload_n S.1 S.2.1 dX10_areNone_23 rfl (lv_at hl 0 rfl) ?_
  refine gx_get (C := RX10) (T := TX10) (N := 31) S hG fu_s i_X10_areNone_X10 rfl 1 (by decide) (by decide +kernel) rfl dX10_areNone_24 ?_
  refine lv_if_le (tgt := 34) S.1 S.2.1 dX10_areNone_27 (by decide) (fun c => absurd c (by decide)) (fun _ => ?_)
  refine lv_iconst (v := 1) S.1 S.2.1 dX10_areNone_30 (by decide) ?_
  refine lv_goto (tgt := 35) S.1 S.2.1 dX10_areNone_31 (by decide) ?_
  exact fx_zret S hr (rfl) hlocks () hG (rfl) dX10_areNone_35
theorem k536_X10_copyTree {n : Nat} {a2 : Int32} (g_a2_ge_3 : 3 ≤ a2) (hn : N0 + 231 ≤ n) (h0 : F (N0 + 164) = some (.inr (12, [.ref (N0 + 165), .int 0, .ref (N0 + 181), .int 0, .int 0, .int 0, .int (-1), .ref (ql 24), .ref (N0 + 182), .ref (N0 + 187), .ref (N0 + 208), .ref (N0 + 209), .ref (N0 + 210), .ref (N0 + 211), .ref (N0 + 212), .int 0, .ref (N0 + 213), .ref (N0 + 218), .ref (N0 + 223), .ref (N0 + 224), .ref (N0 + 225), .ref (N0 + 226), .ref (N0 + 227), .int 0, .int 0, .ref (N0 + 228), .null, .int (-1), .int 0, .int 0, .int 0]))) : Met l yX10_copyTree wsX10_copyTree ({ frames := 3, cells := 0, slots := 0, locals := 64 }) (va_Pc [.ref (N0 + 164), .int 2, .int a2] (fP N0 D vwCl (fty cI cC cL cD cII cTr cTm cIt cB) (fen ql) F n)) (fQi N0 D vwCl (fty cI cC cL cD cII cTr cTm cIt cB) (fun (r : Int32) (_ : Unit) => r = 0) (fun _ => (fu F (N0 + 164) (.inr (12, [.ref (N0 + 165), .int 1, .ref (N0 + 181), .int 0, .int 0, .int 0, .int (-1), .ref (ql 24), .ref (N0 + 182), .ref (N0 + 187), .ref (N0 + 208), .ref (N0 + 209), .ref (N0 + 210), .ref (N0 + 211), .ref (N0 + 212), .int 0, .ref (N0 + 213), .ref (N0 + 218), .ref (N0 + 223), .ref (N0 + 224), .ref (N0 + 225), .ref (N0 + 226), .ref (N0 + 227), .int 0, .int 0, .ref (N0 + 228), .null, .int (-1), .int 0, .int 0, .int 0])))) (fun _ => n)) 0 0 (fA N0) := by
  refine fx_start 3 rfl rfl (Nat.le_of_ble_eq_true rfl) ?_ rfl
  intro p e s m below meth c ls S hr hlocks hin hG hl
  have hl : lv_has ls 3 [(0, .ref (N0 + 164)), (1, .int 2), (2, .int a2)] := hl
  have lt_h0 := hG.1.lt h0
  refine lv_aload_n S.1 S.2.1 dX10_copyTree_0 rfl (lv_at hl 0 rfl) ?_
  refine lv_iload_n S.1 S.2.1 dX10_copyTree_1 rfl (lv_at hl 1 rfl) ?_
  refine lv_iload_n S.1 S.2.1 dX10_copyTree_2 rfl (lv_at hl 2 rfl) ?_
  refine fx_cVi (As := [.int 2, .int a2]) (rest := []) S hG (k535_X10_areNone g_a2_ge_3 (by omega) h0) h0 rfl (cwV 2 S.2.2.2.2 gX10_copyTree_X10_areNone rfl rfl rfl (by decide +kernel) ⟨Nat.le_of_ble_eq_true rfl, Nat.le_of_ble_eq_true rfl⟩) rfl hl.1 rfl (Nat.le_of_ble_eq_true rfl) dX10_copyTree_3 ⟨Nat.le_of_ble_eq_true rfl, Nat.le_of_ble_eq_true rfl⟩ (fun rv_1 _ H locs hp hG => ?_)
  subst rv_1
  refine lv_if_eq (tgt := 11) S.1 S.2.1 dX10_copyTree_6 (by decide) (fun c => absurd c (by decide)) (fun _ => ?_)
  refine lv_iconst (v := 0) S.1 S.2.1 dX10_copyTree_9 (by decide) ?_
  exact fx_iret S hr hlocks () hG (rfl) dX10_copyTree_10
theorem k537_X7_copyTree {n : Nat} {a1 : Int32} {a2 : Int32} (g_a1_ge_3 : 3 ≤ a1) (hst : l.stackTraces = false) (hn : N0 + 231 ≤ n) (h0 : F N0 = some (.inr (9, [.ref (N0 + 1), .ref (N0 + 2), .ref (N0 + 11), .ref (N0 + 13), .ref (N0 + 63), .ref (N0 + 65), .ref (N0 + 85), .int (-1), .int (-1), .int 32]))) : vx_Met l yX7_copyTree wsX7_copyTree ({ frames := 7, cells := 1, slots := 6, locals := 103 }) (va_Pc [.ref N0, .int a1, .int a2] (fP N0 D vwCl (fty cI cC cL cD cII cTr cTm cIt cB) (fen ql) F n)) (fNo N0 D vwCl (fty cI cC cL cD cII cTr cTm cIt cB) F n) (fXC N0 D vwCl (fty cI cC cL cD cII cTr cTm cIt cB) "java/lang/IndexOutOfBoundsException" F n) 1 6 (fA N0) := by
  refine fx_startX 5 rfl rfl (Nat.le_of_ble_eq_true rfl) ?_ rfl
  intro p e s m below meth c ls S htab hlocks hG hl
  have hl : lv_has ls 5 [(0, .ref N0), (1, .int a1), (2, .int a2)] := hl
  have lt_h0 := hG.1.lt h0
  refine lv_aload_n S.1 S.2.1 dX7_copyTree_0 rfl (lv_at hl 0 rfl) ?_
  refine lv_iload_n S.1 S.2.1 dX7_copyTree_1 rfl (lv_at hl 1 rfl) ?_
  refine fx_xV (As := [.int a1]) (rest := []) S hG (k54_X7_treeAt g_a1_ge_3 hst (by omega)) h0 rfl (cwV 1 S.2.2.2.2 gX7_copyTree_X7_treeAt rfl rfl rfl (by decide +kernel) ⟨Nat.le_of_ble_eq_true rfl, Nat.le_of_ble_eq_true rfl⟩) rfl hl.1 rfl (Nat.le_of_ble_eq_true rfl) dX7_copyTree_2 ⟨Nat.le_of_ble_eq_true rfl, Nat.le_of_ble_eq_true rfl⟩ (fun ceq_1 q_1 H locs n_2 hn_2 hG h1q_1 h2q_1 h3q_1 => ?_)
  exact fx_out htab hlocks hG (by omega) h1q_1 h2q_1 h3q_1 (by decide) (by decide)
theorem k538_L_copyTree {n : Nat} {a1 : Int32} {a2 : Int32} (g_a1_ge_3 : 3 ≤ a1) (hst : l.stackTraces = false) (hn : N0 + 231 ≤ n) (h0 : F N0 = some (.inr (9, [.ref (N0 + 1), .ref (N0 + 2), .ref (N0 + 11), .ref (N0 + 13), .ref (N0 + 63), .ref (N0 + 65), .ref (N0 + 85), .int (-1), .int (-1), .int 32]))) : Met l yL_copyTree wsL_copyTree ({ frames := 8, cells := 1, slots := 6, locals := 127 }) (va_Pc [.ref N0, .int a1, .int a2, .ref (N0 + 229)] (fP N0 D vwCl (fty cI cC cL cD cII cTr cTm cIt cB) (fen ql) F n)) (fQi N0 D vwCl (fty cI cC cL cD cII cTr cTm cIt cB) (fun (r : Int32) (u : Nat) => r = 1 ∧ n ≤ u) (fun _ => F) (fun u => u)) 1 6 (fA N0) := by
  refine fx_startW (hh := [(0, 10, 13, 19)]) 5 rfl rfl (Nat.le_of_ble_eq_true rfl) ?_ rfl
  intro p e s m below meth c ls S htab hr hlocks hG hl
  have hl : lv_has ls 5 [(0, .ref N0), (1, .int a1), (2, .int a2), (3, .ref (N0 + 229))] := hl
  have lt_h0 := hG.1.lt h0
  refine lv_aload_n S.1 S.2.1 dL_copyTree_0 rfl (lv_at hl 3 rfl) ?_
  refine lv_iconst (v := 0) S.1 S.2.1 dL_copyTree_1 (by decide) ?_
  refine lv_aload_n S.1 S.2.1 dL_copyTree_2 rfl (lv_at hl 0 rfl) ?_
  refine lv_iload_n S.1 S.2.1 dL_copyTree_3 rfl (lv_at hl 1 rfl) ?_
  refine lv_iload_n S.1 S.2.1 dL_copyTree_4 rfl (lv_at hl 2 rfl) ?_
  refine fx_xV (As := [.int a1, .int a2]) (rest := [.int 0, .ref (N0 + 229)]) S hG (k537_X7_copyTree g_a1_ge_3 hst (by omega) h0) h0 rfl (cwV 2 S.2.2.2.2 gL_copyTree_X7_copyTree rfl rfl rfl (by decide +kernel) ⟨Nat.le_of_ble_eq_true rfl, Nat.le_of_ble_eq_true rfl⟩) rfl hl.1 rfl (Nat.le_of_ble_eq_true rfl) dL_copyTree_5 ⟨Nat.le_of_ble_eq_true rfl, Nat.le_of_ble_eq_true rfl⟩ (fun ceq_1 q_1 H locs n_2 hn_2 hG h1q_1 h2q_1 h3q_1 => ?_)
  refine fx_catch (hh := [(0, 10, 13, 19)]) S htab hG h1q_1 h2q_1 h3q_1 [] ⟨0, 10, 13, 19⟩ [] rfl [] (fun z hz => absurd hz List.not_mem_nil) (by decide) (by decide) (by decide +kernel) (List.mem_of_getElem? (i := 2) rfl) ?_
  refine lv_astore (lv' := [(4, .ref q_1), (0, .ref N0), (1, .int a1), (2, .int a2), (3, .ref (N0 + 229))]) S.1 S.2.1 dL_copyTree_13 hl (by decide) rfl (fun ls hl => ?_)
  refine lv_iconst (v := 1) S.1 S.2.1 dL_copyTree_15 (by decide) ?_
  exact fx_iret S hr hlocks n_2 hG (⟨rfl, hn_2⟩) dL_copyTree_16
theorem k539_X10_areNone {n : Nat} {a1 : Int32} {a2 : Int32} (g_a1_ge_3 : 3 ≤ a1) (hn : N0 + 231 ≤ n) (h0 : F (N0 + 164) = some (.inr (12, [.ref (N0 + 165), .int 0, .ref (N0 + 181), .int 0, .int 0, .int 0, .int (-1), .ref (ql 24), .ref (N0 + 182), .ref (N0 + 187), .ref (N0 + 208), .ref (N0 + 209), .ref (N0 + 210), .ref (N0 + 211), .ref (N0 + 212), .int 0, .ref (N0 + 213), .ref (N0 + 218), .ref (N0 + 223), .ref (N0 + 224), .ref (N0 + 225), .ref (N0 + 226), .ref (N0 + 227), .int 0, .int 0, .ref (N0 + 228), .null, .int (-1), .int 0, .int 0, .int 0]))) : Met l yX10_areNone wsX10_areNone ({ frames := 2, cells := 0, slots := 0, locals := 42 }) (va_Pc [.ref (N0 + 164), .int a1, .int a2] (fP N0 D vwCl (fty cI cC cL cD cII cTr cTm cIt cB) (fen ql) F n)) (fQi N0 D vwCl (fty cI cC cL cD cII cTr cTm cIt cB) (fun (r : Int32) (_ : Unit) => r = 1) (fun _ => (fu F (N0 + 164) (.inr (12, [.ref (N0 + 165), .int 1, .ref (N0 + 181), .int 0, .int 0, .int 0, .int (-1), .ref (ql 24), .ref (N0 + 182), .ref (N0 + 187), .ref (N0 + 208), .ref (N0 + 209), .ref (N0 + 210), .ref (N0 + 211), .ref (N0 + 212), .int 0, .ref (N0 + 213), .ref (N0 + 218), .ref (N0 + 223), .ref (N0 + 224), .ref (N0 + 225), .ref (N0 + 226), .ref (N0 + 227), .int 0, .int 0, .ref (N0 + 228), .null, .int (-1), .int 0, .int 0, .int 0])))) (fun _ => n)) 0 0 (fA N0) := by
  refine fx_start 3 rfl rfl (Nat.le_of_ble_eq_true rfl) ?_ rfl
  intro p e s m below meth c ls S hr hlocks hin hG hl
  have hl : lv_has ls 3 [(0, .ref (N0 + 164)), (1, .int a1), (2, .int a2)] := hl
  have lt_h0 := hG.1.lt h0
  refine lv_aload_n S.1 S.2.1 dX10_areNone_0 rfl (lv_at hl 0 rfl) ?_
  refine lv_iload_n S.1 S.2.1 dX10_areNone_1 rfl (lv_at hl 1 rfl) ?_
  refine fx_cSi (As := [.int a1]) (rest := [.ref (N0 + 164)]) S hG (k58_X10_isTree g_a1_ge_3 (by omega)) (cwS 1 S.2.2.2.2 gX10_areNone_X10_isTree rfl rfl rfl (by decide +kernel) ⟨Nat.le_of_ble_eq_true rfl, Nat.le_of_ble_eq_true rfl⟩) rfl hl.1 rfl (Nat.le_of_ble_eq_true rfl) dX10_areNone_2 ⟨Nat.le_of_ble_eq_true rfl, Nat.le_of_ble_eq_true rfl⟩ (fun rv_1 _ H locs hp hG => ?_)
  subst rv_1
  refine lv_if_eq (tgt := 19) S.1 S.2.1 dX10_areNone_5 (by decide) (fun _ => ?_) (fun c => absurd (by decide) c)
  refine lv_iconst (v := 1) S.1 S.2.1 dX10_areNone_19 (by decide) ?_
  refine gx_put (C := RX10) (T := TX10) (N := 31) (ty := .int) (v := .int 1) (fs' := [.ref (N0 + 165), .int 1, .ref (N0 + 181), .int 0, .int 0, .int 0, .int (-1), .ref (ql 24), .ref (N0 + 182), .ref (N0 + 187), .ref (N0 + 208), .ref (N0 + 209), .ref (N0 + 210), .ref (N0 + 211), .ref (N0 + 212), .int 0, .ref (N0 + 213), .ref (N0 + 218), .ref (N0 + 223), .ref (N0 + 224), .ref (N0 + 225), .ref (N0 + 226), .ref (N0 + 227), .int 0, .int 0, .ref (N0 + 228), .null, .int (-1), .int 0, .int 0, .int 0]) S hG h0 i_X10_areNone_X10 rfl 1 (by decide) tyX10 tyX10_ok nmX10 (by decide +kernel) rfl (by decide +kernel) rfl rfl (Nat.le_of_ble_eq_true rfl) rfl dX10_areNone_20 (fun H locs hG => ?_)
  refine lv_aload_n S.1 S.2.1 dX10_areNone_23 rfl (lv_at hl 0 rfl) ?_
  refine gx_get (C := RX10) (T := TX10) (N := 31) S hG fu_s i_X10_areNone_X10 rfl 1 (by decide) (by decide +kernel) rfl dX10_areNone_24 ?_
  refine lv_if_le (tgt := 34) S.1 S.2.1 dX10_areNone_27 (by decide) (fun c => absurd c (by decide)) (fun _ => ?_)
  refine lv_iconst (v := 1) S.1 S.2.1 dX10_areNone_30 (by decide) ?_
  refine lv_goto (tgt := 35) S.1 S.2.1 dX10_areNone_31 (by decide) ?_
  exact fx_zret S hr (rfl) hlocks () hG (rfl) dX10_areNone_35
theorem k540_X10_copyTree {n : Nat} {a1 : Int32} {a2 : Int32} (g_a1_ge_3 : 3 ≤ a1) (hn : N0 + 231 ≤ n) (h0 : F (N0 + 164) = some (.inr (12, [.ref (N0 + 165), .int 0, .ref (N0 + 181), .int 0, .int 0, .int 0, .int (-1), .ref (ql 24), .ref (N0 + 182), .ref (N0 + 187), .ref (N0 + 208), .ref (N0 + 209), .ref (N0 + 210), .ref (N0 + 211), .ref (N0 + 212), .int 0, .ref (N0 + 213), .ref (N0 + 218), .ref (N0 + 223), .ref (N0 + 224), .ref (N0 + 225), .ref (N0 + 226), .ref (N0 + 227), .int 0, .int 0, .ref (N0 + 228), .null, .int (-1), .int 0, .int 0, .int 0]))) : Met l yX10_copyTree wsX10_copyTree ({ frames := 3, cells := 0, slots := 0, locals := 64 }) (va_Pc [.ref (N0 + 164), .int a1, .int a2] (fP N0 D vwCl (fty cI cC cL cD cII cTr cTm cIt cB) (fen ql) F n)) (fQi N0 D vwCl (fty cI cC cL cD cII cTr cTm cIt cB) (fun (r : Int32) (_ : Unit) => r = 0) (fun _ => (fu F (N0 + 164) (.inr (12, [.ref (N0 + 165), .int 1, .ref (N0 + 181), .int 0, .int 0, .int 0, .int (-1), .ref (ql 24), .ref (N0 + 182), .ref (N0 + 187), .ref (N0 + 208), .ref (N0 + 209), .ref (N0 + 210), .ref (N0 + 211), .ref (N0 + 212), .int 0, .ref (N0 + 213), .ref (N0 + 218), .ref (N0 + 223), .ref (N0 + 224), .ref (N0 + 225), .ref (N0 + 226), .ref (N0 + 227), .int 0, .int 0, .ref (N0 + 228), .null, .int (-1), .int 0, .int 0, .int 0])))) (fun _ => n)) 0 0 (fA N0) := by
  refine fx_start 3 rfl rfl (Nat.le_of_ble_eq_true rfl) ?_ rfl
  intro p e s m below meth c ls S hr hlocks hin hG hl
  have hl : lv_has ls 3 [(0, .ref (N0 + 164)), (1, .int a1), (2, .int a2)] := hl
  have lt_h0 := hG.1.lt h0
  refine lv_aload_n S.1 S.2.1 dX10_copyTree_0 rfl (lv_at hl 0 rfl) ?_
  refine lv_iload_n S.1 S.2.1 dX10_copyTree_1 rfl (lv_at hl 1 rfl) ?_
  refine lv_iload_n S.1 S.2.1 dX10_copyTree_2 rfl (lv_at hl 2 rfl) ?_
  refine fx_cVi (As := [.int a1, .int a2]) (rest := []) S hG (k539_X10_areNone g_a1_ge_3 (by omega) h0) h0 rfl (cwV 2 S.2.2.2.2 gX10_copyTree_X10_areNone rfl rfl rfl (by decide +kernel) ⟨Nat.le_of_ble_eq_true rfl, Nat.le_of_ble_eq_true rfl⟩) rfl hl.1 rfl (Nat.le_of_ble_eq_true rfl) dX10_copyTree_3 ⟨Nat.le_of_ble_eq_true rfl, Nat.le_of_ble_eq_true rfl⟩ (fun rv_1 _ H locs hp hG => ?_)
  subst rv_1
  refine lv_if_eq (tgt := 11) S.1 S.2.1 dX10_copyTree_6 (by decide) (fun c => absurd c (by decide)) (fun _ => ?_)
  refine lv_iconst (v := 0) S.1 S.2.1 dX10_copyTree_9 (by decide) ?_
  exact fx_iret S hr hlocks () hG (rfl) dX10_copyTree_10
theorem l11_0 {p : Program} {e : Env} {s : State} {m : MethodId} {below : List Frame} {meth : Method} {c : Code} {b : Nat} {xs : Nat → Int32} {H : Heap} {locs : List Loc} {ls : Array Slot} {n : Nat} {a1 a2 a3 a4 : Int32} (g_a1_le_m1 : a1 ≤ (-1)) (S : CallFix p m c cL_law 9 s #[.ref b] wsL_law "TreeDifferLaw") (hr : meth.sig.returnType = ret) (hlocks : meth.locks = false) (hst : l.stackTraces = false) (hX : va_X b 5 xs s s.heap) (hbl : b < s.heap.size ∧ b < N0) (hN : s.heap.size = N0) (hn : N0 + 231 ≤ n) (hx1 : xs 1 = a1) (hx2 : xs 2 = a2) (hx3 : xs 3 = a3) (hx4 : xs 4 = a4) (h0 : F N0 = some (.inr (9, [.ref (N0 + 1), .ref (N0 + 2), .ref (N0 + 11), .ref (N0 + 13), .ref (N0 + 63), .ref (N0 + 65), .ref (N0 + 85), .int (-1), .int (-1), .int 32]))) (h1 : F (N0 + 164) = some (.inr (12, [.ref (N0 + 165), .int 0, .ref (N0 + 181), .int 0, .int 0, .int 0, .int (-1), .ref (ql 24), .ref (N0 + 182), .ref (N0 + 187), .ref (N0 + 208), .ref (N0 + 209), .ref (N0 + 210), .ref (N0 + 211), .ref (N0 + 212), .int 0, .ref (N0 + 213), .ref (N0 + 218), .ref (N0 + 223), .ref (N0 + 224), .ref (N0 + 225), .ref (N0 + 226), .ref (N0 + 227), .int 0, .int 0, .ref (N0 + 228), .null, .int (-1), .int 0, .int 0, .int 0]))) (hG : fG N0 D vwCl (fty cI cC cL cD cII cTr cTm cIt cB) (fen ql) s F n H locs) (hl : lv_has ls 9 [(0, .ref b), (1, .ref N0), (2, .ref (N0 + 164)), (3, .ref (N0 + 229)), (4, .ref (N0 + 230)), (5, .int 0)]) : W p l e { frames := 2048, cells := 600002, slots := 7302232, locals := 84000 } s m #[.ref b] below meth c H locs 231 4980 (lw_Z below #[.ref b] s) (F0 m 934 ls []) := by
  have lt_h0 := hG.1.lt h0
  have lt_h1 := hG.1.lt h1
  refine lv_aload_n S.1 S.2.1 dL_law_934 rfl (lv_at hl 1 rfl) ?_
  refine lv_aload_n S.1 S.2.1 dL_law_935 rfl (lv_at hl 0 rfl) ?_
  refine lv_iload S.1 S.2.1 dL_law_936 (lv_at hl 5 rfl) ?_
  refine lv_iconst (v := 1) S.1 S.2.1 dL_law_938 (by decide) ?_
  refine lv_iadd S.1 S.2.1 dL_law_939 ?_
  refine fx_topi (y := 1) (by decide) ?_
  refine gx_sld (v := a1) S hG hX hbl (fin_l (by decide)) hx1 dL_law_940 ?_
  refine lv_aload_n S.1 S.2.1 dL_law_941 rfl (lv_at hl 0 rfl) ?_
  refine lv_iload S.1 S.2.1 dL_law_942 (lv_at hl 5 rfl) ?_
  refine lv_iconst (v := 2) S.1 S.2.1 dL_law_944 (by decide) ?_
  refine lv_iadd S.1 S.2.1 dL_law_945 ?_
  refine fx_topi (y := 2) (by decide) ?_
  refine gx_sld (v := a2) S hG hX hbl (fin_l (by decide)) hx2 dL_law_946 ?_
  refine lv_aload_n S.1 S.2.1 dL_law_947 rfl (lv_at hl 3 rfl) ?_
  refine fx_cTi (As := [.ref N0, .int a1, .int a2, .ref (N0 + 229)]) (rest := []) S hG (k447_L_copyTree g_a1_le_m1 hst (by omega) h0) (vx_cwSW 4 S.2.2.2.2 gL_law_L_copyTree rfl rfl rfl (by decide +kernel) ⟨Nat.le_of_ble_eq_true rfl, Nat.le_of_ble_eq_true rfl⟩) rfl hl.1 rfl (Nat.le_of_ble_eq_true rfl) dL_law_948 ⟨Nat.le_of_ble_eq_true rfl, Nat.le_of_ble_eq_true rfl⟩ (fun rv_u_1 u_1 H locs hp hG => ?_)
  obtain ⟨rfl, hu_1⟩ := hp
  refine W.widen (k := 232) (n := 4986) (by decide) (by decide) ?_
  refine lv_istore (lv' := [(6, .int 1), (0, .ref b), (1, .ref N0), (2, .ref (N0 + 164)), (3, .ref (N0 + 229)), (4, .ref (N0 + 230)), (5, .int 0)]) S.1 S.2.1 dL_law_951 hl (by decide) rfl (fun ls hl => ?_)
  refine lv_aload_n S.1 S.2.1 dL_law_953 rfl (lv_at hl 3 rfl) ?_
  refine lv_aload_n S.1 S.2.1 dL_law_954 rfl (lv_at hl 1 rfl) ?_
  refine lv_iload S.1 S.2.1 dL_law_955 (lv_at hl 6 rfl) ?_
  refine lv_iconst (v := 1) S.1 S.2.1 dL_law_957 (by decide) ?_
  refine lv_iadd S.1 S.2.1 dL_law_958 ?_
  refine fx_topi (y := 1) (by decide) ?_
  refine gx_sld (v := a1) S hG hX hbl (fin_l (by decide)) hx1 dL_law_959 ?_
  refine lv_aload_n S.1 S.2.1 dL_law_960 rfl (lv_at hl 1 rfl) ?_
  refine lv_iload S.1 S.2.1 dL_law_961 (lv_at hl 6 rfl) ?_
  refine lv_iconst (v := 2) S.1 S.2.1 dL_law_963 (by decide) ?_
  refine lv_iadd S.1 S.2.1 dL_law_964 ?_
  refine fx_topi (y := 2) (by decide) ?_
  refine gx_sld (v := a2) S hG hX hbl (fin_l (by decide)) hx2 dL_law_965 ?_
  refine fx_cVi (As := [.int a1, .int a2]) (rest := []) S hG (k449_X10_copyTree g_a1_le_m1 (by omega) h1) h1 rfl (cwV 2 S.2.2.2.2 gL_law_X10_copyTree rfl rfl rfl (by decide +kernel) ⟨Nat.le_of_ble_eq_true rfl, Nat.le_of_ble_eq_true rfl⟩) rfl hl.1 rfl (Nat.le_of_ble_eq_true rfl) dL_law_966 ⟨Nat.le_of_ble_eq_true rfl, Nat.le_of_ble_eq_true rfl⟩ (fun rv_2 _ H locs hp hG => ?_)
  subst rv_2
  refine lv_istore (lv' := [(7, .int 0), (6, .int 1), (0, .ref b), (1, .ref N0), (2, .ref (N0 + 164)), (3, .ref (N0 + 229)), (4, .ref (N0 + 230)), (5, .int 0)]) S.1 S.2.1 dL_law_969 hl (by decide) rfl (fun ls hl => ?_)
  refine lv_aload_n S.1 S.2.1 dL_law_971 rfl (lv_at hl 4 rfl) ?_
  refine fx_cVi (As := []) (rest := []) S hG (k25_X10_thrown (by omega) fu_s) fu_s rfl (cwV 0 S.2.2.2.2 gL_law_X10_thrown rfl rfl rfl (by decide +kernel) ⟨Nat.le_of_ble_eq_true rfl, Nat.le_of_ble_eq_true rfl⟩) rfl hl.1 rfl (Nat.le_of_ble_eq_true rfl) dL_law_972 ⟨Nat.le_of_ble_eq_true rfl, Nat.le_of_ble_eq_true rfl⟩ (fun rv_3 _ H locs hp hG => ?_)
  subst rv_3
  refine lv_iload S.1 S.2.1 dL_law_975 (lv_at hl 1 rfl) ?_
  refine lv_icmp_eq (tgt := 982) S.1 S.2.1 dL_law_977 (by decide) (fun _ => ?_) (fun c => absurd (by decide) c)
  refine lv_iload S.1 S.2.1 dL_law_982 (lv_at hl 1 rfl) ?_
  refine lv_if_ne (tgt := 999) S.1 S.2.1 dL_law_984 (by decide) (fun _ => ?_) (fun c => absurd c (by decide))
  refine lv_goto (tgt := 2650) S.1 S.2.1 dL_law_999 (by decide) ?_
  refine lv_iinc (v := 5) (lv' := [(5, .int 5), (7, .int 0), (6, .int 1), (0, .ref b), (1, .ref N0), (2, .ref (N0 + 164)), (3, .ref (N0 + 229)), (4, .ref (N0 + 230))]) S.1 S.2.1 dL_law_2650 hl (k := 7) rfl (by decide) (by decide) rfl (fun ls hl => ?_)
  refine lv_goto (tgt := 28) S.1 S.2.1 dL_law_2653 (by decide) ?_
  refine lv_iload S.1 S.2.1 dL_law_28 (lv_at hl 0 rfl) ?_
  refine lv_aload_n S.1 S.2.1 dL_law_30 rfl (lv_at hl 3 rfl) ?_
  refine gx_slen (v := 5) S hG hX hbl rfl dL_law_31 ?_
  refine lv_iconst (v := 5) S.1 S.2.1 dL_law_32 (by decide) ?_
  refine lv_isub S.1 S.2.1 dL_law_33 ?_
  refine fx_topi (y := 0) (by decide) ?_
  refine lv_icmp_gt (tgt := 2656) S.1 S.2.1 dL_law_34 (by decide) (fun _ => ?_) (fun c => absurd (by decide) c)
  refine lv_iconst (v := 1) S.1 S.2.1 dL_law_2656 (by decide) ?_
  refine va_forget (fun q hq => by rw [hN]; exact hG.2.1.2.2 q hq) ?_
  refine W.widen (k := 600002) (n := 7302232) (by decide) (by decide) ?_
  exact lw_ret (d0 := s.drawn) (Drawn.sameBut.refl _ _) S.1 S.2.1 hr hlocks dL_law_2657
theorem l11_1 {p : Program} {e : Env} {s : State} {m : MethodId} {below : List Frame} {meth : Method} {c : Code} {b : Nat} {xs : Nat → Int32} {H : Heap} {locs : List Loc} {ls : Array Slot} {n : Nat} {a2 a3 a4 : Int32} (g_a2_le_m1 : a2 ≤ (-1)) (S : CallFix p m c cL_law 9 s #[.ref b] wsL_law "TreeDifferLaw") (hr : meth.sig.returnType = ret) (hlocks : meth.locks = false) (hst : l.stackTraces = false) (hX : va_X b 5 xs s s.heap) (hbl : b < s.heap.size ∧ b < N0) (hN : s.heap.size = N0) (hn : N0 + 231 ≤ n) (hx1 : xs 1 = 0) (hx2 : xs 2 = a2) (hx3 : xs 3 = a3) (hx4 : xs 4 = a4) (h0 : F N0 = some (.inr (9, [.ref (N0 + 1), .ref (N0 + 2), .ref (N0 + 11), .ref (N0 + 13), .ref (N0 + 63), .ref (N0 + 65), .ref (N0 + 85), .int (-1), .int (-1), .int 32]))) (h1 : F (N0 + 1) = some (.inl (cTr, 3, .inr (.inr (.inr (.inr (va_up (va_up (va_up (fun _ => none) 0 (some (N0 + 143))) 1 (some (N0 + 150))) 2 (some (N0 + 157))))))))) (h2 : F (N0 + 164) = some (.inr (12, [.ref (N0 + 165), .int 0, .ref (N0 + 181), .int 0, .int 0, .int 0, .int (-1), .ref (ql 24), .ref (N0 + 182), .ref (N0 + 187), .ref (N0 + 208), .ref (N0 + 209), .ref (N0 + 210), .ref (N0 + 211), .ref (N0 + 212), .int 0, .ref (N0 + 213), .ref (N0 + 218), .ref (N0 + 223), .ref (N0 + 224), .ref (N0 + 225), .ref (N0 + 226), .ref (N0 + 227), .int 0, .int 0, .ref (N0 + 228), .null, .int (-1), .int 0, .int 0, .int 0]))) (hG : fG N0 D vwCl (fty cI cC cL cD cII cTr cTm cIt cB) (fen ql) s F n H locs) (hl : lv_has ls 9 [(0, .ref b), (1, .ref N0), (2, .ref (N0 + 164)), (3, .ref (N0 + 229)), (4, .ref (N0 + 230)), (5, .int 0)]) : W p l e { frames := 2048, cells := 600002, slots := 7302232, locals := 84000 } s m #[.ref b] below meth c H locs 231 4980 (lw_Z below #[.ref b] s) (F0 m 934 ls []) := by
  have lt_h0 := hG.1.lt h0
  have lt_h1 := hG.1.lt h1
  have lt_h2 := hG.1.lt h2
  refine lv_aload_n S.1 S.2.1 dL_law_934 rfl (lv_at hl 1 rfl) ?_
  refine lv_aload_n S.1 S.2.1 dL_law_935 rfl (lv_at hl 0 rfl) ?_
  refine lv_iload S.1 S.2.1 dL_law_936 (lv_at hl 5 rfl) ?_
  refine lv_iconst (v := 1) S.1 S.2.1 dL_law_938 (by decide) ?_
  refine lv_iadd S.1 S.2.1 dL_law_939 ?_
  refine fx_topi (y := 1) (by decide) ?_
  refine gx_sld (v := 0) S hG hX hbl (fin_l (by decide)) hx1 dL_law_940 ?_
  refine lv_aload_n S.1 S.2.1 dL_law_941 rfl (lv_at hl 0 rfl) ?_
  refine lv_iload S.1 S.2.1 dL_law_942 (lv_at hl 5 rfl) ?_
  refine lv_iconst (v := 2) S.1 S.2.1 dL_law_944 (by decide) ?_
  refine lv_iadd S.1 S.2.1 dL_law_945 ?_
  refine fx_topi (y := 2) (by decide) ?_
  refine gx_sld (v := a2) S hG hX hbl (fin_l (by decide)) hx2 dL_law_946 ?_
  refine lv_aload_n S.1 S.2.1 dL_law_947 rfl (lv_at hl 3 rfl) ?_
  refine fx_cTi (As := [.ref N0, .int 0, .int a2, .ref (N0 + 229)]) (rest := []) S hG (k452_L_copyTree g_a2_le_m1 hst (by omega) h0 h1) (vx_cwSW 4 S.2.2.2.2 gL_law_L_copyTree rfl rfl rfl (by decide +kernel) ⟨Nat.le_of_ble_eq_true rfl, Nat.le_of_ble_eq_true rfl⟩) rfl hl.1 rfl (Nat.le_of_ble_eq_true rfl) dL_law_948 ⟨Nat.le_of_ble_eq_true rfl, Nat.le_of_ble_eq_true rfl⟩ (fun rv_u_1 u_1 H locs hp hG => ?_)
  obtain ⟨rfl, hu_1⟩ := hp
  refine W.widen (k := 232) (n := 4986) (by decide) (by decide) ?_
  refine lv_istore (lv' := [(6, .int 1), (0, .ref b), (1, .ref N0), (2, .ref (N0 + 164)), (3, .ref (N0 + 229)), (4, .ref (N0 + 230)), (5, .int 0)]) S.1 S.2.1 dL_law_951 hl (by decide) rfl (fun ls hl => ?_)
  refine lv_aload_n S.1 S.2.1 dL_law_953 rfl (lv_at hl 3 rfl) ?_
  refine lv_aload_n S.1 S.2.1 dL_law_954 rfl (lv_at hl 1 rfl) ?_
  refine lv_iload S.1 S.2.1 dL_law_955 (lv_at hl 6 rfl) ?_
  refine lv_iconst (v := 1) S.1 S.2.1 dL_law_957 (by decide) ?_
  refine lv_iadd S.1 S.2.1 dL_law_958 ?_
  refine fx_topi (y := 1) (by decide) ?_
  refine gx_sld (v := 0) S hG hX hbl (fin_l (by decide)) hx1 dL_law_959 ?_
  refine lv_aload_n S.1 S.2.1 dL_law_960 rfl (lv_at hl 1 rfl) ?_
  refine lv_iload S.1 S.2.1 dL_law_961 (lv_at hl 6 rfl) ?_
  refine lv_iconst (v := 2) S.1 S.2.1 dL_law_963 (by decide) ?_
  refine lv_iadd S.1 S.2.1 dL_law_964 ?_
  refine fx_topi (y := 2) (by decide) ?_
  refine gx_sld (v := a2) S hG hX hbl (fin_l (by decide)) hx2 dL_law_965 ?_
  refine fx_cVi (As := [.int 0, .int a2]) (rest := []) S hG (k456_X10_copyTree g_a2_le_m1 (by omega) h2) h2 rfl (cwV 2 S.2.2.2.2 gL_law_X10_copyTree rfl rfl rfl (by decide +kernel) ⟨Nat.le_of_ble_eq_true rfl, Nat.le_of_ble_eq_true rfl⟩) rfl hl.1 rfl (Nat.le_of_ble_eq_true rfl) dL_law_966 ⟨Nat.le_of_ble_eq_true rfl, Nat.le_of_ble_eq_true rfl⟩ (fun rv_2 _ H locs hp hG => ?_)
  subst rv_2
  refine lv_istore (lv' := [(7, .int 0), (6, .int 1), (0, .ref b), (1, .ref N0), (2, .ref (N0 + 164)), (3, .ref (N0 + 229)), (4, .ref (N0 + 230)), (5, .int 0)]) S.1 S.2.1 dL_law_969 hl (by decide) rfl (fun ls hl => ?_)
  refine lv_aload_n S.1 S.2.1 dL_law_971 rfl (lv_at hl 4 rfl) ?_
  refine fx_cVi (As := []) (rest := []) S hG (k25_X10_thrown (by omega) fu_s) fu_s rfl (cwV 0 S.2.2.2.2 gL_law_X10_thrown rfl rfl rfl (by decide +kernel) ⟨Nat.le_of_ble_eq_true rfl, Nat.le_of_ble_eq_true rfl⟩) rfl hl.1 rfl (Nat.le_of_ble_eq_true rfl) dL_law_972 ⟨Nat.le_of_ble_eq_true rfl, Nat.le_of_ble_eq_true rfl⟩ (fun rv_3 _ H locs hp hG => ?_)
  subst rv_3
  refine lv_iload S.1 S.2.1 dL_law_975 (lv_at hl 1 rfl) ?_
  refine lv_icmp_eq (tgt := 982) S.1 S.2.1 dL_law_977 (by decide) (fun _ => ?_) (fun c => absurd (by decide) c)
  refine lv_iload S.1 S.2.1 dL_law_982 (lv_at hl 1 rfl) ?_
  refine lv_if_ne (tgt := 999) S.1 S.2.1 dL_law_984 (by decide) (fun _ => ?_) (fun c => absurd c (by decide))
  refine lv_goto (tgt := 2650) S.1 S.2.1 dL_law_999 (by decide) ?_
  refine lv_iinc (v := 5) (lv' := [(5, .int 5), (7, .int 0), (6, .int 1), (0, .ref b), (1, .ref N0), (2, .ref (N0 + 164)), (3, .ref (N0 + 229)), (4, .ref (N0 + 230))]) S.1 S.2.1 dL_law_2650 hl (k := 7) rfl (by decide) (by decide) rfl (fun ls hl => ?_)
  refine lv_goto (tgt := 28) S.1 S.2.1 dL_law_2653 (by decide) ?_
  refine lv_iload S.1 S.2.1 dL_law_28 (lv_at hl 0 rfl) ?_
  refine lv_aload_n S.1 S.2.1 dL_law_30 rfl (lv_at hl 3 rfl) ?_
  refine gx_slen (v := 5) S hG hX hbl rfl dL_law_31 ?_
  refine lv_iconst (v := 5) S.1 S.2.1 dL_law_32 (by decide) ?_
  refine lv_isub S.1 S.2.1 dL_law_33 ?_
  refine fx_topi (y := 0) (by decide) ?_
  refine lv_icmp_gt (tgt := 2656) S.1 S.2.1 dL_law_34 (by decide) (fun _ => ?_) (fun c => absurd (by decide) c)
  refine lv_iconst (v := 1) S.1 S.2.1 dL_law_2656 (by decide) ?_
  refine va_forget (fun q hq => by rw [hN]; exact hG.2.1.2.2 q hq) ?_
  refine W.widen (k := 600002) (n := 7302232) (by decide) (by decide) ?_
  exact lw_ret (d0 := s.drawn) (Drawn.sameBut.refl _ _) S.1 S.2.1 hr hlocks dL_law_2657
theorem l11_2 {p : Program} {e : Env} {s : State} {m : MethodId} {below : List Frame} {meth : Method} {c : Code} {b : Nat} {xs : Nat → Int32} {H : Heap} {locs : List Loc} {ls : Array Slot} {n : Nat} {a3 a4 : Int32} (S : CallFix p m c cL_law 9 s #[.ref b] wsL_law "TreeDifferLaw") (hr : meth.sig.returnType = ret) (hlocks : meth.locks = false) (hst : l.stackTraces = false) (hX : va_X b 5 xs s s.heap) (hbl : b < s.heap.size ∧ b < N0) (hN : s.heap.size = N0) (hn : N0 + 231 ≤ n) (hx1 : xs 1 = 0) (hx2 : xs 2 = 0) (hx3 : xs 3 = a3) (hx4 : xs 4 = a4) (h0 : F N0 = some (.inr (9, [.ref (N0 + 1), .ref (N0 + 2), .ref (N0 + 11), .ref (N0 + 13), .ref (N0 + 63), .ref (N0 + 65), .ref (N0 + 85), .int (-1), .int (-1), .int 32]))) (h1 : F (N0 + 1) = some (.inl (cTr, 3, .inr (.inr (.inr (.inr (va_up (va_up (va_up (fun _ => none) 0 (some (N0 + 143))) 1 (some (N0 + 150))) 2 (some (N0 + 157))))))))) (h2 : F (N0 + 143) = some (.inr (7, [.ref (N0 + 144), .ref (N0 + 145), .ref (N0 + 146), .ref (N0 + 147), .ref (N0 + 148), .ref (N0 + 149), .int 1]))) (h3 : F (N0 + 144) = some (.inl (cC, 20, .inl (upd (fun _ => 0) 0 97)))) (h4 : F (N0 + 145) = some (.inl (cI, 20, .inl (fun _ => 0)))) (h5 : F (N0 + 146) = some (.inl (cI, 20, .inl (fun _ => 0)))) (h6 : F (N0 + 147) = some (.inl (cI, 20, .inl (upd (fun _ => 0) 0 (-1))))) (h7 : F (N0 + 229) = some (.inl (cL, 1, .inr (.inl (fun _ => 0))))) (h8 : F (N0 + 164) = some (.inr (12, [.ref (N0 + 165), .int 0, .ref (N0 + 181), .int 0, .int 0, .int 0, .int (-1), .ref (ql 24), .ref (N0 + 182), .ref (N0 + 187), .ref (N0 + 208), .ref (N0 + 209), .ref (N0 + 210), .ref (N0 + 211), .ref (N0 + 212), .int 0, .ref (N0 + 213), .ref (N0 + 218), .ref (N0 + 223), .ref (N0 + 224), .ref (N0 + 225), .ref (N0 + 226), .ref (N0 + 227), .int 0, .int 0, .ref (N0 + 228), .null, .int (-1), .int 0, .int 0, .int 0]))) (h9 : F (N0 + 165) = some (.inl (cTm, 3, .inr (.inr (.inr (.inr (va_up (va_up (va_up (fun _ => none) 0 (some (N0 + 166))) 1 (some (N0 + 171))) 2 (some (N0 + 176))))))))) (h10 : F (N0 + 166) = some (.inr (11, [.ref (N0 + 167), .ref (N0 + 168), .ref (N0 + 169), .ref (N0 + 170), .int 1]))) (h11 : F (N0 + 167) = some (.inl (cI, 20, .inl (upd (fun _ => 0) 0 97)))) (h12 : F (N0 + 168) = some (.inl (cI, 20, .inl (upd (fun _ => 0) 0 0)))) (h13 : F (N0 + 169) = some (.inl (cI, 20, .inl (upd (fun _ => 0) 0 0)))) (h14 : F (N0 + 170) = some (.inl (cI, 20, .inl (upd (fun _ => 0) 0 (-1))))) (hG : fG N0 D vwCl (fty cI cC cL cD cII cTr cTm cIt cB) (fen ql) s F n H locs) (hl : lv_has ls 9 [(0, .ref b), (1, .ref N0), (2, .ref (N0 + 164)), (3, .ref (N0 + 229)), (4, .ref (N0 + 230)), (5, .int 0)]) : W p l e { frames := 2048, cells := 600002, slots := 7302232, locals := 84000 } s m #[.ref b] below meth c H locs 231 4980 (lw_Z below #[.ref b] s) (F0 m 934 ls []) := by
  have lt_h0 := hG.1.lt h0
  have lt_h1 := hG.1.lt h1
  have lt_h2 := hG.1.lt h2
  have lt_h3 := hG.1.lt h3
  have lt_h4 := hG.1.lt h4
  have lt_h5 := hG.1.lt h5
  have lt_h6 := hG.1.lt h6
  have lt_h7 := hG.1.lt h7
  have lt_h8 := hG.1.lt h8
  have lt_h9 := hG.1.lt h9
  have lt_h10 := hG.1.lt h10
  have lt_h11 := hG.1.lt h11
  have lt_h12 := hG.1.lt h12
  have lt_h13 := hG.1.lt h13
  have lt_h14 := hG.1.lt h14
  refine lv_aload_n S.1 S.2.1 dL_law_934 rfl (lv_at hl 1 rfl) ?_
  refine lv_aload_n S.1 S.2.1 dL_law_935 rfl (lv_at hl 0 rfl) ?_
  refine lv_iload S.1 S.2.1 dL_law_936 (lv_at hl 5 rfl) ?_
  refine lv_iconst (v := 1) S.1 S.2.1 dL_law_938 (by decide) ?_
  refine lv_iadd S.1 S.2.1 dL_law_939 ?_
  refine fx_topi (y := 1) (by decide) ?_
  refine gx_sld (v := 0) S hG hX hbl (fin_l (by decide)) hx1 dL_law_940 ?_
  refine lv_aload_n S.1 S.2.1 dL_law_941 rfl (lv_at hl 0 rfl) ?_
  refine lv_iload S.1 S.2.1 dL_law_942 (lv_at hl 5 rfl) ?_
  refine lv_iconst (v := 2) S.1 S.2.1 dL_law_944 (by decide) ?_
  refine lv_iadd S.1 S.2.1 dL_law_945 ?_
  refine fx_topi (y := 2) (by decide) ?_
  refine gx_sld (v := 0) S hG hX hbl (fin_l (by decide)) hx2 dL_law_946 ?_
  refine lv_aload_n S.1 S.2.1 dL_law_947 rfl (lv_at hl 3 rfl) ?_
  refine fx_cTi (As := [.ref N0, .int 0, .int 0, .ref (N0 + 229)]) (rest := []) S hG (k459_L_copyTree (by omega) h0 h1 h2 h3 h4 h5 h6 h7) (vx_cwSW 4 S.2.2.2.2 gL_law_L_copyTree rfl rfl rfl (by decide +kernel) ⟨Nat.le_of_ble_eq_true rfl, Nat.le_of_ble_eq_true rfl⟩) rfl hl.1 rfl (Nat.le_of_ble_eq_true rfl) dL_law_948 ⟨Nat.le_of_ble_eq_true rfl, Nat.le_of_ble_eq_true rfl⟩ (fun rv_1 _ H locs hp hG => ?_)
  subst rv_1
  refine lv_istore (lv' := [(6, .int 0), (0, .ref b), (1, .ref N0), (2, .ref (N0 + 164)), (3, .ref (N0 + 229)), (4, .ref (N0 + 230)), (5, .int 0)]) S.1 S.2.1 dL_law_951 hl (by decide) rfl (fun ls hl => ?_)
  refine lv_aload_n S.1 S.2.1 dL_law_953 rfl (lv_at hl 3 rfl) ?_
  refine lv_aload_n S.1 S.2.1 dL_law_954 rfl (lv_at hl 1 rfl) ?_
  refine lv_iload S.1 S.2.1 dL_law_955 (lv_at hl 6 rfl) ?_
  refine lv_iconst (v := 1) S.1 S.2.1 dL_law_957 (by decide) ?_
  refine lv_iadd S.1 S.2.1 dL_law_958 ?_
  refine fx_topi (y := 1) (by decide) ?_
  refine gx_sld (v := 0) S hG hX hbl (fin_l (by decide)) hx1 dL_law_959 ?_
  refine lv_aload_n S.1 S.2.1 dL_law_960 rfl (lv_at hl 1 rfl) ?_
  refine lv_iload S.1 S.2.1 dL_law_961 (lv_at hl 6 rfl) ?_
  refine lv_iconst (v := 2) S.1 S.2.1 dL_law_963 (by decide) ?_
  refine lv_iadd S.1 S.2.1 dL_law_964 ?_
  refine fx_topi (y := 2) (by decide) ?_
  refine gx_sld (v := 0) S hG hX hbl (fin_l (by decide)) hx2 dL_law_965 ?_
  refine fx_cVi (As := [.int 0, .int 0]) (rest := []) S hG (k463_X10_copyTree (by omega) (fu_at (by omega) (fu_at (by omega) (fu_at (by omega) (fu_at (by omega) (fu_at (by omega) (fu_at (by omega) h8)))))) (fu_at (by omega) (fu_at (by omega) (fu_at (by omega) (fu_at (by omega) (fu_at (by omega) (fu_at (by omega) h9)))))) (fu_at (by omega) (fu_at (by omega) (fu_at (by omega) (fu_at (by omega) (fu_at (by omega) (fu_at (by omega) h10)))))) (fu_at (by omega) (fu_at (by omega) (fu_at (by omega) (fu_at (by omega) (fu_at (by omega) (fu_at (by omega) h11)))))) (fu_at (by omega) (fu_at (by omega) (fu_at (by omega) (fu_at (by omega) (fu_at (by omega) (fu_at (by omega) h12)))))) (fu_at (by omega) (fu_at (by omega) (fu_at (by omega) (fu_at (by omega) (fu_at (by omega) (fu_at (by omega) h13)))))) (fu_at (by omega) (fu_at (by omega) (fu_at (by omega) (fu_at (by omega) (fu_at (by omega) (fu_at (by omega) h14))))))) (fu_at (by omega) (fu_at (by omega) (fu_at (by omega) (fu_at (by omega) (fu_at (by omega) (fu_at (by omega) h8)))))) rfl (cwV 2 S.2.2.2.2 gL_law_X10_copyTree rfl rfl rfl (by decide +kernel) ⟨Nat.le_of_ble_eq_true rfl, Nat.le_of_ble_eq_true rfl⟩) rfl hl.1 rfl (Nat.le_of_ble_eq_true rfl) dL_law_966 ⟨Nat.le_of_ble_eq_true rfl, Nat.le_of_ble_eq_true rfl⟩ (fun rv_2 _ H locs hp hG => ?_)
  subst rv_2
  refine lv_istore (lv' := [(7, .int 1), (6, .int 0), (0, .ref b), (1, .ref N0), (2, .ref (N0 + 164)), (3, .ref (N0 + 229)), (4, .ref (N0 + 230)), (5, .int 0)]) S.1 S.2.1 dL_law_969 hl (by decide) rfl (fun ls hl => ?_)
  refine lv_aload_n S.1 S.2.1 dL_law_971 rfl (lv_at hl 4 rfl) ?_
  refine fx_cVi (As := []) (rest := []) S hG (k117_X10_thrown (by omega) (fu_at (by omega) (fu_at (by omega) (fu_at (by omega) (fu_at (by omega) (fu_at (by omega) fu_s)))))) (fu_at (by omega) (fu_at (by omega) (fu_at (by omega) (fu_at (by omega) (fu_at (by omega) fu_s))))) rfl (cwV 0 S.2.2.2.2 gL_law_X10_thrown rfl rfl rfl (by decide +kernel) ⟨Nat.le_of_ble_eq_true rfl, Nat.le_of_ble_eq_true rfl⟩) rfl hl.1 rfl (Nat.le_of_ble_eq_true rfl) dL_law_972 ⟨Nat.le_of_ble_eq_true rfl, Nat.le_of_ble_eq_true rfl⟩ (fun rv_3 _ H locs hp hG => ?_)
  subst rv_3
  refine lv_iload S.1 S.2.1 dL_law_975 (lv_at hl 1 rfl) ?_
  refine lv_icmp_eq (tgt := 982) S.1 S.2.1 dL_law_977 (by decide) (fun _ => ?_) (fun c => absurd (by decide) c)
  refine lv_iload S.1 S.2.1 dL_law_982 (lv_at hl 1 rfl) ?_
  refine lv_if_ne (tgt := 999) S.1 S.2.1 dL_law_984 (by decide) (fun c => absurd (by decide) c) (fun _ => ?_)
  refine lv_aload_n S.1 S.2.1 dL_law_987 rfl (lv_at hl 5 rfl) ?_
  refine lv_iconst (v := 0) S.1 S.2.1 dL_law_988 (by decide) ?_
  refine gx_lald (v := 1) S hG 2 (fu_at (by omega) (fu_at (by omega) (fu_at (by omega) (fu_at (by omega) (fu_at (by omega) (fu_at (by omega) fu_s)))))) rfl (fin_l (by decide)) rfl dL_law_989 ?_
  refine lv_iload S.1 S.2.1 dL_law_990 (lv_at hl 0 rfl) ?_
  refine lv_i2l (v := 1) S.1 S.2.1 dL_law_992 (by decide) ?_
  refine gx_lcmpEq S rfl dL_law_993 ?_
  refine lv_if_eq (tgt := 999) S.1 S.2.1 dL_law_994 (by decide) (fun _ => ?_) (fun c => absurd (by decide) c)
  refine lv_goto (tgt := 2650) S.1 S.2.1 dL_law_999 (by decide) ?_
  refine lv_iinc (v := 5) (lv' := [(5, .int 5), (7, .int 1), (6, .int 0), (0, .ref b), (1, .ref N0), (2, .ref (N0 + 164)), (3, .ref (N0 + 229)), (4, .ref (N0 + 230))]) S.1 S.2.1 dL_law_2650 hl (k := 7) rfl (by decide) (by decide) rfl (fun ls hl => ?_)
  refine lv_goto (tgt := 28) S.1 S.2.1 dL_law_2653 (by decide) ?_
  refine lv_iload S.1 S.2.1 dL_law_28 (lv_at hl 0 rfl) ?_
  refine lv_aload_n S.1 S.2.1 dL_law_30 rfl (lv_at hl 3 rfl) ?_
  refine gx_slen (v := 5) S hG hX hbl rfl dL_law_31 ?_
  refine lv_iconst (v := 5) S.1 S.2.1 dL_law_32 (by decide) ?_
  refine lv_isub S.1 S.2.1 dL_law_33 ?_
  refine fx_topi (y := 0) (by decide) ?_
  refine lv_icmp_gt (tgt := 2656) S.1 S.2.1 dL_law_34 (by decide) (fun _ => ?_) (fun c => absurd (by decide) c)
  refine lv_iconst (v := 1) S.1 S.2.1 dL_law_2656 (by decide) ?_
  refine va_forget (fun q hq => by rw [hN]; exact hG.2.1.2.2 q hq) ?_
  refine W.widen (k := 600002) (n := 7302232) (by decide) (by decide) ?_
  exact lw_ret (d0 := s.drawn) (Drawn.sameBut.refl _ _) S.1 S.2.1 hr hlocks dL_law_2657
theorem l11_3 {p : Program} {e : Env} {s : State} {m : MethodId} {below : List Frame} {meth : Method} {c : Code} {b : Nat} {xs : Nat → Int32} {H : Heap} {locs : List Loc} {ls : Array Slot} {n : Nat} {a3 a4 : Int32} (S : CallFix p m c cL_law 9 s #[.ref b] wsL_law "TreeDifferLaw") (hr : meth.sig.returnType = ret) (hlocks : meth.locks = false) (hst : l.stackTraces = false) (hX : va_X b 5 xs s s.heap) (hbl : b < s.heap.size ∧ b < N0) (hN : s.heap.size = N0) (hn : N0 + 231 ≤ n) (hx1 : xs 1 = 0) (hx2 : xs 2 = 1) (hx3 : xs 3 = a3) (hx4 : xs 4 = a4) (h0 : F N0 = some (.inr (9, [.ref (N0 + 1), .ref (N0 + 2), .ref (N0 + 11), .ref (N0 + 13), .ref (N0 + 63), .ref (N0 + 65), .ref (N0 + 85), .int (-1), .int (-1), .int 32]))) (h1 : F (N0 + 1) = some (.inl (cTr, 3, .inr (.inr (.inr (.inr (va_up (va_up (va_up (fun _ => none) 0 (some (N0 + 143))) 1 (some (N0 + 150))) 2 (some (N0 + 157))))))))) (h2 : F (N0 + 143) = some (.inr (7, [.ref (N0 + 144), .ref (N0 + 145), .ref (N0 + 146), .ref (N0 + 147), .ref (N0 + 148), .ref (N0 + 149), .int 1]))) (h3 : F (N0 + 150) = some (.inr (7, [.ref (N0 + 151), .ref (N0 + 152), .ref (N0 + 153), .ref (N0 + 154), .ref (N0 + 155), .ref (N0 + 156), .int 1]))) (h4 : F (N0 + 144) = some (.inl (cC, 20, .inl (upd (fun _ => 0) 0 97)))) (h5 : F (N0 + 151) = some (.inl (cC, 20, .inl (upd (fun _ => 0) 0 97)))) (h6 : F (N0 + 145) = some (.inl (cI, 20, .inl (fun _ => 0)))) (h7 : F (N0 + 152) = some (.inl (cI, 20, .inl (fun _ => 0)))) (h8 : F (N0 + 146) = some (.inl (cI, 20, .inl (fun _ => 0)))) (h9 : F (N0 + 153) = some (.inl (cI, 20, .inl (fun _ => 0)))) (h10 : F (N0 + 147) = some (.inl (cI, 20, .inl (upd (fun _ => 0) 0 (-1))))) (h11 : F (N0 + 154) = some (.inl (cI, 20, .inl (upd (fun _ => 0) 0 (-1))))) (h12 : F (N0 + 229) = some (.inl (cL, 1, .inr (.inl (fun _ => 0))))) (h13 : F (N0 + 164) = some (.inr (12, [.ref (N0 + 165), .int 0, .ref (N0 + 181), .int 0, .int 0, .int 0, .int (-1), .ref (ql 24), .ref (N0 + 182), .ref (N0 + 187), .ref (N0 + 208), .ref (N0 + 209), .ref (N0 + 210), .ref (N0 + 211), .ref (N0 + 212), .int 0, .ref (N0 + 213), .ref (N0 + 218), .ref (N0 + 223), .ref (N0 + 224), .ref (N0 + 225), .ref (N0 + 226), .ref (N0 + 227), .int 0, .int 0, .ref (N0 + 228), .null, .int (-1), .int 0, .int 0, .int 0]))) (h14 : F (N0 + 165) = some (.inl (cTm, 3, .inr (.inr (.inr (.inr (va_up (va_up (va_up (fun _ => none) 0 (some (N0 + 166))) 1 (some (N0 + 171))) 2 (some (N0 + 176))))))))) (h15 : F (N0 + 166) = some (.inr (11, [.ref (N0 + 167), .ref (N0 + 168), .ref (N0 + 169), .ref (N0 + 170), .int 1]))) (h16 : F (N0 + 171) = some (.inr (11, [.ref (N0 + 172), .ref (N0 + 173), .ref (N0 + 174), .ref (N0 + 175), .int 1]))) (h17 : F (N0 + 167) = some (.inl (cI, 20, .inl (upd (fun _ => 0) 0 97)))) (h18 : F (N0 + 168) = some (.inl (cI, 20, .inl (upd (fun _ => 0) 0 0)))) (h19 : F (N0 + 169) = some (.inl (cI, 20, .inl (upd (fun _ => 0) 0 0)))) (h20 : F (N0 + 170) = some (.inl (cI, 20, .inl (upd (fun _ => 0) 0 (-1))))) (h21 : F (N0 + 172) = some (.inl (cI, 20, .inl (upd (fun _ => 0) 0 97)))) (h22 : F (N0 + 173) = some (.inl (cI, 20, .inl (upd (fun _ => 0) 0 0)))) (h23 : F (N0 + 174) = some (.inl (cI, 20, .inl (upd (fun _ => 0) 0 0)))) (h24 : F (N0 + 175) = some (.inl (cI, 20, .inl (upd (fun _ => 0) 0 (-1))))) (hG : fG N0 D vwCl (fty cI cC cL cD cII cTr cTm cIt cB) (fen ql) s F n H locs) (hl : lv_has ls 9 [(0, .ref b), (1, .ref N0), (2, .ref (N0 + 164)), (3, .ref (N0 + 229)), (4, .ref (N0 + 230)), (5, .int 0)]) : W p l e { frames := 2048, cells := 600002, slots := 7302232, locals := 84000 } s m #[.ref b] below meth c H locs 231 4980 (lw_Z below #[.ref b] s) (F0 m 934 ls []) := by
  have lt_h0 := hG.1.lt h0
  have lt_h1 := hG.1.lt h1
  have lt_h2 := hG.1.lt h2
  have lt_h3 := hG.1.lt h3
  have lt_h4 := hG.1.lt h4
  have lt_h5 := hG.1.lt h5
  have lt_h6 := hG.1.lt h6
  have lt_h7 := hG.1.lt h7
  have lt_h8 := hG.1.lt h8
  have lt_h9 := hG.1.lt h9
  have lt_h10 := hG.1.lt h10
  have lt_h11 := hG.1.lt h11
  have lt_h12 := hG.1.lt h12
  have lt_h13 := hG.1.lt h13
  have lt_h14 := hG.1.lt h14
  have lt_h15 := hG.1.lt h15
  have lt_h16 := hG.1.lt h16
  have lt_h17 := hG.1.lt h17
  have lt_h18 := hG.1.lt h18
  have lt_h19 := hG.1.lt h19
  have lt_h20 := hG.1.lt h20
  have lt_h21 := hG.1.lt h21
  have lt_h22 := hG.1.lt h22
  have lt_h23 := hG.1.lt h23
  have lt_h24 := hG.1.lt h24
  refine lv_aload_n S.1 S.2.1 dL_law_934 rfl (lv_at hl 1 rfl) ?_
  refine lv_aload_n S.1 S.2.1 dL_law_935 rfl (lv_at hl 0 rfl) ?_
  refine lv_iload S.1 S.2.1 dL_law_936 (lv_at hl 5 rfl) ?_
  refine lv_iconst (v := 1) S.1 S.2.1 dL_law_938 (by decide) ?_
  refine lv_iadd S.1 S.2.1 dL_law_939 ?_
  refine fx_topi (y := 1) (by decide) ?_
  refine gx_sld (v := 0) S hG hX hbl (fin_l (by decide)) hx1 dL_law_940 ?_
  refine lv_aload_n S.1 S.2.1 dL_law_941 rfl (lv_at hl 0 rfl) ?_
  refine lv_iload S.1 S.2.1 dL_law_942 (lv_at hl 5 rfl) ?_
  refine lv_iconst (v := 2) S.1 S.2.1 dL_law_944 (by decide) ?_
  refine lv_iadd S.1 S.2.1 dL_law_945 ?_
  refine fx_topi (y := 2) (by decide) ?_
  refine gx_sld (v := 1) S hG hX hbl (fin_l (by decide)) hx2 dL_law_946 ?_
  refine lv_aload_n S.1 S.2.1 dL_law_947 rfl (lv_at hl 3 rfl) ?_
  refine fx_cTi (As := [.ref N0, .int 0, .int 1, .ref (N0 + 229)]) (rest := []) S hG (k466_L_copyTree (by omega) h0 h1 h2 h3 h4 h5 h6 h7 h8 h9 h10 h11 h12) (vx_cwSW 4 S.2.2.2.2 gL_law_L_copyTree rfl rfl rfl (by decide +kernel) ⟨Nat.le_of_ble_eq_true rfl, Nat.le_of_ble_eq_true rfl⟩) rfl hl.1 rfl (Nat.le_of_ble_eq_true rfl) dL_law_948 ⟨Nat.le_of_ble_eq_true rfl, Nat.le_of_ble_eq_true rfl⟩ (fun rv_1 _ H locs hp hG => ?_)
  subst rv_1
  refine lv_istore (lv' := [(6, .int 0), (0, .ref b), (1, .ref N0), (2, .ref (N0 + 164)), (3, .ref (N0 + 229)), (4, .ref (N0 + 230)), (5, .int 0)]) S.1 S.2.1 dL_law_951 hl (by decide) rfl (fun ls hl => ?_)
  refine lv_aload_n S.1 S.2.1 dL_law_953 rfl (lv_at hl 3 rfl) ?_
  refine lv_aload_n S.1 S.2.1 dL_law_954 rfl (lv_at hl 1 rfl) ?_
  refine lv_iload S.1 S.2.1 dL_law_955 (lv_at hl 6 rfl) ?_
  refine lv_iconst (v := 1) S.1 S.2.1 dL_law_957 (by decide) ?_
  refine lv_iadd S.1 S.2.1 dL_law_958 ?_
  refine fx_topi (y := 1) (by decide) ?_
  refine gx_sld (v := 0) S hG hX hbl (fin_l (by decide)) hx1 dL_law_959 ?_
  refine lv_aload_n S.1 S.2.1 dL_law_960 rfl (lv_at hl 1 rfl) ?_
  refine lv_iload S.1 S.2.1 dL_law_961 (lv_at hl 6 rfl) ?_
  refine lv_iconst (v := 2) S.1 S.2.1 dL_law_963 (by decide) ?_
  refine lv_iadd S.1 S.2.1 dL_law_964 ?_
  refine fx_topi (y := 2) (by decide) ?_
  refine gx_sld (v := 1) S hG hX hbl (fin_l (by decide)) hx2 dL_law_965 ?_
  refine fx_cVi (As := [.int 0, .int 1]) (rest := []) S hG (k470_X10_copyTree (by omega) (fu_at (by omega) (fu_at (by omega) (fu_at (by omega) (fu_at (by omega) (fu_at (by omega) (fu_at (by omega) h13)))))) (fu_at (by omega) (fu_at (by omega) (fu_at (by omega) (fu_at (by omega) (fu_at (by omega) (fu_at (by omega) h14)))))) (fu_at (by omega) (fu_at (by omega) (fu_at (by omega) (fu_at (by omega) (fu_at (by omega) (fu_at (by omega) h15)))))) (fu_at (by omega) (fu_at (by omega) (fu_at (by omega) (fu_at (by omega) (fu_at (by omega) (fu_at (by omega) h16)))))) (fu_at (by omega) (fu_at (by omega) (fu_at (by omega) (fu_at (by omega) (fu_at (by omega) (fu_at (by omega) h17)))))) (fu_at (by omega) (fu_at (by omega) (fu_at (by omega) (fu_at (by omega) (fu_at (by omega) (fu_at (by omega) h18)))))) (fu_at (by omega) (fu_at (by omega) (fu_at (by omega) (fu_at (by omega) (fu_at (by omega) (fu_at (by omega) h19)))))) (fu_at (by omega) (fu_at (by omega) (fu_at (by omega) (fu_at (by omega) (fu_at (by omega) (fu_at (by omega) h20)))))) (fu_at (by omega) (fu_at (by omega) (fu_at (by omega) (fu_at (by omega) (fu_at (by omega) (fu_at (by omega) h21)))))) (fu_at (by omega) (fu_at (by omega) (fu_at (by omega) (fu_at (by omega) (fu_at (by omega) (fu_at (by omega) h22)))))) (fu_at (by omega) (fu_at (by omega) (fu_at (by omega) (fu_at (by omega) (fu_at (by omega) (fu_at (by omega) h23)))))) (fu_at (by omega) (fu_at (by omega) (fu_at (by omega) (fu_at (by omega) (fu_at (by omega) (fu_at (by omega) h24))))))) (fu_at (by omega) (fu_at (by omega) (fu_at (by omega) (fu_at (by omega) (fu_at (by omega) (fu_at (by omega) h13)))))) rfl (cwV 2 S.2.2.2.2 gL_law_X10_copyTree rfl rfl rfl (by decide +kernel) ⟨Nat.le_of_ble_eq_true rfl, Nat.le_of_ble_eq_true rfl⟩) rfl hl.1 rfl (Nat.le_of_ble_eq_true rfl) dL_law_966 ⟨Nat.le_of_ble_eq_true rfl, Nat.le_of_ble_eq_true rfl⟩ (fun rv_2 _ H locs hp hG => ?_)
  subst rv_2
  refine lv_istore (lv' := [(7, .int 1), (6, .int 0), (0, .ref b), (1, .ref N0), (2, .ref (N0 + 164)), (3, .ref (N0 + 229)), (4, .ref (N0 + 230)), (5, .int 0)]) S.1 S.2.1 dL_law_969 hl (by decide) rfl (fun ls hl => ?_)
  refine lv_aload_n S.1 S.2.1 dL_law_971 rfl (lv_at hl 4 rfl) ?_
  refine fx_cVi (As := []) (rest := []) S hG (k117_X10_thrown (by omega) (fu_at (by omega) (fu_at (by omega) (fu_at (by omega) (fu_at (by omega) (fu_at (by omega) fu_s)))))) (fu_at (by omega) (fu_at (by omega) (fu_at (by omega) (fu_at (by omega) (fu_at (by omega) fu_s))))) rfl (cwV 0 S.2.2.2.2 gL_law_X10_thrown rfl rfl rfl (by decide +kernel) ⟨Nat.le_of_ble_eq_true rfl, Nat.le_of_ble_eq_true rfl⟩) rfl hl.1 rfl (Nat.le_of_ble_eq_true rfl) dL_law_972 ⟨Nat.le_of_ble_eq_true rfl, Nat.le_of_ble_eq_true rfl⟩ (fun rv_3 _ H locs hp hG => ?_)
  subst rv_3
  refine lv_iload S.1 S.2.1 dL_law_975 (lv_at hl 1 rfl) ?_
  refine lv_icmp_eq (tgt := 982) S.1 S.2.1 dL_law_977 (by decide) (fun _ => ?_) (fun c => absurd (by decide) c)
  refine lv_iload S.1 S.2.1 dL_law_982 (lv_at hl 1 rfl) ?_
  refine lv_if_ne (tgt := 999) S.1 S.2.1 dL_law_984 (by decide) (fun c => absurd (by decide) c) (fun _ => ?_)
  refine lv_aload_n S.1 S.2.1 dL_law_987 rfl (lv_at hl 5 rfl) ?_
  refine lv_iconst (v := 0) S.1 S.2.1 dL_law_988 (by decide) ?_
  refine gx_lald (v := 1) S hG 2 (fu_at (by omega) (fu_at (by omega) (fu_at (by omega) (fu_at (by omega) (fu_at (by omega) (fu_at (by omega) fu_s)))))) rfl (fin_l (by decide)) rfl dL_law_989 ?_
  refine lv_iload S.1 S.2.1 dL_law_990 (lv_at hl 0 rfl) ?_
  refine lv_i2l (v := 1) S.1 S.2.1 dL_law_992 (by decide) ?_
  refine gx_lcmpEq S rfl dL_law_993 ?_
  refine lv_if_eq (tgt := 999) S.1 S.2.1 dL_law_994 (by decide) (fun _ => ?_) (fun c => absurd (by decide) c)
  refine lv_goto (tgt := 2650) S.1 S.2.1 dL_law_999 (by decide) ?_
  refine lv_iinc (v := 5) (lv' := [(5, .int 5), (7, .int 1), (6, .int 0), (0, .ref b), (1, .ref N0), (2, .ref (N0 + 164)), (3, .ref (N0 + 229)), (4, .ref (N0 + 230))]) S.1 S.2.1 dL_law_2650 hl (k := 7) rfl (by decide) (by decide) rfl (fun ls hl => ?_)
  refine lv_goto (tgt := 28) S.1 S.2.1 dL_law_2653 (by decide) ?_
  refine lv_iload S.1 S.2.1 dL_law_28 (lv_at hl 0 rfl) ?_
  refine lv_aload_n S.1 S.2.1 dL_law_30 rfl (lv_at hl 3 rfl) ?_
  refine gx_slen (v := 5) S hG hX hbl rfl dL_law_31 ?_
  refine lv_iconst (v := 5) S.1 S.2.1 dL_law_32 (by decide) ?_
  refine lv_isub S.1 S.2.1 dL_law_33 ?_
  refine fx_topi (y := 0) (by decide) ?_
  refine lv_icmp_gt (tgt := 2656) S.1 S.2.1 dL_law_34 (by decide) (fun _ => ?_) (fun c => absurd (by decide) c)
  refine lv_iconst (v := 1) S.1 S.2.1 dL_law_2656 (by decide) ?_
  refine va_forget (fun q hq => by rw [hN]; exact hG.2.1.2.2 q hq) ?_
  refine W.widen (k := 600002) (n := 7302232) (by decide) (by decide) ?_
  exact lw_ret (d0 := s.drawn) (Drawn.sameBut.refl _ _) S.1 S.2.1 hr hlocks dL_law_2657
theorem l11_4 {p : Program} {e : Env} {s : State} {m : MethodId} {below : List Frame} {meth : Method} {c : Code} {b : Nat} {xs : Nat → Int32} {H : Heap} {locs : List Loc} {ls : Array Slot} {n : Nat} {a3 a4 : Int32} (S : CallFix p m c cL_law 9 s #[.ref b] wsL_law "TreeDifferLaw") (hr : meth.sig.returnType = ret) (hlocks : meth.locks = false) (hst : l.stackTraces = false) (hX : va_X b 5 xs s s.heap) (hbl : b < s.heap.size ∧ b < N0) (hN : s.heap.size = N0) (hn : N0 + 231 ≤ n) (hx1 : xs 1 = 0) (hx2 : xs 2 = 2) (hx3 : xs 3 = a3) (hx4 : xs 4 = a4) (h0 : F N0 = some (.inr (9, [.ref (N0 + 1), .ref (N0 + 2), .ref (N0 + 11), .ref (N0 + 13), .ref (N0 + 63), .ref (N0 + 65), .ref (N0 + 85), .int (-1), .int (-1), .int 32]))) (h1 : F (N0 + 1) = some (.inl (cTr, 3, .inr (.inr (.inr (.inr (va_up (va_up (va_up (fun _ => none) 0 (some (N0 + 143))) 1 (some (N0 + 150))) 2 (some (N0 + 157))))))))) (h2 : F (N0 + 143) = some (.inr (7, [.ref (N0 + 144), .ref (N0 + 145), .ref (N0 + 146), .ref (N0 + 147), .ref (N0 + 148), .ref (N0 + 149), .int 1]))) (h3 : F (N0 + 157) = some (.inr (7, [.ref (N0 + 158), .ref (N0 + 159), .ref (N0 + 160), .ref (N0 + 161), .ref (N0 + 162), .ref (N0 + 163), .int 1]))) (h4 : F (N0 + 144) = some (.inl (cC, 20, .inl (upd (fun _ => 0) 0 97)))) (h5 : F (N0 + 158) = some (.inl (cC, 20, .inl (upd (fun _ => 0) 0 97)))) (h6 : F (N0 + 145) = some (.inl (cI, 20, .inl (fun _ => 0)))) (h7 : F (N0 + 159) = some (.inl (cI, 20, .inl (fun _ => 0)))) (h8 : F (N0 + 146) = some (.inl (cI, 20, .inl (fun _ => 0)))) (h9 : F (N0 + 160) = some (.inl (cI, 20, .inl (fun _ => 0)))) (h10 : F (N0 + 147) = some (.inl (cI, 20, .inl (upd (fun _ => 0) 0 (-1))))) (h11 : F (N0 + 161) = some (.inl (cI, 20, .inl (upd (fun _ => 0) 0 (-1))))) (h12 : F (N0 + 229) = some (.inl (cL, 1, .inr (.inl (fun _ => 0))))) (h13 : F (N0 + 164) = some (.inr (12, [.ref (N0 + 165), .int 0, .ref (N0 + 181), .int 0, .int 0, .int 0, .int (-1), .ref (ql 24), .ref (N0 + 182), .ref (N0 + 187), .ref (N0 + 208), .ref (N0 + 209), .ref (N0 + 210), .ref (N0 + 211), .ref (N0 + 212), .int 0, .ref (N0 + 213), .ref (N0 + 218), .ref (N0 + 223), .ref (N0 + 224), .ref (N0 + 225), .ref (N0 + 226), .ref (N0 + 227), .int 0, .int 0, .ref (N0 + 228), .null, .int (-1), .int 0, .int 0, .int 0]))) (h14 : F (N0 + 165) = some (.inl (cTm, 3, .inr (.inr (.inr (.inr (va_up (va_up (va_up (fun _ => none) 0 (some (N0 + 166))) 1 (some (N0 + 171))) 2 (some (N0 + 176))))))))) (h15 : F (N0 + 166) = some (.inr (11, [.ref (N0 + 167), .ref (N0 + 168), .ref (N0 + 169), .ref (N0 + 170), .int 1]))) (h16 : F (N0 + 176) = some (.inr (11, [.ref (N0 + 177), .ref (N0 + 178), .ref (N0 + 179), .ref (N0 + 180), .int 1]))) (h17 : F (N0 + 167) = some (.inl (cI, 20, .inl (upd (fun _ => 0) 0 97)))) (h18 : F (N0 + 168) = some (.inl (cI, 20, .inl (upd (fun _ => 0) 0 0)))) (h19 : F (N0 + 169) = some (.inl (cI, 20, .inl (upd (fun _ => 0) 0 0)))) (h20 : F (N0 + 170) = some (.inl (cI, 20, .inl (upd (fun _ => 0) 0 (-1))))) (h21 : F (N0 + 177) = some (.inl (cI, 20, .inl (upd (fun _ => 0) 0 97)))) (h22 : F (N0 + 178) = some (.inl (cI, 20, .inl (upd (fun _ => 0) 0 0)))) (h23 : F (N0 + 179) = some (.inl (cI, 20, .inl (upd (fun _ => 0) 0 0)))) (h24 : F (N0 + 180) = some (.inl (cI, 20, .inl (upd (fun _ => 0) 0 (-1))))) (hG : fG N0 D vwCl (fty cI cC cL cD cII cTr cTm cIt cB) (fen ql) s F n H locs) (hl : lv_has ls 9 [(0, .ref b), (1, .ref N0), (2, .ref (N0 + 164)), (3, .ref (N0 + 229)), (4, .ref (N0 + 230)), (5, .int 0)]) : W p l e { frames := 2048, cells := 600002, slots := 7302232, locals := 84000 } s m #[.ref b] below meth c H locs 231 4980 (lw_Z below #[.ref b] s) (F0 m 934 ls []) := by
  have lt_h0 := hG.1.lt h0
  have lt_h1 := hG.1.lt h1
  have lt_h2 := hG.1.lt h2
  have lt_h3 := hG.1.lt h3
  have lt_h4 := hG.1.lt h4
  have lt_h5 := hG.1.lt h5
  have lt_h6 := hG.1.lt h6
  have lt_h7 := hG.1.lt h7
  have lt_h8 := hG.1.lt h8
  have lt_h9 := hG.1.lt h9
  have lt_h10 := hG.1.lt h10
  have lt_h11 := hG.1.lt h11
  have lt_h12 := hG.1.lt h12
  have lt_h13 := hG.1.lt h13
  have lt_h14 := hG.1.lt h14
  have lt_h15 := hG.1.lt h15
  have lt_h16 := hG.1.lt h16
  have lt_h17 := hG.1.lt h17
  have lt_h18 := hG.1.lt h18
  have lt_h19 := hG.1.lt h19
  have lt_h20 := hG.1.lt h20
  have lt_h21 := hG.1.lt h21
  have lt_h22 := hG.1.lt h22
  have lt_h23 := hG.1.lt h23
  have lt_h24 := hG.1.lt h24
  refine lv_aload_n S.1 S.2.1 dL_law_934 rfl (lv_at hl 1 rfl) ?_
  refine lv_aload_n S.1 S.2.1 dL_law_935 rfl (lv_at hl 0 rfl) ?_
  refine lv_iload S.1 S.2.1 dL_law_936 (lv_at hl 5 rfl) ?_
  refine lv_iconst (v := 1) S.1 S.2.1 dL_law_938 (by decide) ?_
  refine lv_iadd S.1 S.2.1 dL_law_939 ?_
  refine fx_topi (y := 1) (by decide) ?_
  refine gx_sld (v := 0) S hG hX hbl (fin_l (by decide)) hx1 dL_law_940 ?_
  refine lv_aload_n S.1 S.2.1 dL_law_941 rfl (lv_at hl 0 rfl) ?_
  refine lv_iload S.1 S.2.1 dL_law_942 (lv_at hl 5 rfl) ?_
  refine lv_iconst (v := 2) S.1 S.2.1 dL_law_944 (by decide) ?_
  refine lv_iadd S.1 S.2.1 dL_law_945 ?_
  refine fx_topi (y := 2) (by decide) ?_
  refine gx_sld (v := 2) S hG hX hbl (fin_l (by decide)) hx2 dL_law_946 ?_
  refine lv_aload_n S.1 S.2.1 dL_law_947 rfl (lv_at hl 3 rfl) ?_
  refine fx_cTi (As := [.ref N0, .int 0, .int 2, .ref (N0 + 229)]) (rest := []) S hG (k473_L_copyTree (by omega) h0 h1 h2 h3 h4 h5 h6 h7 h8 h9 h10 h11 h12) (vx_cwSW 4 S.2.2.2.2 gL_law_L_copyTree rfl rfl rfl (by decide +kernel) ⟨Nat.le_of_ble_eq_true rfl, Nat.le_of_ble_eq_true rfl⟩) rfl hl.1 rfl (Nat.le_of_ble_eq_true rfl) dL_law_948 ⟨Nat.le_of_ble_eq_true rfl, Nat.le_of_ble_eq_true rfl⟩ (fun rv_1 _ H locs hp hG => ?_)
  subst rv_1
  refine lv_istore (lv' := [(6, .int 0), (0, .ref b), (1, .ref N0), (2, .ref (N0 + 164)), (3, .ref (N0 + 229)), (4, .ref (N0 + 230)), (5, .int 0)]) S.1 S.2.1 dL_law_951 hl (by decide) rfl (fun ls hl => ?_)
  refine lv_aload_n S.1 S.2.1 dL_law_953 rfl (lv_at hl 3 rfl) ?_
  refine lv_aload_n S.1 S.2.1 dL_law_954 rfl (lv_at hl 1 rfl) ?_
  refine lv_iload S.1 S.2.1 dL_law_955 (lv_at hl 6 rfl) ?_
  refine lv_iconst (v := 1) S.1 S.2.1 dL_law_957 (by decide) ?_
  refine lv_iadd S.1 S.2.1 dL_law_958 ?_
  refine fx_topi (y := 1) (by decide) ?_
  refine gx_sld (v := 0) S hG hX hbl (fin_l (by decide)) hx1 dL_law_959 ?_
  refine lv_aload_n S.1 S.2.1 dL_law_960 rfl (lv_at hl 1 rfl) ?_
  refine lv_iload S.1 S.2.1 dL_law_961 (lv_at hl 6 rfl) ?_
  refine lv_iconst (v := 2) S.1 S.2.1 dL_law_963 (by decide) ?_
  refine lv_iadd S.1 S.2.1 dL_law_964 ?_
  refine fx_topi (y := 2) (by decide) ?_
  refine gx_sld (v := 2) S hG hX hbl (fin_l (by decide)) hx2 dL_law_965 ?_
  refine fx_cVi (As := [.int 0, .int 2]) (rest := []) S hG (k477_X10_copyTree (by omega) (fu_at (by omega) (fu_at (by omega) (fu_at (by omega) (fu_at (by omega) (fu_at (by omega) (fu_at (by omega) h13)))))) (fu_at (by omega) (fu_at (by omega) (fu_at (by omega) (fu_at (by omega) (fu_at (by omega) (fu_at (by omega) h14)))))) (fu_at (by omega) (fu_at (by omega) (fu_at (by omega) (fu_at (by omega) (fu_at (by omega) (fu_at (by omega) h15)))))) (fu_at (by omega) (fu_at (by omega) (fu_at (by omega) (fu_at (by omega) (fu_at (by omega) (fu_at (by omega) h16)))))) (fu_at (by omega) (fu_at (by omega) (fu_at (by omega) (fu_at (by omega) (fu_at (by omega) (fu_at (by omega) h17)))))) (fu_at (by omega) (fu_at (by omega) (fu_at (by omega) (fu_at (by omega) (fu_at (by omega) (fu_at (by omega) h18)))))) (fu_at (by omega) (fu_at (by omega) (fu_at (by omega) (fu_at (by omega) (fu_at (by omega) (fu_at (by omega) h19)))))) (fu_at (by omega) (fu_at (by omega) (fu_at (by omega) (fu_at (by omega) (fu_at (by omega) (fu_at (by omega) h20)))))) (fu_at (by omega) (fu_at (by omega) (fu_at (by omega) (fu_at (by omega) (fu_at (by omega) (fu_at (by omega) h21)))))) (fu_at (by omega) (fu_at (by omega) (fu_at (by omega) (fu_at (by omega) (fu_at (by omega) (fu_at (by omega) h22)))))) (fu_at (by omega) (fu_at (by omega) (fu_at (by omega) (fu_at (by omega) (fu_at (by omega) (fu_at (by omega) h23)))))) (fu_at (by omega) (fu_at (by omega) (fu_at (by omega) (fu_at (by omega) (fu_at (by omega) (fu_at (by omega) h24))))))) (fu_at (by omega) (fu_at (by omega) (fu_at (by omega) (fu_at (by omega) (fu_at (by omega) (fu_at (by omega) h13)))))) rfl (cwV 2 S.2.2.2.2 gL_law_X10_copyTree rfl rfl rfl (by decide +kernel) ⟨Nat.le_of_ble_eq_true rfl, Nat.le_of_ble_eq_true rfl⟩) rfl hl.1 rfl (Nat.le_of_ble_eq_true rfl) dL_law_966 ⟨Nat.le_of_ble_eq_true rfl, Nat.le_of_ble_eq_true rfl⟩ (fun rv_2 _ H locs hp hG => ?_)
  subst rv_2
  refine lv_istore (lv' := [(7, .int 1), (6, .int 0), (0, .ref b), (1, .ref N0), (2, .ref (N0 + 164)), (3, .ref (N0 + 229)), (4, .ref (N0 + 230)), (5, .int 0)]) S.1 S.2.1 dL_law_969 hl (by decide) rfl (fun ls hl => ?_)
  refine lv_aload_n S.1 S.2.1 dL_law_971 rfl (lv_at hl 4 rfl) ?_
  refine fx_cVi (As := []) (rest := []) S hG (k117_X10_thrown (by omega) (fu_at (by omega) (fu_at (by omega) (fu_at (by omega) (fu_at (by omega) (fu_at (by omega) fu_s)))))) (fu_at (by omega) (fu_at (by omega) (fu_at (by omega) (fu_at (by omega) (fu_at (by omega) fu_s))))) rfl (cwV 0 S.2.2.2.2 gL_law_X10_thrown rfl rfl rfl (by decide +kernel) ⟨Nat.le_of_ble_eq_true rfl, Nat.le_of_ble_eq_true rfl⟩) rfl hl.1 rfl (Nat.le_of_ble_eq_true rfl) dL_law_972 ⟨Nat.le_of_ble_eq_true rfl, Nat.le_of_ble_eq_true rfl⟩ (fun rv_3 _ H locs hp hG => ?_)
  subst rv_3
  refine lv_iload S.1 S.2.1 dL_law_975 (lv_at hl 1 rfl) ?_
  refine lv_icmp_eq (tgt := 982) S.1 S.2.1 dL_law_977 (by decide) (fun _ => ?_) (fun c => absurd (by decide) c)
  refine lv_iload S.1 S.2.1 dL_law_982 (lv_at hl 1 rfl) ?_
  refine lv_if_ne (tgt := 999) S.1 S.2.1 dL_law_984 (by decide) (fun c => absurd (by decide) c) (fun _ => ?_)
  refine lv_aload_n S.1 S.2.1 dL_law_987 rfl (lv_at hl 5 rfl) ?_
  refine lv_iconst (v := 0) S.1 S.2.1 dL_law_988 (by decide) ?_
  refine gx_lald (v := 1) S hG 2 (fu_at (by omega) (fu_at (by omega) (fu_at (by omega) (fu_at (by omega) (fu_at (by omega) (fu_at (by omega) fu_s)))))) rfl (fin_l (by decide)) rfl dL_law_989 ?_
  refine lv_iload S.1 S.2.1 dL_law_990 (lv_at hl 0 rfl) ?_
  refine lv_i2l (v := 1) S.1 S.2.1 dL_law_992 (by decide) ?_
  refine gx_lcmpEq S rfl dL_law_993 ?_
  refine lv_if_eq (tgt := 999) S.1 S.2.1 dL_law_994 (by decide) (fun _ => ?_) (fun c => absurd (by decide) c)
  refine lv_goto (tgt := 2650) S.1 S.2.1 dL_law_999 (by decide) ?_
  refine lv_iinc (v := 5) (lv' := [(5, .int 5), (7, .int 1), (6, .int 0), (0, .ref b), (1, .ref N0), (2, .ref (N0 + 164)), (3, .ref (N0 + 229)), (4, .ref (N0 + 230))]) S.1 S.2.1 dL_law_2650 hl (k := 7) rfl (by decide) (by decide) rfl (fun ls hl => ?_)
  refine lv_goto (tgt := 28) S.1 S.2.1 dL_law_2653 (by decide) ?_
  refine lv_iload S.1 S.2.1 dL_law_28 (lv_at hl 0 rfl) ?_
  refine lv_aload_n S.1 S.2.1 dL_law_30 rfl (lv_at hl 3 rfl) ?_
  refine gx_slen (v := 5) S hG hX hbl rfl dL_law_31 ?_
  refine lv_iconst (v := 5) S.1 S.2.1 dL_law_32 (by decide) ?_
  refine lv_isub S.1 S.2.1 dL_law_33 ?_
  refine fx_topi (y := 0) (by decide) ?_
  refine lv_icmp_gt (tgt := 2656) S.1 S.2.1 dL_law_34 (by decide) (fun _ => ?_) (fun c => absurd (by decide) c)
  refine lv_iconst (v := 1) S.1 S.2.1 dL_law_2656 (by decide) ?_
  refine va_forget (fun q hq => by rw [hN]; exact hG.2.1.2.2 q hq) ?_
  refine W.widen (k := 600002) (n := 7302232) (by decide) (by decide) ?_
  exact lw_ret (d0 := s.drawn) (Drawn.sameBut.refl _ _) S.1 S.2.1 hr hlocks dL_law_2657
theorem l11_5 {p : Program} {e : Env} {s : State} {m : MethodId} {below : List Frame} {meth : Method} {c : Code} {b : Nat} {xs : Nat → Int32} {H : Heap} {locs : List Loc} {ls : Array Slot} {n : Nat} {a2 a3 a4 : Int32} (g_a2_ge_3 : 3 ≤ a2) (S : CallFix p m c cL_law 9 s #[.ref b] wsL_law "TreeDifferLaw") (hr : meth.sig.returnType = ret) (hlocks : meth.locks = false) (hst : l.stackTraces = false) (hX : va_X b 5 xs s s.heap) (hbl : b < s.heap.size ∧ b < N0) (hN : s.heap.size = N0) (hn : N0 + 231 ≤ n) (hx1 : xs 1 = 0) (hx2 : xs 2 = a2) (hx3 : xs 3 = a3) (hx4 : xs 4 = a4) (h0 : F N0 = some (.inr (9, [.ref (N0 + 1), .ref (N0 + 2), .ref (N0 + 11), .ref (N0 + 13), .ref (N0 + 63), .ref (N0 + 65), .ref (N0 + 85), .int (-1), .int (-1), .int 32]))) (h1 : F (N0 + 1) = some (.inl (cTr, 3, .inr (.inr (.inr (.inr (va_up (va_up (va_up (fun _ => none) 0 (some (N0 + 143))) 1 (some (N0 + 150))) 2 (some (N0 + 157))))))))) (h2 : F (N0 + 164) = some (.inr (12, [.ref (N0 + 165), .int 0, .ref (N0 + 181), .int 0, .int 0, .int 0, .int (-1), .ref (ql 24), .ref (N0 + 182), .ref (N0 + 187), .ref (N0 + 208), .ref (N0 + 209), .ref (N0 + 210), .ref (N0 + 211), .ref (N0 + 212), .int 0, .ref (N0 + 213), .ref (N0 + 218), .ref (N0 + 223), .ref (N0 + 224), .ref (N0 + 225), .ref (N0 + 226), .ref (N0 + 227), .int 0, .int 0, .ref (N0 + 228), .null, .int (-1), .int 0, .int 0, .int 0]))) (hG : fG N0 D vwCl (fty cI cC cL cD cII cTr cTm cIt cB) (fen ql) s F n H locs) (hl : lv_has ls 9 [(0, .ref b), (1, .ref N0), (2, .ref (N0 + 164)), (3, .ref (N0 + 229)), (4, .ref (N0 + 230)), (5, .int 0)]) : W p l e { frames := 2048, cells := 600002, slots := 7302232, locals := 84000 } s m #[.ref b] below meth c H locs 231 4980 (lw_Z below #[.ref b] s) (F0 m 934 ls []) := by
  have lt_h0 := hG.1.lt h0
  have lt_h1 := hG.1.lt h1
  have lt_h2 := hG.1.lt h2
  refine lv_aload_n S.1 S.2.1 dL_law_934 rfl (lv_at hl 1 rfl) ?_
  refine lv_aload_n S.1 S.2.1 dL_law_935 rfl (lv_at hl 0 rfl) ?_
  refine lv_iload S.1 S.2.1 dL_law_936 (lv_at hl 5 rfl) ?_
  refine lv_iconst (v := 1) S.1 S.2.1 dL_law_938 (by decide) ?_
  refine lv_iadd S.1 S.2.1 dL_law_939 ?_
  refine fx_topi (y := 1) (by decide) ?_
  refine gx_sld (v := 0) S hG hX hbl (fin_l (by decide)) hx1 dL_law_940 ?_
  refine lv_aload_n S.1 S.2.1 dL_law_941 rfl (lv_at hl 0 rfl) ?_
  refine lv_iload S.1 S.2.1 dL_law_942 (lv_at hl 5 rfl) ?_
  refine lv_iconst (v := 2) S.1 S.2.1 dL_law_944 (by decide) ?_
  refine lv_iadd S.1 S.2.1 dL_law_945 ?_
  refine fx_topi (y := 2) (by decide) ?_
  refine gx_sld (v := a2) S hG hX hbl (fin_l (by decide)) hx2 dL_law_946 ?_
  refine lv_aload_n S.1 S.2.1 dL_law_947 rfl (lv_at hl 3 rfl) ?_
  refine fx_cTi (As := [.ref N0, .int 0, .int a2, .ref (N0 + 229)]) (rest := []) S hG (k480_L_copyTree g_a2_ge_3 hst (by omega) h0 h1) (vx_cwSW 4 S.2.2.2.2 gL_law_L_copyTree rfl rfl rfl (by decide +kernel) ⟨Nat.le_of_ble_eq_true rfl, Nat.le_of_ble_eq_true rfl⟩) rfl hl.1 rfl (Nat.le_of_ble_eq_true rfl) dL_law_948 ⟨Nat.le_of_ble_eq_true rfl, Nat.le_of_ble_eq_true rfl⟩ (fun rv_u_1 u_1 H locs hp hG => ?_)
  obtain ⟨rfl, hu_1⟩ := hp
  refine W.widen (k := 232) (n := 4986) (by decide) (by decide) ?_
  refine lv_istore (lv' := [(6, .int 1), (0, .ref b), (1, .ref N0), (2, .ref (N0 + 164)), (3, .ref (N0 + 229)), (4, .ref (N0 + 230)), (5, .int 0)]) S.1 S.2.1 dL_law_951 hl (by decide) rfl (fun ls hl => ?_)
  refine lv_aload_n S.1 S.2.1 dL_law_953 rfl (lv_at hl 3 rfl) ?_
  refine lv_aload_n S.1 S.2.1 dL_law_954 rfl (lv_at hl 1 rfl) ?_
  refine lv_iload S.1 S.2.1 dL_law_955 (lv_at hl 6 rfl) ?_
  refine lv_iconst (v := 1) S.1 S.2.1 dL_law_957 (by decide) ?_
  refine lv_iadd S.1 S.2.1 dL_law_958 ?_
  refine fx_topi (y := 1) (by decide) ?_
  refine gx_sld (v := 0) S hG hX hbl (fin_l (by decide)) hx1 dL_law_959 ?_
  refine lv_aload_n S.1 S.2.1 dL_law_960 rfl (lv_at hl 1 rfl) ?_
  refine lv_iload S.1 S.2.1 dL_law_961 (lv_at hl 6 rfl) ?_
  refine lv_iconst (v := 2) S.1 S.2.1 dL_law_963 (by decide) ?_
  refine lv_iadd S.1 S.2.1 dL_law_964 ?_
  refine fx_topi (y := 2) (by decide) ?_
  refine gx_sld (v := a2) S hG hX hbl (fin_l (by decide)) hx2 dL_law_965 ?_
  refine fx_cVi (As := [.int 0, .int a2]) (rest := []) S hG (k484_X10_copyTree g_a2_ge_3 (by omega) h2) h2 rfl (cwV 2 S.2.2.2.2 gL_law_X10_copyTree rfl rfl rfl (by decide +kernel) ⟨Nat.le_of_ble_eq_true rfl, Nat.le_of_ble_eq_true rfl⟩) rfl hl.1 rfl (Nat.le_of_ble_eq_true rfl) dL_law_966 ⟨Nat.le_of_ble_eq_true rfl, Nat.le_of_ble_eq_true rfl⟩ (fun rv_2 _ H locs hp hG => ?_)
  subst rv_2
  refine lv_istore (lv' := [(7, .int 0), (6, .int 1), (0, .ref b), (1, .ref N0), (2, .ref (N0 + 164)), (3, .ref (N0 + 229)), (4, .ref (N0 + 230)), (5, .int 0)]) S.1 S.2.1 dL_law_969 hl (by decide) rfl (fun ls hl => ?_)
  refine lv_aload_n S.1 S.2.1 dL_law_971 rfl (lv_at hl 4 rfl) ?_
  refine fx_cVi (As := []) (rest := []) S hG (k25_X10_thrown (by omega) fu_s) fu_s rfl (cwV 0 S.2.2.2.2 gL_law_X10_thrown rfl rfl rfl (by decide +kernel) ⟨Nat.le_of_ble_eq_true rfl, Nat.le_of_ble_eq_true rfl⟩) rfl hl.1 rfl (Nat.le_of_ble_eq_true rfl) dL_law_972 ⟨Nat.le_of_ble_eq_true rfl, Nat.le_of_ble_eq_true rfl⟩ (fun rv_3 _ H locs hp hG => ?_)
  subst rv_3
  refine lv_iload S.1 S.2.1 dL_law_975 (lv_at hl 1 rfl) ?_
  refine lv_icmp_eq (tgt := 982) S.1 S.2.1 dL_law_977 (by decide) (fun _ => ?_) (fun c => absurd (by decide) c)
  refine lv_iload S.1 S.2.1 dL_law_982 (lv_at hl 1 rfl) ?_
  refine lv_if_ne (tgt := 999) S.1 S.2.1 dL_law_984 (by decide) (fun _ => ?_) (fun c => absurd c (by decide))
  refine lv_goto (tgt := 2650) S.1 S.2.1 dL_law_999 (by decide) ?_
  refine lv_iinc (v := 5) (lv' := [(5, .int 5), (7, .int 0), (6, .int 1), (0, .ref b), (1, .ref N0), (2, .ref (N0 + 164)), (3, .ref (N0 + 229)), (4, .ref (N0 + 230))]) S.1 S.2.1 dL_law_2650 hl (k := 7) rfl (by decide) (by decide) rfl (fun ls hl => ?_)
  refine lv_goto (tgt := 28) S.1 S.2.1 dL_law_2653 (by decide) ?_
  refine lv_iload S.1 S.2.1 dL_law_28 (lv_at hl 0 rfl) ?_
  refine lv_aload_n S.1 S.2.1 dL_law_30 rfl (lv_at hl 3 rfl) ?_
  refine gx_slen (v := 5) S hG hX hbl rfl dL_law_31 ?_
  refine lv_iconst (v := 5) S.1 S.2.1 dL_law_32 (by decide) ?_
  refine lv_isub S.1 S.2.1 dL_law_33 ?_
  refine fx_topi (y := 0) (by decide) ?_
  refine lv_icmp_gt (tgt := 2656) S.1 S.2.1 dL_law_34 (by decide) (fun _ => ?_) (fun c => absurd (by decide) c)
  refine lv_iconst (v := 1) S.1 S.2.1 dL_law_2656 (by decide) ?_
  refine va_forget (fun q hq => by rw [hN]; exact hG.2.1.2.2 q hq) ?_
  refine W.widen (k := 600002) (n := 7302232) (by decide) (by decide) ?_
  exact lw_ret (d0 := s.drawn) (Drawn.sameBut.refl _ _) S.1 S.2.1 hr hlocks dL_law_2657
theorem l11_6 {p : Program} {e : Env} {s : State} {m : MethodId} {below : List Frame} {meth : Method} {c : Code} {b : Nat} {xs : Nat → Int32} {H : Heap} {locs : List Loc} {ls : Array Slot} {n : Nat} {a2 a3 a4 : Int32} (g_a2_le_m1 : a2 ≤ (-1)) (S : CallFix p m c cL_law 9 s #[.ref b] wsL_law "TreeDifferLaw") (hr : meth.sig.returnType = ret) (hlocks : meth.locks = false) (hst : l.stackTraces = false) (hX : va_X b 5 xs s s.heap) (hbl : b < s.heap.size ∧ b < N0) (hN : s.heap.size = N0) (hn : N0 + 231 ≤ n) (hx1 : xs 1 = 1) (hx2 : xs 2 = a2) (hx3 : xs 3 = a3) (hx4 : xs 4 = a4) (h0 : F N0 = some (.inr (9, [.ref (N0 + 1), .ref (N0 + 2), .ref (N0 + 11), .ref (N0 + 13), .ref (N0 + 63), .ref (N0 + 65), .ref (N0 + 85), .int (-1), .int (-1), .int 32]))) (h1 : F (N0 + 1) = some (.inl (cTr, 3, .inr (.inr (.inr (.inr (va_up (va_up (va_up (fun _ => none) 0 (some (N0 + 143))) 1 (some (N0 + 150))) 2 (some (N0 + 157))))))))) (h2 : F (N0 + 164) = some (.inr (12, [.ref (N0 + 165), .int 0, .ref (N0 + 181), .int 0, .int 0, .int 0, .int (-1), .ref (ql 24), .ref (N0 + 182), .ref (N0 + 187), .ref (N0 + 208), .ref (N0 + 209), .ref (N0 + 210), .ref (N0 + 211), .ref (N0 + 212), .int 0, .ref (N0 + 213), .ref (N0 + 218), .ref (N0 + 223), .ref (N0 + 224), .ref (N0 + 225), .ref (N0 + 226), .ref (N0 + 227), .int 0, .int 0, .ref (N0 + 228), .null, .int (-1), .int 0, .int 0, .int 0]))) (hG : fG N0 D vwCl (fty cI cC cL cD cII cTr cTm cIt cB) (fen ql) s F n H locs) (hl : lv_has ls 9 [(0, .ref b), (1, .ref N0), (2, .ref (N0 + 164)), (3, .ref (N0 + 229)), (4, .ref (N0 + 230)), (5, .int 0)]) : W p l e { frames := 2048, cells := 600002, slots := 7302232, locals := 84000 } s m #[.ref b] below meth c H locs 231 4980 (lw_Z below #[.ref b] s) (F0 m 934 ls []) := by
  have lt_h0 := hG.1.lt h0
  have lt_h1 := hG.1.lt h1
  have lt_h2 := hG.1.lt h2
  refine lv_aload_n S.1 S.2.1 dL_law_934 rfl (lv_at hl 1 rfl) ?_
  refine lv_aload_n S.1 S.2.1 dL_law_935 rfl (lv_at hl 0 rfl) ?_
  refine lv_iload S.1 S.2.1 dL_law_936 (lv_at hl 5 rfl) ?_
  refine lv_iconst (v := 1) S.1 S.2.1 dL_law_938 (by decide) ?_
  refine lv_iadd S.1 S.2.1 dL_law_939 ?_
  refine fx_topi (y := 1) (by decide) ?_
  refine gx_sld (v := 1) S hG hX hbl (fin_l (by decide)) hx1 dL_law_940 ?_
  refine lv_aload_n S.1 S.2.1 dL_law_941 rfl (lv_at hl 0 rfl) ?_
  refine lv_iload S.1 S.2.1 dL_law_942 (lv_at hl 5 rfl) ?_
  refine lv_iconst (v := 2) S.1 S.2.1 dL_law_944 (by decide) ?_
  refine lv_iadd S.1 S.2.1 dL_law_945 ?_
  refine fx_topi (y := 2) (by decide) ?_
  refine gx_sld (v := a2) S hG hX hbl (fin_l (by decide)) hx2 dL_law_946 ?_
  refine lv_aload_n S.1 S.2.1 dL_law_947 rfl (lv_at hl 3 rfl) ?_
  refine fx_cTi (As := [.ref N0, .int 1, .int a2, .ref (N0 + 229)]) (rest := []) S hG (k486_L_copyTree g_a2_le_m1 hst (by omega) h0 h1) (vx_cwSW 4 S.2.2.2.2 gL_law_L_copyTree rfl rfl rfl (by decide +kernel) ⟨Nat.le_of_ble_eq_true rfl, Nat.le_of_ble_eq_true rfl⟩) rfl hl.1 rfl (Nat.le_of_ble_eq_true rfl) dL_law_948 ⟨Nat.le_of_ble_eq_true rfl, Nat.le_of_ble_eq_true rfl⟩ (fun rv_u_1 u_1 H locs hp hG => ?_)
  obtain ⟨rfl, hu_1⟩ := hp
  refine W.widen (k := 232) (n := 4986) (by decide) (by decide) ?_
  refine lv_istore (lv' := [(6, .int 1), (0, .ref b), (1, .ref N0), (2, .ref (N0 + 164)), (3, .ref (N0 + 229)), (4, .ref (N0 + 230)), (5, .int 0)]) S.1 S.2.1 dL_law_951 hl (by decide) rfl (fun ls hl => ?_)
  refine lv_aload_n S.1 S.2.1 dL_law_953 rfl (lv_at hl 3 rfl) ?_
  refine lv_aload_n S.1 S.2.1 dL_law_954 rfl (lv_at hl 1 rfl) ?_
  refine lv_iload S.1 S.2.1 dL_law_955 (lv_at hl 6 rfl) ?_
  refine lv_iconst (v := 1) S.1 S.2.1 dL_law_957 (by decide) ?_
  refine lv_iadd S.1 S.2.1 dL_law_958 ?_
  refine fx_topi (y := 1) (by decide) ?_
  refine gx_sld (v := 1) S hG hX hbl (fin_l (by decide)) hx1 dL_law_959 ?_
  refine lv_aload_n S.1 S.2.1 dL_law_960 rfl (lv_at hl 1 rfl) ?_
  refine lv_iload S.1 S.2.1 dL_law_961 (lv_at hl 6 rfl) ?_
  refine lv_iconst (v := 2) S.1 S.2.1 dL_law_963 (by decide) ?_
  refine lv_iadd S.1 S.2.1 dL_law_964 ?_
  refine fx_topi (y := 2) (by decide) ?_
  refine gx_sld (v := a2) S hG hX hbl (fin_l (by decide)) hx2 dL_law_965 ?_
  refine fx_cVi (As := [.int 1, .int a2]) (rest := []) S hG (k488_X10_copyTree g_a2_le_m1 (by omega) h2) h2 rfl (cwV 2 S.2.2.2.2 gL_law_X10_copyTree rfl rfl rfl (by decide +kernel) ⟨Nat.le_of_ble_eq_true rfl, Nat.le_of_ble_eq_true rfl⟩) rfl hl.1 rfl (Nat.le_of_ble_eq_true rfl) dL_law_966 ⟨Nat.le_of_ble_eq_true rfl, Nat.le_of_ble_eq_true rfl⟩ (fun rv_2 _ H locs hp hG => ?_)
  subst rv_2
  refine lv_istore (lv' := [(7, .int 0), (6, .int 1), (0, .ref b), (1, .ref N0), (2, .ref (N0 + 164)), (3, .ref (N0 + 229)), (4, .ref (N0 + 230)), (5, .int 0)]) S.1 S.2.1 dL_law_969 hl (by decide) rfl (fun ls hl => ?_)
  refine lv_aload_n S.1 S.2.1 dL_law_971 rfl (lv_at hl 4 rfl) ?_
  refine fx_cVi (As := []) (rest := []) S hG (k25_X10_thrown (by omega) fu_s) fu_s rfl (cwV 0 S.2.2.2.2 gL_law_X10_thrown rfl rfl rfl (by decide +kernel) ⟨Nat.le_of_ble_eq_true rfl, Nat.le_of_ble_eq_true rfl⟩) rfl hl.1 rfl (Nat.le_of_ble_eq_true rfl) dL_law_972 ⟨Nat.le_of_ble_eq_true rfl, Nat.le_of_ble_eq_true rfl⟩ (fun rv_3 _ H locs hp hG => ?_)
  subst rv_3
  refine lv_iload S.1 S.2.1 dL_law_975 (lv_at hl 1 rfl) ?_
  refine lv_icmp_eq (tgt := 982) S.1 S.2.1 dL_law_977 (by decide) (fun _ => ?_) (fun c => absurd (by decide) c)
  refine lv_iload S.1 S.2.1 dL_law_982 (lv_at hl 1 rfl) ?_
  refine lv_if_ne (tgt := 999) S.1 S.2.1 dL_law_984 (by decide) (fun _ => ?_) (fun c => absurd c (by decide))
  refine lv_goto (tgt := 2650) S.1 S.2.1 dL_law_999 (by decide) ?_
  refine lv_iinc (v := 5) (lv' := [(5, .int 5), (7, .int 0), (6, .int 1), (0, .ref b), (1, .ref N0), (2, .ref (N0 + 164)), (3, .ref (N0 + 229)), (4, .ref (N0 + 230))]) S.1 S.2.1 dL_law_2650 hl (k := 7) rfl (by decide) (by decide) rfl (fun ls hl => ?_)
  refine lv_goto (tgt := 28) S.1 S.2.1 dL_law_2653 (by decide) ?_
  refine lv_iload S.1 S.2.1 dL_law_28 (lv_at hl 0 rfl) ?_
  refine lv_aload_n S.1 S.2.1 dL_law_30 rfl (lv_at hl 3 rfl) ?_
  refine gx_slen (v := 5) S hG hX hbl rfl dL_law_31 ?_
  refine lv_iconst (v := 5) S.1 S.2.1 dL_law_32 (by decide) ?_
  refine lv_isub S.1 S.2.1 dL_law_33 ?_
  refine fx_topi (y := 0) (by decide) ?_
  refine lv_icmp_gt (tgt := 2656) S.1 S.2.1 dL_law_34 (by decide) (fun _ => ?_) (fun c => absurd (by decide) c)
  refine lv_iconst (v := 1) S.1 S.2.1 dL_law_2656 (by decide) ?_
  refine va_forget (fun q hq => by rw [hN]; exact hG.2.1.2.2 q hq) ?_
  refine W.widen (k := 600002) (n := 7302232) (by decide) (by decide) ?_
  exact lw_ret (d0 := s.drawn) (Drawn.sameBut.refl _ _) S.1 S.2.1 hr hlocks dL_law_2657
theorem l11_7 {p : Program} {e : Env} {s : State} {m : MethodId} {below : List Frame} {meth : Method} {c : Code} {b : Nat} {xs : Nat → Int32} {H : Heap} {locs : List Loc} {ls : Array Slot} {n : Nat} {a3 a4 : Int32} (S : CallFix p m c cL_law 9 s #[.ref b] wsL_law "TreeDifferLaw") (hr : meth.sig.returnType = ret) (hlocks : meth.locks = false) (hst : l.stackTraces = false) (hX : va_X b 5 xs s s.heap) (hbl : b < s.heap.size ∧ b < N0) (hN : s.heap.size = N0) (hn : N0 + 231 ≤ n) (hx1 : xs 1 = 1) (hx2 : xs 2 = 0) (hx3 : xs 3 = a3) (hx4 : xs 4 = a4) (h0 : F N0 = some (.inr (9, [.ref (N0 + 1), .ref (N0 + 2), .ref (N0 + 11), .ref (N0 + 13), .ref (N0 + 63), .ref (N0 + 65), .ref (N0 + 85), .int (-1), .int (-1), .int 32]))) (h1 : F (N0 + 1) = some (.inl (cTr, 3, .inr (.inr (.inr (.inr (va_up (va_up (va_up (fun _ => none) 0 (some (N0 + 143))) 1 (some (N0 + 150))) 2 (some (N0 + 157))))))))) (h2 : F (N0 + 150) = some (.inr (7, [.ref (N0 + 151), .ref (N0 + 152), .ref (N0 + 153), .ref (N0 + 154), .ref (N0 + 155), .ref (N0 + 156), .int 1]))) (h3 : F (N0 + 143) = some (.inr (7, [.ref (N0 + 144), .ref (N0 + 145), .ref (N0 + 146), .ref (N0 + 147), .ref (N0 + 148), .ref (N0 + 149), .int 1]))) (h4 : F (N0 + 151) = some (.inl (cC, 20, .inl (upd (fun _ => 0) 0 97)))) (h5 : F (N0 + 144) = some (.inl (cC, 20, .inl (upd (fun _ => 0) 0 97)))) (h6 : F (N0 + 152) = some (.inl (cI, 20, .inl (fun _ => 0)))) (h7 : F (N0 + 145) = some (.inl (cI, 20, .inl (fun _ => 0)))) (h8 : F (N0 + 153) = some (.inl (cI, 20, .inl (fun _ => 0)))) (h9 : F (N0 + 146) = some (.inl (cI, 20, .inl (fun _ => 0)))) (h10 : F (N0 + 154) = some (.inl (cI, 20, .inl (upd (fun _ => 0) 0 (-1))))) (h11 : F (N0 + 147) = some (.inl (cI, 20, .inl (upd (fun _ => 0) 0 (-1))))) (h12 : F (N0 + 229) = some (.inl (cL, 1, .inr (.inl (fun _ => 0))))) (h13 : F (N0 + 164) = some (.inr (12, [.ref (N0 + 165), .int 0, .ref (N0 + 181), .int 0, .int 0, .int 0, .int (-1), .ref (ql 24), .ref (N0 + 182), .ref (N0 + 187), .ref (N0 + 208), .ref (N0 + 209), .ref (N0 + 210), .ref (N0 + 211), .ref (N0 + 212), .int 0, .ref (N0 + 213), .ref (N0 + 218), .ref (N0 + 223), .ref (N0 + 224), .ref (N0 + 225), .ref (N0 + 226), .ref (N0 + 227), .int 0, .int 0, .ref (N0 + 228), .null, .int (-1), .int 0, .int 0, .int 0]))) (h14 : F (N0 + 165) = some (.inl (cTm, 3, .inr (.inr (.inr (.inr (va_up (va_up (va_up (fun _ => none) 0 (some (N0 + 166))) 1 (some (N0 + 171))) 2 (some (N0 + 176))))))))) (h15 : F (N0 + 171) = some (.inr (11, [.ref (N0 + 172), .ref (N0 + 173), .ref (N0 + 174), .ref (N0 + 175), .int 1]))) (h16 : F (N0 + 166) = some (.inr (11, [.ref (N0 + 167), .ref (N0 + 168), .ref (N0 + 169), .ref (N0 + 170), .int 1]))) (h17 : F (N0 + 172) = some (.inl (cI, 20, .inl (upd (fun _ => 0) 0 97)))) (h18 : F (N0 + 173) = some (.inl (cI, 20, .inl (upd (fun _ => 0) 0 0)))) (h19 : F (N0 + 174) = some (.inl (cI, 20, .inl (upd (fun _ => 0) 0 0)))) (h20 : F (N0 + 175) = some (.inl (cI, 20, .inl (upd (fun _ => 0) 0 (-1))))) (h21 : F (N0 + 167) = some (.inl (cI, 20, .inl (upd (fun _ => 0) 0 97)))) (h22 : F (N0 + 168) = some (.inl (cI, 20, .inl (upd (fun _ => 0) 0 0)))) (h23 : F (N0 + 169) = some (.inl (cI, 20, .inl (upd (fun _ => 0) 0 0)))) (h24 : F (N0 + 170) = some (.inl (cI, 20, .inl (upd (fun _ => 0) 0 (-1))))) (hG : fG N0 D vwCl (fty cI cC cL cD cII cTr cTm cIt cB) (fen ql) s F n H locs) (hl : lv_has ls 9 [(0, .ref b), (1, .ref N0), (2, .ref (N0 + 164)), (3, .ref (N0 + 229)), (4, .ref (N0 + 230)), (5, .int 0)]) : W p l e { frames := 2048, cells := 600002, slots := 7302232, locals := 84000 } s m #[.ref b] below meth c H locs 231 4980 (lw_Z below #[.ref b] s) (F0 m 934 ls []) := by
  have lt_h0 := hG.1.lt h0
  have lt_h1 := hG.1.lt h1
  have lt_h2 := hG.1.lt h2
  have lt_h3 := hG.1.lt h3
  have lt_h4 := hG.1.lt h4
  have lt_h5 := hG.1.lt h5
  have lt_h6 := hG.1.lt h6
  have lt_h7 := hG.1.lt h7
  have lt_h8 := hG.1.lt h8
  have lt_h9 := hG.1.lt h9
  have lt_h10 := hG.1.lt h10
  have lt_h11 := hG.1.lt h11
  have lt_h12 := hG.1.lt h12
  have lt_h13 := hG.1.lt h13
  have lt_h14 := hG.1.lt h14
  have lt_h15 := hG.1.lt h15
  have lt_h16 := hG.1.lt h16
  have lt_h17 := hG.1.lt h17
  have lt_h18 := hG.1.lt h18
  have lt_h19 := hG.1.lt h19
  have lt_h20 := hG.1.lt h20
  have lt_h21 := hG.1.lt h21
  have lt_h22 := hG.1.lt h22
  have lt_h23 := hG.1.lt h23
  have lt_h24 := hG.1.lt h24
  refine lv_aload_n S.1 S.2.1 dL_law_934 rfl (lv_at hl 1 rfl) ?_
  refine lv_aload_n S.1 S.2.1 dL_law_935 rfl (lv_at hl 0 rfl) ?_
  refine lv_iload S.1 S.2.1 dL_law_936 (lv_at hl 5 rfl) ?_
  refine lv_iconst (v := 1) S.1 S.2.1 dL_law_938 (by decide) ?_
  refine lv_iadd S.1 S.2.1 dL_law_939 ?_
  refine fx_topi (y := 1) (by decide) ?_
  refine gx_sld (v := 1) S hG hX hbl (fin_l (by decide)) hx1 dL_law_940 ?_
  refine lv_aload_n S.1 S.2.1 dL_law_941 rfl (lv_at hl 0 rfl) ?_
  refine lv_iload S.1 S.2.1 dL_law_942 (lv_at hl 5 rfl) ?_
  refine lv_iconst (v := 2) S.1 S.2.1 dL_law_944 (by decide) ?_
  refine lv_iadd S.1 S.2.1 dL_law_945 ?_
  refine fx_topi (y := 2) (by decide) ?_
  refine gx_sld (v := 0) S hG hX hbl (fin_l (by decide)) hx2 dL_law_946 ?_
  refine lv_aload_n S.1 S.2.1 dL_law_947 rfl (lv_at hl 3 rfl) ?_
  refine fx_cTi (As := [.ref N0, .int 1, .int 0, .ref (N0 + 229)]) (rest := []) S hG (k491_L_copyTree (by omega) h0 h1 h2 h3 h4 h5 h6 h7 h8 h9 h10 h11 h12) (vx_cwSW 4 S.2.2.2.2 gL_law_L_copyTree rfl rfl rfl (by decide +kernel) ⟨Nat.le_of_ble_eq_true rfl, Nat.le_of_ble_eq_true rfl⟩) rfl hl.1 rfl (Nat.le_of_ble_eq_true rfl) dL_law_948 ⟨Nat.le_of_ble_eq_true rfl, Nat.le_of_ble_eq_true rfl⟩ (fun rv_1 _ H locs hp hG => ?_)
  subst rv_1
  refine lv_istore (lv' := [(6, .int 0), (0, .ref b), (1, .ref N0), (2, .ref (N0 + 164)), (3, .ref (N0 + 229)), (4, .ref (N0 + 230)), (5, .int 0)]) S.1 S.2.1 dL_law_951 hl (by decide) rfl (fun ls hl => ?_)
  refine lv_aload_n S.1 S.2.1 dL_law_953 rfl (lv_at hl 3 rfl) ?_
  refine lv_aload_n S.1 S.2.1 dL_law_954 rfl (lv_at hl 1 rfl) ?_
  refine lv_iload S.1 S.2.1 dL_law_955 (lv_at hl 6 rfl) ?_
  refine lv_iconst (v := 1) S.1 S.2.1 dL_law_957 (by decide) ?_
  refine lv_iadd S.1 S.2.1 dL_law_958 ?_
  refine fx_topi (y := 1) (by decide) ?_
  refine gx_sld (v := 1) S hG hX hbl (fin_l (by decide)) hx1 dL_law_959 ?_
  refine lv_aload_n S.1 S.2.1 dL_law_960 rfl (lv_at hl 1 rfl) ?_
  refine lv_iload S.1 S.2.1 dL_law_961 (lv_at hl 6 rfl) ?_
  refine lv_iconst (v := 2) S.1 S.2.1 dL_law_963 (by decide) ?_
  refine lv_iadd S.1 S.2.1 dL_law_964 ?_
  refine fx_topi (y := 2) (by decide) ?_
  refine gx_sld (v := 0) S hG hX hbl (fin_l (by decide)) hx2 dL_law_965 ?_
  refine fx_cVi (As := [.int 1, .int 0]) (rest := []) S hG (k494_X10_copyTree (by omega) (fu_at (by omega) (fu_at (by omega) (fu_at (by omega) (fu_at (by omega) (fu_at (by omega) (fu_at (by omega) h13)))))) (fu_at (by omega) (fu_at (by omega) (fu_at (by omega) (fu_at (by omega) (fu_at (by omega) (fu_at (by omega) h14)))))) (fu_at (by omega) (fu_at (by omega) (fu_at (by omega) (fu_at (by omega) (fu_at (by omega) (fu_at (by omega) h15)))))) (fu_at (by omega) (fu_at (by omega) (fu_at (by omega) (fu_at (by omega) (fu_at (by omega) (fu_at (by omega) h16)))))) (fu_at (by omega) (fu_at (by omega) (fu_at (by omega) (fu_at (by omega) (fu_at (by omega) (fu_at (by omega) h17)))))) (fu_at (by omega) (fu_at (by omega) (fu_at (by omega) (fu_at (by omega) (fu_at (by omega) (fu_at (by omega) h18)))))) (fu_at (by omega) (fu_at (by omega) (fu_at (by omega) (fu_at (by omega) (fu_at (by omega) (fu_at (by omega) h19)))))) (fu_at (by omega) (fu_at (by omega) (fu_at (by omega) (fu_at (by omega) (fu_at (by omega) (fu_at (by omega) h20)))))) (fu_at (by omega) (fu_at (by omega) (fu_at (by omega) (fu_at (by omega) (fu_at (by omega) (fu_at (by omega) h21)))))) (fu_at (by omega) (fu_at (by omega) (fu_at (by omega) (fu_at (by omega) (fu_at (by omega) (fu_at (by omega) h22)))))) (fu_at (by omega) (fu_at (by omega) (fu_at (by omega) (fu_at (by omega) (fu_at (by omega) (fu_at (by omega) h23)))))) (fu_at (by omega) (fu_at (by omega) (fu_at (by omega) (fu_at (by omega) (fu_at (by omega) (fu_at (by omega) h24))))))) (fu_at (by omega) (fu_at (by omega) (fu_at (by omega) (fu_at (by omega) (fu_at (by omega) (fu_at (by omega) h13)))))) rfl (cwV 2 S.2.2.2.2 gL_law_X10_copyTree rfl rfl rfl (by decide +kernel) ⟨Nat.le_of_ble_eq_true rfl, Nat.le_of_ble_eq_true rfl⟩) rfl hl.1 rfl (Nat.le_of_ble_eq_true rfl) dL_law_966 ⟨Nat.le_of_ble_eq_true rfl, Nat.le_of_ble_eq_true rfl⟩ (fun rv_2 _ H locs hp hG => ?_)
  subst rv_2
  refine lv_istore (lv' := [(7, .int 1), (6, .int 0), (0, .ref b), (1, .ref N0), (2, .ref (N0 + 164)), (3, .ref (N0 + 229)), (4, .ref (N0 + 230)), (5, .int 0)]) S.1 S.2.1 dL_law_969 hl (by decide) rfl (fun ls hl => ?_)
  refine lv_aload_n S.1 S.2.1 dL_law_971 rfl (lv_at hl 4 rfl) ?_
  refine fx_cVi (As := []) (rest := []) S hG (k117_X10_thrown (by omega) (fu_at (by omega) (fu_at (by omega) (fu_at (by omega) (fu_at (by omega) (fu_at (by omega) fu_s)))))) (fu_at (by omega) (fu_at (by omega) (fu_at (by omega) (fu_at (by omega) (fu_at (by omega) fu_s))))) rfl (cwV 0 S.2.2.2.2 gL_law_X10_thrown rfl rfl rfl (by decide +kernel) ⟨Nat.le_of_ble_eq_true rfl, Nat.le_of_ble_eq_true rfl⟩) rfl hl.1 rfl (Nat.le_of_ble_eq_true rfl) dL_law_972 ⟨Nat.le_of_ble_eq_true rfl, Nat.le_of_ble_eq_true rfl⟩ (fun rv_3 _ H locs hp hG => ?_)
  subst rv_3
  refine lv_iload S.1 S.2.1 dL_law_975 (lv_at hl 1 rfl) ?_
  refine lv_icmp_eq (tgt := 982) S.1 S.2.1 dL_law_977 (by decide) (fun _ => ?_) (fun c => absurd (by decide) c)
  refine lv_iload S.1 S.2.1 dL_law_982 (lv_at hl 1 rfl) ?_
  refine lv_if_ne (tgt := 999) S.1 S.2.1 dL_law_984 (by decide) (fun c => absurd (by decide) c) (fun _ => ?_)
  refine lv_aload_n S.1 S.2.1 dL_law_987 rfl (lv_at hl 5 rfl) ?_
  refine lv_iconst (v := 0) S.1 S.2.1 dL_law_988 (by decide) ?_
  refine gx_lald (v := 1) S hG 2 (fu_at (by omega) (fu_at (by omega) (fu_at (by omega) (fu_at (by omega) (fu_at (by omega) (fu_at (by omega) fu_s)))))) rfl (fin_l (by decide)) rfl dL_law_989 ?_
  refine lv_iload S.1 S.2.1 dL_law_990 (lv_at hl 0 rfl) ?_
  refine lv_i2l (v := 1) S.1 S.2.1 dL_law_992 (by decide) ?_
  refine gx_lcmpEq S rfl dL_law_993 ?_
  refine lv_if_eq (tgt := 999) S.1 S.2.1 dL_law_994 (by decide) (fun _ => ?_) (fun c => absurd (by decide) c)
  refine lv_goto (tgt := 2650) S.1 S.2.1 dL_law_999 (by decide) ?_
  refine lv_iinc (v := 5) (lv' := [(5, .int 5), (7, .int 1), (6, .int 0), (0, .ref b), (1, .ref N0), (2, .ref (N0 + 164)), (3, .ref (N0 + 229)), (4, .ref (N0 + 230))]) S.1 S.2.1 dL_law_2650 hl (k := 7) rfl (by decide) (by decide) rfl (fun ls hl => ?_)
  refine lv_goto (tgt := 28) S.1 S.2.1 dL_law_2653 (by decide) ?_
  refine lv_iload S.1 S.2.1 dL_law_28 (lv_at hl 0 rfl) ?_
  refine lv_aload_n S.1 S.2.1 dL_law_30 rfl (lv_at hl 3 rfl) ?_
  refine gx_slen (v := 5) S hG hX hbl rfl dL_law_31 ?_
  refine lv_iconst (v := 5) S.1 S.2.1 dL_law_32 (by decide) ?_
  refine lv_isub S.1 S.2.1 dL_law_33 ?_
  refine fx_topi (y := 0) (by decide) ?_
  refine lv_icmp_gt (tgt := 2656) S.1 S.2.1 dL_law_34 (by decide) (fun _ => ?_) (fun c => absurd (by decide) c)
  refine lv_iconst (v := 1) S.1 S.2.1 dL_law_2656 (by decide) ?_
  refine va_forget (fun q hq => by rw [hN]; exact hG.2.1.2.2 q hq) ?_
  refine W.widen (k := 600002) (n := 7302232) (by decide) (by decide) ?_
  exact lw_ret (d0 := s.drawn) (Drawn.sameBut.refl _ _) S.1 S.2.1 hr hlocks dL_law_2657
theorem l11_8 {p : Program} {e : Env} {s : State} {m : MethodId} {below : List Frame} {meth : Method} {c : Code} {b : Nat} {xs : Nat → Int32} {H : Heap} {locs : List Loc} {ls : Array Slot} {n : Nat} {a3 a4 : Int32} (S : CallFix p m c cL_law 9 s #[.ref b] wsL_law "TreeDifferLaw") (hr : meth.sig.returnType = ret) (hlocks : meth.locks = false) (hst : l.stackTraces = false) (hX : va_X b 5 xs s s.heap) (hbl : b < s.heap.size ∧ b < N0) (hN : s.heap.size = N0) (hn : N0 + 231 ≤ n) (hx1 : xs 1 = 1) (hx2 : xs 2 = 1) (hx3 : xs 3 = a3) (hx4 : xs 4 = a4) (h0 : F N0 = some (.inr (9, [.ref (N0 + 1), .ref (N0 + 2), .ref (N0 + 11), .ref (N0 + 13), .ref (N0 + 63), .ref (N0 + 65), .ref (N0 + 85), .int (-1), .int (-1), .int 32]))) (h1 : F (N0 + 1) = some (.inl (cTr, 3, .inr (.inr (.inr (.inr (va_up (va_up (va_up (fun _ => none) 0 (some (N0 + 143))) 1 (some (N0 + 150))) 2 (some (N0 + 157))))))))) (h2 : F (N0 + 150) = some (.inr (7, [.ref (N0 + 151), .ref (N0 + 152), .ref (N0 + 153), .ref (N0 + 154), .ref (N0 + 155), .ref (N0 + 156), .int 1]))) (h3 : F (N0 + 151) = some (.inl (cC, 20, .inl (upd (fun _ => 0) 0 97)))) (h4 : F (N0 + 152) = some (.inl (cI, 20, .inl (fun _ => 0)))) (h5 : F (N0 + 153) = some (.inl (cI, 20, .inl (fun _ => 0)))) (h6 : F (N0 + 154) = some (.inl (cI, 20, .inl (upd (fun _ => 0) 0 (-1))))) (h7 : F (N0 + 229) = some (.inl (cL, 1, .inr (.inl (fun _ => 0))))) (h8 : F (N0 + 164) = some (.inr (12, [.ref (N0 + 165), .int 0, .ref (N0 + 181), .int 0, .int 0, .int 0, .int (-1), .ref (ql 24), .ref (N0 + 182), .ref (N0 + 187), .ref (N0 + 208), .ref (N0 + 209), .ref (N0 + 210), .ref (N0 + 211), .ref (N0 + 212), .int 0, .ref (N0 + 213), .ref (N0 + 218), .ref (N0 + 223), .ref (N0 + 224), .ref (N0 + 225), .ref (N0 + 226), .ref (N0 + 227), .int 0, .int 0, .ref (N0 + 228), .null, .int (-1), .int 0, .int 0, .int 0]))) (h9 : F (N0 + 165) = some (.inl (cTm, 3, .inr (.inr (.inr (.inr (va_up (va_up (va_up (fun _ => none) 0 (some (N0 + 166))) 1 (some (N0 + 171))) 2 (some (N0 + 176))))))))) (h10 : F (N0 + 171) = some (.inr (11, [.ref (N0 + 172), .ref (N0 + 173), .ref (N0 + 174), .ref (N0 + 175), .int 1]))) (h11 : F (N0 + 172) = some (.inl (cI, 20, .inl (upd (fun _ => 0) 0 97)))) (h12 : F (N0 + 173) = some (.inl (cI, 20, .inl (upd (fun _ => 0) 0 0)))) (h13 : F (N0 + 174) = some (.inl (cI, 20, .inl (upd (fun _ => 0) 0 0)))) (h14 : F (N0 + 175) = some (.inl (cI, 20, .inl (upd (fun _ => 0) 0 (-1))))) (hG : fG N0 D vwCl (fty cI cC cL cD cII cTr cTm cIt cB) (fen ql) s F n H locs) (hl : lv_has ls 9 [(0, .ref b), (1, .ref N0), (2, .ref (N0 + 164)), (3, .ref (N0 + 229)), (4, .ref (N0 + 230)), (5, .int 0)]) : W p l e { frames := 2048, cells := 600002, slots := 7302232, locals := 84000 } s m #[.ref b] below meth c H locs 231 4980 (lw_Z below #[.ref b] s) (F0 m 934 ls []) := by
  have lt_h0 := hG.1.lt h0
  have lt_h1 := hG.1.lt h1
  have lt_h2 := hG.1.lt h2
  have lt_h3 := hG.1.lt h3
  have lt_h4 := hG.1.lt h4
  have lt_h5 := hG.1.lt h5
  have lt_h6 := hG.1.lt h6
  have lt_h7 := hG.1.lt h7
  have lt_h8 := hG.1.lt h8
  have lt_h9 := hG.1.lt h9
  have lt_h10 := hG.1.lt h10
  have lt_h11 := hG.1.lt h11
  have lt_h12 := hG.1.lt h12
  have lt_h13 := hG.1.lt h13
  have lt_h14 := hG.1.lt h14
  refine lv_aload_n S.1 S.2.1 dL_law_934 rfl (lv_at hl 1 rfl) ?_
  refine lv_aload_n S.1 S.2.1 dL_law_935 rfl (lv_at hl 0 rfl) ?_
  refine lv_iload S.1 S.2.1 dL_law_936 (lv_at hl 5 rfl) ?_
  refine lv_iconst (v := 1) S.1 S.2.1 dL_law_938 (by decide) ?_
  refine lv_iadd S.1 S.2.1 dL_law_939 ?_
  refine fx_topi (y := 1) (by decide) ?_
  refine gx_sld (v := 1) S hG hX hbl (fin_l (by decide)) hx1 dL_law_940 ?_
  refine lv_aload_n S.1 S.2.1 dL_law_941 rfl (lv_at hl 0 rfl) ?_
  refine lv_iload S.1 S.2.1 dL_law_942 (lv_at hl 5 rfl) ?_
  refine lv_iconst (v := 2) S.1 S.2.1 dL_law_944 (by decide) ?_
  refine lv_iadd S.1 S.2.1 dL_law_945 ?_
  refine fx_topi (y := 2) (by decide) ?_
  refine gx_sld (v := 1) S hG hX hbl (fin_l (by decide)) hx2 dL_law_946 ?_
  refine lv_aload_n S.1 S.2.1 dL_law_947 rfl (lv_at hl 3 rfl) ?_
  refine fx_cTi (As := [.ref N0, .int 1, .int 1, .ref (N0 + 229)]) (rest := []) S hG (k497_L_copyTree (by omega) h0 h1 h2 h3 h4 h5 h6 h7) (vx_cwSW 4 S.2.2.2.2 gL_law_L_copyTree rfl rfl rfl (by decide +kernel) ⟨Nat.le_of_ble_eq_true rfl, Nat.le_of_ble_eq_true rfl⟩) rfl hl.1 rfl (Nat.le_of_ble_eq_true rfl) dL_law_948 ⟨Nat.le_of_ble_eq_true rfl, Nat.le_of_ble_eq_true rfl⟩ (fun rv_1 _ H locs hp hG => ?_)
  subst rv_1
  refine lv_istore (lv' := [(6, .int 0), (0, .ref b), (1, .ref N0), (2, .ref (N0 + 164)), (3, .ref (N0 + 229)), (4, .ref (N0 + 230)), (5, .int 0)]) S.1 S.2.1 dL_law_951 hl (by decide) rfl (fun ls hl => ?_)
  refine lv_aload_n S.1 S.2.1 dL_law_953 rfl (lv_at hl 3 rfl) ?_
  refine lv_aload_n S.1 S.2.1 dL_law_954 rfl (lv_at hl 1 rfl) ?_
  refine lv_iload S.1 S.2.1 dL_law_955 (lv_at hl 6 rfl) ?_
  refine lv_iconst (v := 1) S.1 S.2.1 dL_law_957 (by decide) ?_
  refine lv_iadd S.1 S.2.1 dL_law_958 ?_
  refine fx_topi (y := 1) (by decide) ?_
  refine gx_sld (v := 1) S hG hX hbl (fin_l (by decide)) hx1 dL_law_959 ?_
  refine lv_aload_n S.1 S.2.1 dL_law_960 rfl (lv_at hl 1 rfl) ?_
  refine lv_iload S.1 S.2.1 dL_law_961 (lv_at hl 6 rfl) ?_
  refine lv_iconst (v := 2) S.1 S.2.1 dL_law_963 (by decide) ?_
  refine lv_iadd S.1 S.2.1 dL_law_964 ?_
  refine fx_topi (y := 2) (by decide) ?_
  refine gx_sld (v := 1) S hG hX hbl (fin_l (by decide)) hx2 dL_law_965 ?_
  refine fx_cVi (As := [.int 1, .int 1]) (rest := []) S hG (k500_X10_copyTree (by omega) (fu_at (by omega) (fu_at (by omega) (fu_at (by omega) (fu_at (by omega) (fu_at (by omega) (fu_at (by omega) h8)))))) (fu_at (by omega) (fu_at (by omega) (fu_at (by omega) (fu_at (by omega) (fu_at (by omega) (fu_at (by omega) h9)))))) (fu_at (by omega) (fu_at (by omega) (fu_at (by omega) (fu_at (by omega) (fu_at (by omega) (fu_at (by omega) h10)))))) (fu_at (by omega) (fu_at (by omega) (fu_at (by omega) (fu_at (by omega) (fu_at (by omega) (fu_at (by omega) h11)))))) (fu_at (by omega) (fu_at (by omega) (fu_at (by omega) (fu_at (by omega) (fu_at (by omega) (fu_at (by omega) h12)))))) (fu_at (by omega) (fu_at (by omega) (fu_at (by omega) (fu_at (by omega) (fu_at (by omega) (fu_at (by omega) h13)))))) (fu_at (by omega) (fu_at (by omega) (fu_at (by omega) (fu_at (by omega) (fu_at (by omega) (fu_at (by omega) h14))))))) (fu_at (by omega) (fu_at (by omega) (fu_at (by omega) (fu_at (by omega) (fu_at (by omega) (fu_at (by omega) h8)))))) rfl (cwV 2 S.2.2.2.2 gL_law_X10_copyTree rfl rfl rfl (by decide +kernel) ⟨Nat.le_of_ble_eq_true rfl, Nat.le_of_ble_eq_true rfl⟩) rfl hl.1 rfl (Nat.le_of_ble_eq_true rfl) dL_law_966 ⟨Nat.le_of_ble_eq_true rfl, Nat.le_of_ble_eq_true rfl⟩ (fun rv_2 _ H locs hp hG => ?_)
  subst rv_2
  refine lv_istore (lv' := [(7, .int 1), (6, .int 0), (0, .ref b), (1, .ref N0), (2, .ref (N0 + 164)), (3, .ref (N0 + 229)), (4, .ref (N0 + 230)), (5, .int 0)]) S.1 S.2.1 dL_law_969 hl (by decide) rfl (fun ls hl => ?_)
  refine lv_aload_n S.1 S.2.1 dL_law_971 rfl (lv_at hl 4 rfl) ?_
  refine fx_cVi (As := []) (rest := []) S hG (k117_X10_thrown (by omega) (fu_at (by omega) (fu_at (by omega) (fu_at (by omega) (fu_at (by omega) (fu_at (by omega) fu_s)))))) (fu_at (by omega) (fu_at (by omega) (fu_at (by omega) (fu_at (by omega) (fu_at (by omega) fu_s))))) rfl (cwV 0 S.2.2.2.2 gL_law_X10_thrown rfl rfl rfl (by decide +kernel) ⟨Nat.le_of_ble_eq_true rfl, Nat.le_of_ble_eq_true rfl⟩) rfl hl.1 rfl (Nat.le_of_ble_eq_true rfl) dL_law_972 ⟨Nat.le_of_ble_eq_true rfl, Nat.le_of_ble_eq_true rfl⟩ (fun rv_3 _ H locs hp hG => ?_)
  subst rv_3
  refine lv_iload S.1 S.2.1 dL_law_975 (lv_at hl 1 rfl) ?_
  refine lv_icmp_eq (tgt := 982) S.1 S.2.1 dL_law_977 (by decide) (fun _ => ?_) (fun c => absurd (by decide) c)
  refine lv_iload S.1 S.2.1 dL_law_982 (lv_at hl 1 rfl) ?_
  refine lv_if_ne (tgt := 999) S.1 S.2.1 dL_law_984 (by decide) (fun c => absurd (by decide) c) (fun _ => ?_)
  refine lv_aload_n S.1 S.2.1 dL_law_987 rfl (lv_at hl 5 rfl) ?_
  refine lv_iconst (v := 0) S.1 S.2.1 dL_law_988 (by decide) ?_
  refine gx_lald (v := 1) S hG 2 (fu_at (by omega) (fu_at (by omega) (fu_at (by omega) (fu_at (by omega) (fu_at (by omega) (fu_at (by omega) fu_s)))))) rfl (fin_l (by decide)) rfl dL_law_989 ?_
  refine lv_iload S.1 S.2.1 dL_law_990 (lv_at hl 0 rfl) ?_
  refine lv_i2l (v := 1) S.1 S.2.1 dL_law_992 (by decide) ?_
  refine gx_lcmpEq S rfl dL_law_993 ?_
  refine lv_if_eq (tgt := 999) S.1 S.2.1 dL_law_994 (by decide) (fun _ => ?_) (fun c => absurd (by decide) c)
  refine lv_goto (tgt := 2650) S.1 S.2.1 dL_law_999 (by decide) ?_
  refine lv_iinc (v := 5) (lv' := [(5, .int 5), (7, .int 1), (6, .int 0), (0, .ref b), (1, .ref N0), (2, .ref (N0 + 164)), (3, .ref (N0 + 229)), (4, .ref (N0 + 230))]) S.1 S.2.1 dL_law_2650 hl (k := 7) rfl (by decide) (by decide) rfl (fun ls hl => ?_)
  refine lv_goto (tgt := 28) S.1 S.2.1 dL_law_2653 (by decide) ?_
  refine lv_iload S.1 S.2.1 dL_law_28 (lv_at hl 0 rfl) ?_
  refine lv_aload_n S.1 S.2.1 dL_law_30 rfl (lv_at hl 3 rfl) ?_
  refine gx_slen (v := 5) S hG hX hbl rfl dL_law_31 ?_
  refine lv_iconst (v := 5) S.1 S.2.1 dL_law_32 (by decide) ?_
  refine lv_isub S.1 S.2.1 dL_law_33 ?_
  refine fx_topi (y := 0) (by decide) ?_
  refine lv_icmp_gt (tgt := 2656) S.1 S.2.1 dL_law_34 (by decide) (fun _ => ?_) (fun c => absurd (by decide) c)
  refine lv_iconst (v := 1) S.1 S.2.1 dL_law_2656 (by decide) ?_
  refine va_forget (fun q hq => by rw [hN]; exact hG.2.1.2.2 q hq) ?_
  refine W.widen (k := 600002) (n := 7302232) (by decide) (by decide) ?_
  exact lw_ret (d0 := s.drawn) (Drawn.sameBut.refl _ _) S.1 S.2.1 hr hlocks dL_law_2657
theorem l11_9 {p : Program} {e : Env} {s : State} {m : MethodId} {below : List Frame} {meth : Method} {c : Code} {b : Nat} {xs : Nat → Int32} {H : Heap} {locs : List Loc} {ls : Array Slot} {n : Nat} {a3 a4 : Int32} (S : CallFix p m c cL_law 9 s #[.ref b] wsL_law "TreeDifferLaw") (hr : meth.sig.returnType = ret) (hlocks : meth.locks = false) (hst : l.stackTraces = false) (hX : va_X b 5 xs s s.heap) (hbl : b < s.heap.size ∧ b < N0) (hN : s.heap.size = N0) (hn : N0 + 231 ≤ n) (hx1 : xs 1 = 1) (hx2 : xs 2 = 2) (hx3 : xs 3 = a3) (hx4 : xs 4 = a4) (h0 : F N0 = some (.inr (9, [.ref (N0 + 1), .ref (N0 + 2), .ref (N0 + 11), .ref (N0 + 13), .ref (N0 + 63), .ref (N0 + 65), .ref (N0 + 85), .int (-1), .int (-1), .int 32]))) (h1 : F (N0 + 1) = some (.inl (cTr, 3, .inr (.inr (.inr (.inr (va_up (va_up (va_up (fun _ => none) 0 (some (N0 + 143))) 1 (some (N0 + 150))) 2 (some (N0 + 157))))))))) (h2 : F (N0 + 150) = some (.inr (7, [.ref (N0 + 151), .ref (N0 + 152), .ref (N0 + 153), .ref (N0 + 154), .ref (N0 + 155), .ref (N0 + 156), .int 1]))) (h3 : F (N0 + 157) = some (.inr (7, [.ref (N0 + 158), .ref (N0 + 159), .ref (N0 + 160), .ref (N0 + 161), .ref (N0 + 162), .ref (N0 + 163), .int 1]))) (h4 : F (N0 + 151) = some (.inl (cC, 20, .inl (upd (fun _ => 0) 0 97)))) (h5 : F (N0 + 158) = some (.inl (cC, 20, .inl (upd (fun _ => 0) 0 97)))) (h6 : F (N0 + 152) = some (.inl (cI, 20, .inl (fun _ => 0)))) (h7 : F (N0 + 159) = some (.inl (cI, 20, .inl (fun _ => 0)))) (h8 : F (N0 + 153) = some (.inl (cI, 20, .inl (fun _ => 0)))) (h9 : F (N0 + 160) = some (.inl (cI, 20, .inl (fun _ => 0)))) (h10 : F (N0 + 154) = some (.inl (cI, 20, .inl (upd (fun _ => 0) 0 (-1))))) (h11 : F (N0 + 161) = some (.inl (cI, 20, .inl (upd (fun _ => 0) 0 (-1))))) (h12 : F (N0 + 229) = some (.inl (cL, 1, .inr (.inl (fun _ => 0))))) (h13 : F (N0 + 164) = some (.inr (12, [.ref (N0 + 165), .int 0, .ref (N0 + 181), .int 0, .int 0, .int 0, .int (-1), .ref (ql 24), .ref (N0 + 182), .ref (N0 + 187), .ref (N0 + 208), .ref (N0 + 209), .ref (N0 + 210), .ref (N0 + 211), .ref (N0 + 212), .int 0, .ref (N0 + 213), .ref (N0 + 218), .ref (N0 + 223), .ref (N0 + 224), .ref (N0 + 225), .ref (N0 + 226), .ref (N0 + 227), .int 0, .int 0, .ref (N0 + 228), .null, .int (-1), .int 0, .int 0, .int 0]))) (h14 : F (N0 + 165) = some (.inl (cTm, 3, .inr (.inr (.inr (.inr (va_up (va_up (va_up (fun _ => none) 0 (some (N0 + 166))) 1 (some (N0 + 171))) 2 (some (N0 + 176))))))))) (h15 : F (N0 + 171) = some (.inr (11, [.ref (N0 + 172), .ref (N0 + 173), .ref (N0 + 174), .ref (N0 + 175), .int 1]))) (h16 : F (N0 + 176) = some (.inr (11, [.ref (N0 + 177), .ref (N0 + 178), .ref (N0 + 179), .ref (N0 + 180), .int 1]))) (h17 : F (N0 + 172) = some (.inl (cI, 20, .inl (upd (fun _ => 0) 0 97)))) (h18 : F (N0 + 173) = some (.inl (cI, 20, .inl (upd (fun _ => 0) 0 0)))) (h19 : F (N0 + 174) = some (.inl (cI, 20, .inl (upd (fun _ => 0) 0 0)))) (h20 : F (N0 + 175) = some (.inl (cI, 20, .inl (upd (fun _ => 0) 0 (-1))))) (h21 : F (N0 + 177) = some (.inl (cI, 20, .inl (upd (fun _ => 0) 0 97)))) (h22 : F (N0 + 178) = some (.inl (cI, 20, .inl (upd (fun _ => 0) 0 0)))) (h23 : F (N0 + 179) = some (.inl (cI, 20, .inl (upd (fun _ => 0) 0 0)))) (h24 : F (N0 + 180) = some (.inl (cI, 20, .inl (upd (fun _ => 0) 0 (-1))))) (hG : fG N0 D vwCl (fty cI cC cL cD cII cTr cTm cIt cB) (fen ql) s F n H locs) (hl : lv_has ls 9 [(0, .ref b), (1, .ref N0), (2, .ref (N0 + 164)), (3, .ref (N0 + 229)), (4, .ref (N0 + 230)), (5, .int 0)]) : W p l e { frames := 2048, cells := 600002, slots := 7302232, locals := 84000 } s m #[.ref b] below meth c H locs 231 4980 (lw_Z below #[.ref b] s) (F0 m 934 ls []) := by
  have lt_h0 := hG.1.lt h0
  have lt_h1 := hG.1.lt h1
  have lt_h2 := hG.1.lt h2
  have lt_h3 := hG.1.lt h3
  have lt_h4 := hG.1.lt h4
  have lt_h5 := hG.1.lt h5
  have lt_h6 := hG.1.lt h6
  have lt_h7 := hG.1.lt h7
  have lt_h8 := hG.1.lt h8
  have lt_h9 := hG.1.lt h9
  have lt_h10 := hG.1.lt h10
  have lt_h11 := hG.1.lt h11
  have lt_h12 := hG.1.lt h12
  have lt_h13 := hG.1.lt h13
  have lt_h14 := hG.1.lt h14
  have lt_h15 := hG.1.lt h15
  have lt_h16 := hG.1.lt h16
  have lt_h17 := hG.1.lt h17
  have lt_h18 := hG.1.lt h18
  have lt_h19 := hG.1.lt h19
  have lt_h20 := hG.1.lt h20
  have lt_h21 := hG.1.lt h21
  have lt_h22 := hG.1.lt h22
  have lt_h23 := hG.1.lt h23
  have lt_h24 := hG.1.lt h24
  refine lv_aload_n S.1 S.2.1 dL_law_934 rfl (lv_at hl 1 rfl) ?_
  refine lv_aload_n S.1 S.2.1 dL_law_935 rfl (lv_at hl 0 rfl) ?_
  refine lv_iload S.1 S.2.1 dL_law_936 (lv_at hl 5 rfl) ?_
  refine lv_iconst (v := 1) S.1 S.2.1 dL_law_938 (by decide) ?_
  refine lv_iadd S.1 S.2.1 dL_law_939 ?_
  refine fx_topi (y := 1) (by decide) ?_
  refine gx_sld (v := 1) S hG hX hbl (fin_l (by decide)) hx1 dL_law_940 ?_
  refine lv_aload_n S.1 S.2.1 dL_law_941 rfl (lv_at hl 0 rfl) ?_
  refine lv_iload S.1 S.2.1 dL_law_942 (lv_at hl 5 rfl) ?_
  refine lv_iconst (v := 2) S.1 S.2.1 dL_law_944 (by decide) ?_
  refine lv_iadd S.1 S.2.1 dL_law_945 ?_
  refine fx_topi (y := 2) (by decide) ?_
  refine gx_sld (v := 2) S hG hX hbl (fin_l (by decide)) hx2 dL_law_946 ?_
  refine lv_aload_n S.1 S.2.1 dL_law_947 rfl (lv_at hl 3 rfl) ?_
  refine fx_cTi (As := [.ref N0, .int 1, .int 2, .ref (N0 + 229)]) (rest := []) S hG (k503_L_copyTree (by omega) h0 h1 h2 h3 h4 h5 h6 h7 h8 h9 h10 h11 h12) (vx_cwSW 4 S.2.2.2.2 gL_law_L_copyTree rfl rfl rfl (by decide +kernel) ⟨Nat.le_of_ble_eq_true rfl, Nat.le_of_ble_eq_true rfl⟩) rfl hl.1 rfl (Nat.le_of_ble_eq_true rfl) dL_law_948 ⟨Nat.le_of_ble_eq_true rfl, Nat.le_of_ble_eq_true rfl⟩ (fun rv_1 _ H locs hp hG => ?_)
  subst rv_1
  refine lv_istore (lv' := [(6, .int 0), (0, .ref b), (1, .ref N0), (2, .ref (N0 + 164)), (3, .ref (N0 + 229)), (4, .ref (N0 + 230)), (5, .int 0)]) S.1 S.2.1 dL_law_951 hl (by decide) rfl (fun ls hl => ?_)
  refine lv_aload_n S.1 S.2.1 dL_law_953 rfl (lv_at hl 3 rfl) ?_
  refine lv_aload_n S.1 S.2.1 dL_law_954 rfl (lv_at hl 1 rfl) ?_
  refine lv_iload S.1 S.2.1 dL_law_955 (lv_at hl 6 rfl) ?_
  refine lv_iconst (v := 1) S.1 S.2.1 dL_law_957 (by decide) ?_
  refine lv_iadd S.1 S.2.1 dL_law_958 ?_
  refine fx_topi (y := 1) (by decide) ?_
  refine gx_sld (v := 1) S hG hX hbl (fin_l (by decide)) hx1 dL_law_959 ?_
  refine lv_aload_n S.1 S.2.1 dL_law_960 rfl (lv_at hl 1 rfl) ?_
  refine lv_iload S.1 S.2.1 dL_law_961 (lv_at hl 6 rfl) ?_
  refine lv_iconst (v := 2) S.1 S.2.1 dL_law_963 (by decide) ?_
  refine lv_iadd S.1 S.2.1 dL_law_964 ?_
  refine fx_topi (y := 2) (by decide) ?_
  refine gx_sld (v := 2) S hG hX hbl (fin_l (by decide)) hx2 dL_law_965 ?_
  refine fx_cVi (As := [.int 1, .int 2]) (rest := []) S hG (k506_X10_copyTree (by omega) (fu_at (by omega) (fu_at (by omega) (fu_at (by omega) (fu_at (by omega) (fu_at (by omega) (fu_at (by omega) h13)))))) (fu_at (by omega) (fu_at (by omega) (fu_at (by omega) (fu_at (by omega) (fu_at (by omega) (fu_at (by omega) h14)))))) (fu_at (by omega) (fu_at (by omega) (fu_at (by omega) (fu_at (by omega) (fu_at (by omega) (fu_at (by omega) h15)))))) (fu_at (by omega) (fu_at (by omega) (fu_at (by omega) (fu_at (by omega) (fu_at (by omega) (fu_at (by omega) h16)))))) (fu_at (by omega) (fu_at (by omega) (fu_at (by omega) (fu_at (by omega) (fu_at (by omega) (fu_at (by omega) h17)))))) (fu_at (by omega) (fu_at (by omega) (fu_at (by omega) (fu_at (by omega) (fu_at (by omega) (fu_at (by omega) h18)))))) (fu_at (by omega) (fu_at (by omega) (fu_at (by omega) (fu_at (by omega) (fu_at (by omega) (fu_at (by omega) h19)))))) (fu_at (by omega) (fu_at (by omega) (fu_at (by omega) (fu_at (by omega) (fu_at (by omega) (fu_at (by omega) h20)))))) (fu_at (by omega) (fu_at (by omega) (fu_at (by omega) (fu_at (by omega) (fu_at (by omega) (fu_at (by omega) h21)))))) (fu_at (by omega) (fu_at (by omega) (fu_at (by omega) (fu_at (by omega) (fu_at (by omega) (fu_at (by omega) h22)))))) (fu_at (by omega) (fu_at (by omega) (fu_at (by omega) (fu_at (by omega) (fu_at (by omega) (fu_at (by omega) h23)))))) (fu_at (by omega) (fu_at (by omega) (fu_at (by omega) (fu_at (by omega) (fu_at (by omega) (fu_at (by omega) h24))))))) (fu_at (by omega) (fu_at (by omega) (fu_at (by omega) (fu_at (by omega) (fu_at (by omega) (fu_at (by omega) h13)))))) rfl (cwV 2 S.2.2.2.2 gL_law_X10_copyTree rfl rfl rfl (by decide +kernel) ⟨Nat.le_of_ble_eq_true rfl, Nat.le_of_ble_eq_true rfl⟩) rfl hl.1 rfl (Nat.le_of_ble_eq_true rfl) dL_law_966 ⟨Nat.le_of_ble_eq_true rfl, Nat.le_of_ble_eq_true rfl⟩ (fun rv_2 _ H locs hp hG => ?_)
  subst rv_2
  refine lv_istore (lv' := [(7, .int 1), (6, .int 0), (0, .ref b), (1, .ref N0), (2, .ref (N0 + 164)), (3, .ref (N0 + 229)), (4, .ref (N0 + 230)), (5, .int 0)]) S.1 S.2.1 dL_law_969 hl (by decide) rfl (fun ls hl => ?_)
  refine lv_aload_n S.1 S.2.1 dL_law_971 rfl (lv_at hl 4 rfl) ?_
  refine fx_cVi (As := []) (rest := []) S hG (k117_X10_thrown (by omega) (fu_at (by omega) (fu_at (by omega) (fu_at (by omega) (fu_at (by omega) (fu_at (by omega) fu_s)))))) (fu_at (by omega) (fu_at (by omega) (fu_at (by omega) (fu_at (by omega) (fu_at (by omega) fu_s))))) rfl (cwV 0 S.2.2.2.2 gL_law_X10_thrown rfl rfl rfl (by decide +kernel) ⟨Nat.le_of_ble_eq_true rfl, Nat.le_of_ble_eq_true rfl⟩) rfl hl.1 rfl (Nat.le_of_ble_eq_true rfl) dL_law_972 ⟨Nat.le_of_ble_eq_true rfl, Nat.le_of_ble_eq_true rfl⟩ (fun rv_3 _ H locs hp hG => ?_)
  subst rv_3
  refine lv_iload S.1 S.2.1 dL_law_975 (lv_at hl 1 rfl) ?_
  refine lv_icmp_eq (tgt := 982) S.1 S.2.1 dL_law_977 (by decide) (fun _ => ?_) (fun c => absurd (by decide) c)
  refine lv_iload S.1 S.2.1 dL_law_982 (lv_at hl 1 rfl) ?_
  refine lv_if_ne (tgt := 999) S.1 S.2.1 dL_law_984 (by decide) (fun c => absurd (by decide) c) (fun _ => ?_)
  refine lv_aload_n S.1 S.2.1 dL_law_987 rfl (lv_at hl 5 rfl) ?_
  refine lv_iconst (v := 0) S.1 S.2.1 dL_law_988 (by decide) ?_
  refine gx_lald (v := 1) S hG 2 (fu_at (by omega) (fu_at (by omega) (fu_at (by omega) (fu_at (by omega) (fu_at (by omega) (fu_at (by omega) fu_s)))))) rfl (fin_l (by decide)) rfl dL_law_989 ?_
  refine lv_iload S.1 S.2.1 dL_law_990 (lv_at hl 0 rfl) ?_
  refine lv_i2l (v := 1) S.1 S.2.1 dL_law_992 (by decide) ?_
  refine gx_lcmpEq S rfl dL_law_993 ?_
  refine lv_if_eq (tgt := 999) S.1 S.2.1 dL_law_994 (by decide) (fun _ => ?_) (fun c => absurd (by decide) c)
  refine lv_goto (tgt := 2650) S.1 S.2.1 dL_law_999 (by decide) ?_
  refine lv_iinc (v := 5) (lv' := [(5, .int 5), (7, .int 1), (6, .int 0), (0, .ref b), (1, .ref N0), (2, .ref (N0 + 164)), (3, .ref (N0 + 229)), (4, .ref (N0 + 230))]) S.1 S.2.1 dL_law_2650 hl (k := 7) rfl (by decide) (by decide) rfl (fun ls hl => ?_)
  refine lv_goto (tgt := 28) S.1 S.2.1 dL_law_2653 (by decide) ?_
  refine lv_iload S.1 S.2.1 dL_law_28 (lv_at hl 0 rfl) ?_
  refine lv_aload_n S.1 S.2.1 dL_law_30 rfl (lv_at hl 3 rfl) ?_
  refine gx_slen (v := 5) S hG hX hbl rfl dL_law_31 ?_
  refine lv_iconst (v := 5) S.1 S.2.1 dL_law_32 (by decide) ?_
  refine lv_isub S.1 S.2.1 dL_law_33 ?_
  refine fx_topi (y := 0) (by decide) ?_
  refine lv_icmp_gt (tgt := 2656) S.1 S.2.1 dL_law_34 (by decide) (fun _ => ?_) (fun c => absurd (by decide) c)
  refine lv_iconst (v := 1) S.1 S.2.1 dL_law_2656 (by decide) ?_
  refine va_forget (fun q hq => by rw [hN]; exact hG.2.1.2.2 q hq) ?_
  refine W.widen (k := 600002) (n := 7302232) (by decide) (by decide) ?_
  exact lw_ret (d0 := s.drawn) (Drawn.sameBut.refl _ _) S.1 S.2.1 hr hlocks dL_law_2657
theorem l11_10 {p : Program} {e : Env} {s : State} {m : MethodId} {below : List Frame} {meth : Method} {c : Code} {b : Nat} {xs : Nat → Int32} {H : Heap} {locs : List Loc} {ls : Array Slot} {n : Nat} {a2 a3 a4 : Int32} (g_a2_ge_3 : 3 ≤ a2) (S : CallFix p m c cL_law 9 s #[.ref b] wsL_law "TreeDifferLaw") (hr : meth.sig.returnType = ret) (hlocks : meth.locks = false) (hst : l.stackTraces = false) (hX : va_X b 5 xs s s.heap) (hbl : b < s.heap.size ∧ b < N0) (hN : s.heap.size = N0) (hn : N0 + 231 ≤ n) (hx1 : xs 1 = 1) (hx2 : xs 2 = a2) (hx3 : xs 3 = a3) (hx4 : xs 4 = a4) (h0 : F N0 = some (.inr (9, [.ref (N0 + 1), .ref (N0 + 2), .ref (N0 + 11), .ref (N0 + 13), .ref (N0 + 63), .ref (N0 + 65), .ref (N0 + 85), .int (-1), .int (-1), .int 32]))) (h1 : F (N0 + 1) = some (.inl (cTr, 3, .inr (.inr (.inr (.inr (va_up (va_up (va_up (fun _ => none) 0 (some (N0 + 143))) 1 (some (N0 + 150))) 2 (some (N0 + 157))))))))) (h2 : F (N0 + 164) = some (.inr (12, [.ref (N0 + 165), .int 0, .ref (N0 + 181), .int 0, .int 0, .int 0, .int (-1), .ref (ql 24), .ref (N0 + 182), .ref (N0 + 187), .ref (N0 + 208), .ref (N0 + 209), .ref (N0 + 210), .ref (N0 + 211), .ref (N0 + 212), .int 0, .ref (N0 + 213), .ref (N0 + 218), .ref (N0 + 223), .ref (N0 + 224), .ref (N0 + 225), .ref (N0 + 226), .ref (N0 + 227), .int 0, .int 0, .ref (N0 + 228), .null, .int (-1), .int 0, .int 0, .int 0]))) (hG : fG N0 D vwCl (fty cI cC cL cD cII cTr cTm cIt cB) (fen ql) s F n H locs) (hl : lv_has ls 9 [(0, .ref b), (1, .ref N0), (2, .ref (N0 + 164)), (3, .ref (N0 + 229)), (4, .ref (N0 + 230)), (5, .int 0)]) : W p l e { frames := 2048, cells := 600002, slots := 7302232, locals := 84000 } s m #[.ref b] below meth c H locs 231 4980 (lw_Z below #[.ref b] s) (F0 m 934 ls []) := by
  have lt_h0 := hG.1.lt h0
  have lt_h1 := hG.1.lt h1
  have lt_h2 := hG.1.lt h2
  refine lv_aload_n S.1 S.2.1 dL_law_934 rfl (lv_at hl 1 rfl) ?_
  refine lv_aload_n S.1 S.2.1 dL_law_935 rfl (lv_at hl 0 rfl) ?_
  refine lv_iload S.1 S.2.1 dL_law_936 (lv_at hl 5 rfl) ?_
  refine lv_iconst (v := 1) S.1 S.2.1 dL_law_938 (by decide) ?_
  refine lv_iadd S.1 S.2.1 dL_law_939 ?_
  refine fx_topi (y := 1) (by decide) ?_
  refine gx_sld (v := 1) S hG hX hbl (fin_l (by decide)) hx1 dL_law_940 ?_
  refine lv_aload_n S.1 S.2.1 dL_law_941 rfl (lv_at hl 0 rfl) ?_
  refine lv_iload S.1 S.2.1 dL_law_942 (lv_at hl 5 rfl) ?_
  refine lv_iconst (v := 2) S.1 S.2.1 dL_law_944 (by decide) ?_
  refine lv_iadd S.1 S.2.1 dL_law_945 ?_
  refine fx_topi (y := 2) (by decide) ?_
  refine gx_sld (v := a2) S hG hX hbl (fin_l (by decide)) hx2 dL_law_946 ?_
  refine lv_aload_n S.1 S.2.1 dL_law_947 rfl (lv_at hl 3 rfl) ?_
  refine fx_cTi (As := [.ref N0, .int 1, .int a2, .ref (N0 + 229)]) (rest := []) S hG (k508_L_copyTree g_a2_ge_3 hst (by omega) h0 h1) (vx_cwSW 4 S.2.2.2.2 gL_law_L_copyTree rfl rfl rfl (by decide +kernel) ⟨Nat.le_of_ble_eq_true rfl, Nat.le_of_ble_eq_true rfl⟩) rfl hl.1 rfl (Nat.le_of_ble_eq_true rfl) dL_law_948 ⟨Nat.le_of_ble_eq_true rfl, Nat.le_of_ble_eq_true rfl⟩ (fun rv_u_1 u_1 H locs hp hG => ?_)
  obtain ⟨rfl, hu_1⟩ := hp
  refine W.widen (k := 232) (n := 4986) (by decide) (by decide) ?_
  refine lv_istore (lv' := [(6, .int 1), (0, .ref b), (1, .ref N0), (2, .ref (N0 + 164)), (3, .ref (N0 + 229)), (4, .ref (N0 + 230)), (5, .int 0)]) S.1 S.2.1 dL_law_951 hl (by decide) rfl (fun ls hl => ?_)
  refine lv_aload_n S.1 S.2.1 dL_law_953 rfl (lv_at hl 3 rfl) ?_
  refine lv_aload_n S.1 S.2.1 dL_law_954 rfl (lv_at hl 1 rfl) ?_
  refine lv_iload S.1 S.2.1 dL_law_955 (lv_at hl 6 rfl) ?_
  refine lv_iconst (v := 1) S.1 S.2.1 dL_law_957 (by decide) ?_
  refine lv_iadd S.1 S.2.1 dL_law_958 ?_
  refine fx_topi (y := 1) (by decide) ?_
  refine gx_sld (v := 1) S hG hX hbl (fin_l (by decide)) hx1 dL_law_959 ?_
  refine lv_aload_n S.1 S.2.1 dL_law_960 rfl (lv_at hl 1 rfl) ?_
  refine lv_iload S.1 S.2.1 dL_law_961 (lv_at hl 6 rfl) ?_
  refine lv_iconst (v := 2) S.1 S.2.1 dL_law_963 (by decide) ?_
  refine lv_iadd S.1 S.2.1 dL_law_964 ?_
  refine fx_topi (y := 2) (by decide) ?_
  refine gx_sld (v := a2) S hG hX hbl (fin_l (by decide)) hx2 dL_law_965 ?_
  refine fx_cVi (As := [.int 1, .int a2]) (rest := []) S hG (k510_X10_copyTree g_a2_ge_3 (by omega) h2) h2 rfl (cwV 2 S.2.2.2.2 gL_law_X10_copyTree rfl rfl rfl (by decide +kernel) ⟨Nat.le_of_ble_eq_true rfl, Nat.le_of_ble_eq_true rfl⟩) rfl hl.1 rfl (Nat.le_of_ble_eq_true rfl) dL_law_966 ⟨Nat.le_of_ble_eq_true rfl, Nat.le_of_ble_eq_true rfl⟩ (fun rv_2 _ H locs hp hG => ?_)
  subst rv_2
  refine lv_istore (lv' := [(7, .int 0), (6, .int 1), (0, .ref b), (1, .ref N0), (2, .ref (N0 + 164)), (3, .ref (N0 + 229)), (4, .ref (N0 + 230)), (5, .int 0)]) S.1 S.2.1 dL_law_969 hl (by decide) rfl (fun ls hl => ?_)
  refine lv_aload_n S.1 S.2.1 dL_law_971 rfl (lv_at hl 4 rfl) ?_
  refine fx_cVi (As := []) (rest := []) S hG (k25_X10_thrown (by omega) fu_s) fu_s rfl (cwV 0 S.2.2.2.2 gL_law_X10_thrown rfl rfl rfl (by decide +kernel) ⟨Nat.le_of_ble_eq_true rfl, Nat.le_of_ble_eq_true rfl⟩) rfl hl.1 rfl (Nat.le_of_ble_eq_true rfl) dL_law_972 ⟨Nat.le_of_ble_eq_true rfl, Nat.le_of_ble_eq_true rfl⟩ (fun rv_3 _ H locs hp hG => ?_)
  subst rv_3
  refine lv_iload S.1 S.2.1 dL_law_975 (lv_at hl 1 rfl) ?_
  refine lv_icmp_eq (tgt := 982) S.1 S.2.1 dL_law_977 (by decide) (fun _ => ?_) (fun c => absurd (by decide) c)
  refine lv_iload S.1 S.2.1 dL_law_982 (lv_at hl 1 rfl) ?_
  refine lv_if_ne (tgt := 999) S.1 S.2.1 dL_law_984 (by decide) (fun _ => ?_) (fun c => absurd c (by decide))
  refine lv_goto (tgt := 2650) S.1 S.2.1 dL_law_999 (by decide) ?_
  refine lv_iinc (v := 5) (lv' := [(5, .int 5), (7, .int 0), (6, .int 1), (0, .ref b), (1, .ref N0), (2, .ref (N0 + 164)), (3, .ref (N0 + 229)), (4, .ref (N0 + 230))]) S.1 S.2.1 dL_law_2650 hl (k := 7) rfl (by decide) (by decide) rfl (fun ls hl => ?_)
  refine lv_goto (tgt := 28) S.1 S.2.1 dL_law_2653 (by decide) ?_
  refine lv_iload S.1 S.2.1 dL_law_28 (lv_at hl 0 rfl) ?_
  refine lv_aload_n S.1 S.2.1 dL_law_30 rfl (lv_at hl 3 rfl) ?_
  refine gx_slen (v := 5) S hG hX hbl rfl dL_law_31 ?_
  refine lv_iconst (v := 5) S.1 S.2.1 dL_law_32 (by decide) ?_
  refine lv_isub S.1 S.2.1 dL_law_33 ?_
  refine fx_topi (y := 0) (by decide) ?_
  refine lv_icmp_gt (tgt := 2656) S.1 S.2.1 dL_law_34 (by decide) (fun _ => ?_) (fun c => absurd (by decide) c)
  refine lv_iconst (v := 1) S.1 S.2.1 dL_law_2656 (by decide) ?_
  refine va_forget (fun q hq => by rw [hN]; exact hG.2.1.2.2 q hq) ?_
  refine W.widen (k := 600002) (n := 7302232) (by decide) (by decide) ?_
  exact lw_ret (d0 := s.drawn) (Drawn.sameBut.refl _ _) S.1 S.2.1 hr hlocks dL_law_2657
theorem l11_11 {p : Program} {e : Env} {s : State} {m : MethodId} {below : List Frame} {meth : Method} {c : Code} {b : Nat} {xs : Nat → Int32} {H : Heap} {locs : List Loc} {ls : Array Slot} {n : Nat} {a2 a3 a4 : Int32} (g_a2_le_m1 : a2 ≤ (-1)) (S : CallFix p m c cL_law 9 s #[.ref b] wsL_law "TreeDifferLaw") (hr : meth.sig.returnType = ret) (hlocks : meth.locks = false) (hst : l.stackTraces = false) (hX : va_X b 5 xs s s.heap) (hbl : b < s.heap.size ∧ b < N0) (hN : s.heap.size = N0) (hn : N0 + 231 ≤ n) (hx1 : xs 1 = 2) (hx2 : xs 2 = a2) (hx3 : xs 3 = a3) (hx4 : xs 4 = a4) (h0 : F N0 = some (.inr (9, [.ref (N0 + 1), .ref (N0 + 2), .ref (N0 + 11), .ref (N0 + 13), .ref (N0 + 63), .ref (N0 + 65), .ref (N0 + 85), .int (-1), .int (-1), .int 32]))) (h1 : F (N0 + 1) = some (.inl (cTr, 3, .inr (.inr (.inr (.inr (va_up (va_up (va_up (fun _ => none) 0 (some (N0 + 143))) 1 (some (N0 + 150))) 2 (some (N0 + 157))))))))) (h2 : F (N0 + 164) = some (.inr (12, [.ref (N0 + 165), .int 0, .ref (N0 + 181), .int 0, .int 0, .int 0, .int (-1), .ref (ql 24), .ref (N0 + 182), .ref (N0 + 187), .ref (N0 + 208), .ref (N0 + 209), .ref (N0 + 210), .ref (N0 + 211), .ref (N0 + 212), .int 0, .ref (N0 + 213), .ref (N0 + 218), .ref (N0 + 223), .ref (N0 + 224), .ref (N0 + 225), .ref (N0 + 226), .ref (N0 + 227), .int 0, .int 0, .ref (N0 + 228), .null, .int (-1), .int 0, .int 0, .int 0]))) (hG : fG N0 D vwCl (fty cI cC cL cD cII cTr cTm cIt cB) (fen ql) s F n H locs) (hl : lv_has ls 9 [(0, .ref b), (1, .ref N0), (2, .ref (N0 + 164)), (3, .ref (N0 + 229)), (4, .ref (N0 + 230)), (5, .int 0)]) : W p l e { frames := 2048, cells := 600002, slots := 7302232, locals := 84000 } s m #[.ref b] below meth c H locs 231 4980 (lw_Z below #[.ref b] s) (F0 m 934 ls []) := by
  have lt_h0 := hG.1.lt h0
  have lt_h1 := hG.1.lt h1
  have lt_h2 := hG.1.lt h2
  refine lv_aload_n S.1 S.2.1 dL_law_934 rfl (lv_at hl 1 rfl) ?_
  refine lv_aload_n S.1 S.2.1 dL_law_935 rfl (lv_at hl 0 rfl) ?_
  refine lv_iload S.1 S.2.1 dL_law_936 (lv_at hl 5 rfl) ?_
  refine lv_iconst (v := 1) S.1 S.2.1 dL_law_938 (by decide) ?_
  refine lv_iadd S.1 S.2.1 dL_law_939 ?_
  refine fx_topi (y := 1) (by decide) ?_
  refine gx_sld (v := 2) S hG hX hbl (fin_l (by decide)) hx1 dL_law_940 ?_
  refine lv_aload_n S.1 S.2.1 dL_law_941 rfl (lv_at hl 0 rfl) ?_
  refine lv_iload S.1 S.2.1 dL_law_942 (lv_at hl 5 rfl) ?_
  refine lv_iconst (v := 2) S.1 S.2.1 dL_law_944 (by decide) ?_
  refine lv_iadd S.1 S.2.1 dL_law_945 ?_
  refine fx_topi (y := 2) (by decide) ?_
  refine gx_sld (v := a2) S hG hX hbl (fin_l (by decide)) hx2 dL_law_946 ?_
  refine lv_aload_n S.1 S.2.1 dL_law_947 rfl (lv_at hl 3 rfl) ?_
  refine fx_cTi (As := [.ref N0, .int 2, .int a2, .ref (N0 + 229)]) (rest := []) S hG (k512_L_copyTree g_a2_le_m1 hst (by omega) h0 h1) (vx_cwSW 4 S.2.2.2.2 gL_law_L_copyTree rfl rfl rfl (by decide +kernel) ⟨Nat.le_of_ble_eq_true rfl, Nat.le_of_ble_eq_true rfl⟩) rfl hl.1 rfl (Nat.le_of_ble_eq_true rfl) dL_law_948 ⟨Nat.le_of_ble_eq_true rfl, Nat.le_of_ble_eq_true rfl⟩ (fun rv_u_1 u_1 H locs hp hG => ?_)
  obtain ⟨rfl, hu_1⟩ := hp
  refine W.widen (k := 232) (n := 4986) (by decide) (by decide) ?_
  refine lv_istore (lv' := [(6, .int 1), (0, .ref b), (1, .ref N0), (2, .ref (N0 + 164)), (3, .ref (N0 + 229)), (4, .ref (N0 + 230)), (5, .int 0)]) S.1 S.2.1 dL_law_951 hl (by decide) rfl (fun ls hl => ?_)
  refine lv_aload_n S.1 S.2.1 dL_law_953 rfl (lv_at hl 3 rfl) ?_
  refine lv_aload_n S.1 S.2.1 dL_law_954 rfl (lv_at hl 1 rfl) ?_
  refine lv_iload S.1 S.2.1 dL_law_955 (lv_at hl 6 rfl) ?_
  refine lv_iconst (v := 1) S.1 S.2.1 dL_law_957 (by decide) ?_
  refine lv_iadd S.1 S.2.1 dL_law_958 ?_
  refine fx_topi (y := 1) (by decide) ?_
  refine gx_sld (v := 2) S hG hX hbl (fin_l (by decide)) hx1 dL_law_959 ?_
  refine lv_aload_n S.1 S.2.1 dL_law_960 rfl (lv_at hl 1 rfl) ?_
  refine lv_iload S.1 S.2.1 dL_law_961 (lv_at hl 6 rfl) ?_
  refine lv_iconst (v := 2) S.1 S.2.1 dL_law_963 (by decide) ?_
  refine lv_iadd S.1 S.2.1 dL_law_964 ?_
  refine fx_topi (y := 2) (by decide) ?_
  refine gx_sld (v := a2) S hG hX hbl (fin_l (by decide)) hx2 dL_law_965 ?_
  refine fx_cVi (As := [.int 2, .int a2]) (rest := []) S hG (k514_X10_copyTree g_a2_le_m1 (by omega) h2) h2 rfl (cwV 2 S.2.2.2.2 gL_law_X10_copyTree rfl rfl rfl (by decide +kernel) ⟨Nat.le_of_ble_eq_true rfl, Nat.le_of_ble_eq_true rfl⟩) rfl hl.1 rfl (Nat.le_of_ble_eq_true rfl) dL_law_966 ⟨Nat.le_of_ble_eq_true rfl, Nat.le_of_ble_eq_true rfl⟩ (fun rv_2 _ H locs hp hG => ?_)
  subst rv_2
  refine lv_istore (lv' := [(7, .int 0), (6, .int 1), (0, .ref b), (1, .ref N0), (2, .ref (N0 + 164)), (3, .ref (N0 + 229)), (4, .ref (N0 + 230)), (5, .int 0)]) S.1 S.2.1 dL_law_969 hl (by decide) rfl (fun ls hl => ?_)
  refine lv_aload_n S.1 S.2.1 dL_law_971 rfl (lv_at hl 4 rfl) ?_
  refine fx_cVi (As := []) (rest := []) S hG (k25_X10_thrown (by omega) fu_s) fu_s rfl (cwV 0 S.2.2.2.2 gL_law_X10_thrown rfl rfl rfl (by decide +kernel) ⟨Nat.le_of_ble_eq_true rfl, Nat.le_of_ble_eq_true rfl⟩) rfl hl.1 rfl (Nat.le_of_ble_eq_true rfl) dL_law_972 ⟨Nat.le_of_ble_eq_true rfl, Nat.le_of_ble_eq_true rfl⟩ (fun rv_3 _ H locs hp hG => ?_)
  subst rv_3
  refine lv_iload S.1 S.2.1 dL_law_975 (lv_at hl 1 rfl) ?_
  refine lv_icmp_eq (tgt := 982) S.1 S.2.1 dL_law_977 (by decide) (fun _ => ?_) (fun c => absurd (by decide) c)
  refine lv_iload S.1 S.2.1 dL_law_982 (lv_at hl 1 rfl) ?_
  refine lv_if_ne (tgt := 999) S.1 S.2.1 dL_law_984 (by decide) (fun _ => ?_) (fun c => absurd c (by decide))
  refine lv_goto (tgt := 2650) S.1 S.2.1 dL_law_999 (by decide) ?_
  refine lv_iinc (v := 5) (lv' := [(5, .int 5), (7, .int 0), (6, .int 1), (0, .ref b), (1, .ref N0), (2, .ref (N0 + 164)), (3, .ref (N0 + 229)), (4, .ref (N0 + 230))]) S.1 S.2.1 dL_law_2650 hl (k := 7) rfl (by decide) (by decide) rfl (fun ls hl => ?_)
  refine lv_goto (tgt := 28) S.1 S.2.1 dL_law_2653 (by decide) ?_
  refine lv_iload S.1 S.2.1 dL_law_28 (lv_at hl 0 rfl) ?_
  refine lv_aload_n S.1 S.2.1 dL_law_30 rfl (lv_at hl 3 rfl) ?_
  refine gx_slen (v := 5) S hG hX hbl rfl dL_law_31 ?_
  refine lv_iconst (v := 5) S.1 S.2.1 dL_law_32 (by decide) ?_
  refine lv_isub S.1 S.2.1 dL_law_33 ?_
  refine fx_topi (y := 0) (by decide) ?_
  refine lv_icmp_gt (tgt := 2656) S.1 S.2.1 dL_law_34 (by decide) (fun _ => ?_) (fun c => absurd (by decide) c)
  refine lv_iconst (v := 1) S.1 S.2.1 dL_law_2656 (by decide) ?_
  refine va_forget (fun q hq => by rw [hN]; exact hG.2.1.2.2 q hq) ?_
  refine W.widen (k := 600002) (n := 7302232) (by decide) (by decide) ?_
  exact lw_ret (d0 := s.drawn) (Drawn.sameBut.refl _ _) S.1 S.2.1 hr hlocks dL_law_2657
theorem l11_12 {p : Program} {e : Env} {s : State} {m : MethodId} {below : List Frame} {meth : Method} {c : Code} {b : Nat} {xs : Nat → Int32} {H : Heap} {locs : List Loc} {ls : Array Slot} {n : Nat} {a3 a4 : Int32} (S : CallFix p m c cL_law 9 s #[.ref b] wsL_law "TreeDifferLaw") (hr : meth.sig.returnType = ret) (hlocks : meth.locks = false) (hst : l.stackTraces = false) (hX : va_X b 5 xs s s.heap) (hbl : b < s.heap.size ∧ b < N0) (hN : s.heap.size = N0) (hn : N0 + 231 ≤ n) (hx1 : xs 1 = 2) (hx2 : xs 2 = 0) (hx3 : xs 3 = a3) (hx4 : xs 4 = a4) (h0 : F N0 = some (.inr (9, [.ref (N0 + 1), .ref (N0 + 2), .ref (N0 + 11), .ref (N0 + 13), .ref (N0 + 63), .ref (N0 + 65), .ref (N0 + 85), .int (-1), .int (-1), .int 32]))) (h1 : F (N0 + 1) = some (.inl (cTr, 3, .inr (.inr (.inr (.inr (va_up (va_up (va_up (fun _ => none) 0 (some (N0 + 143))) 1 (some (N0 + 150))) 2 (some (N0 + 157))))))))) (h2 : F (N0 + 157) = some (.inr (7, [.ref (N0 + 158), .ref (N0 + 159), .ref (N0 + 160), .ref (N0 + 161), .ref (N0 + 162), .ref (N0 + 163), .int 1]))) (h3 : F (N0 + 143) = some (.inr (7, [.ref (N0 + 144), .ref (N0 + 145), .ref (N0 + 146), .ref (N0 + 147), .ref (N0 + 148), .ref (N0 + 149), .int 1]))) (h4 : F (N0 + 158) = some (.inl (cC, 20, .inl (upd (fun _ => 0) 0 97)))) (h5 : F (N0 + 144) = some (.inl (cC, 20, .inl (upd (fun _ => 0) 0 97)))) (h6 : F (N0 + 159) = some (.inl (cI, 20, .inl (fun _ => 0)))) (h7 : F (N0 + 145) = some (.inl (cI, 20, .inl (fun _ => 0)))) (h8 : F (N0 + 160) = some (.inl (cI, 20, .inl (fun _ => 0)))) (h9 : F (N0 + 146) = some (.inl (cI, 20, .inl (fun _ => 0)))) (h10 : F (N0 + 161) = some (.inl (cI, 20, .inl (upd (fun _ => 0) 0 (-1))))) (h11 : F (N0 + 147) = some (.inl (cI, 20, .inl (upd (fun _ => 0) 0 (-1))))) (h12 : F (N0 + 229) = some (.inl (cL, 1, .inr (.inl (fun _ => 0))))) (h13 : F (N0 + 164) = some (.inr (12, [.ref (N0 + 165), .int 0, .ref (N0 + 181), .int 0, .int 0, .int 0, .int (-1), .ref (ql 24), .ref (N0 + 182), .ref (N0 + 187), .ref (N0 + 208), .ref (N0 + 209), .ref (N0 + 210), .ref (N0 + 211), .ref (N0 + 212), .int 0, .ref (N0 + 213), .ref (N0 + 218), .ref (N0 + 223), .ref (N0 + 224), .ref (N0 + 225), .ref (N0 + 226), .ref (N0 + 227), .int 0, .int 0, .ref (N0 + 228), .null, .int (-1), .int 0, .int 0, .int 0]))) (h14 : F (N0 + 165) = some (.inl (cTm, 3, .inr (.inr (.inr (.inr (va_up (va_up (va_up (fun _ => none) 0 (some (N0 + 166))) 1 (some (N0 + 171))) 2 (some (N0 + 176))))))))) (h15 : F (N0 + 176) = some (.inr (11, [.ref (N0 + 177), .ref (N0 + 178), .ref (N0 + 179), .ref (N0 + 180), .int 1]))) (h16 : F (N0 + 166) = some (.inr (11, [.ref (N0 + 167), .ref (N0 + 168), .ref (N0 + 169), .ref (N0 + 170), .int 1]))) (h17 : F (N0 + 177) = some (.inl (cI, 20, .inl (upd (fun _ => 0) 0 97)))) (h18 : F (N0 + 178) = some (.inl (cI, 20, .inl (upd (fun _ => 0) 0 0)))) (h19 : F (N0 + 179) = some (.inl (cI, 20, .inl (upd (fun _ => 0) 0 0)))) (h20 : F (N0 + 180) = some (.inl (cI, 20, .inl (upd (fun _ => 0) 0 (-1))))) (h21 : F (N0 + 167) = some (.inl (cI, 20, .inl (upd (fun _ => 0) 0 97)))) (h22 : F (N0 + 168) = some (.inl (cI, 20, .inl (upd (fun _ => 0) 0 0)))) (h23 : F (N0 + 169) = some (.inl (cI, 20, .inl (upd (fun _ => 0) 0 0)))) (h24 : F (N0 + 170) = some (.inl (cI, 20, .inl (upd (fun _ => 0) 0 (-1))))) (hG : fG N0 D vwCl (fty cI cC cL cD cII cTr cTm cIt cB) (fen ql) s F n H locs) (hl : lv_has ls 9 [(0, .ref b), (1, .ref N0), (2, .ref (N0 + 164)), (3, .ref (N0 + 229)), (4, .ref (N0 + 230)), (5, .int 0)]) : W p l e { frames := 2048, cells := 600002, slots := 7302232, locals := 84000 } s m #[.ref b] below meth c H locs 231 4980 (lw_Z below #[.ref b] s) (F0 m 934 ls []) := by
  have lt_h0 := hG.1.lt h0
  have lt_h1 := hG.1.lt h1
  have lt_h2 := hG.1.lt h2
  have lt_h3 := hG.1.lt h3
  have lt_h4 := hG.1.lt h4
  have lt_h5 := hG.1.lt h5
  have lt_h6 := hG.1.lt h6
  have lt_h7 := hG.1.lt h7
  have lt_h8 := hG.1.lt h8
  have lt_h9 := hG.1.lt h9
  have lt_h10 := hG.1.lt h10
  have lt_h11 := hG.1.lt h11
  have lt_h12 := hG.1.lt h12
  have lt_h13 := hG.1.lt h13
  have lt_h14 := hG.1.lt h14
  have lt_h15 := hG.1.lt h15
  have lt_h16 := hG.1.lt h16
  have lt_h17 := hG.1.lt h17
  have lt_h18 := hG.1.lt h18
  have lt_h19 := hG.1.lt h19
  have lt_h20 := hG.1.lt h20
  have lt_h21 := hG.1.lt h21
  have lt_h22 := hG.1.lt h22
  have lt_h23 := hG.1.lt h23
  have lt_h24 := hG.1.lt h24
  refine lv_aload_n S.1 S.2.1 dL_law_934 rfl (lv_at hl 1 rfl) ?_
  refine lv_aload_n S.1 S.2.1 dL_law_935 rfl (lv_at hl 0 rfl) ?_
  refine lv_iload S.1 S.2.1 dL_law_936 (lv_at hl 5 rfl) ?_
  refine lv_iconst (v := 1) S.1 S.2.1 dL_law_938 (by decide) ?_
  refine lv_iadd S.1 S.2.1 dL_law_939 ?_
  refine fx_topi (y := 1) (by decide) ?_
  refine gx_sld (v := 2) S hG hX hbl (fin_l (by decide)) hx1 dL_law_940 ?_
  refine lv_aload_n S.1 S.2.1 dL_law_941 rfl (lv_at hl 0 rfl) ?_
  refine lv_iload S.1 S.2.1 dL_law_942 (lv_at hl 5 rfl) ?_
  refine lv_iconst (v := 2) S.1 S.2.1 dL_law_944 (by decide) ?_
  refine lv_iadd S.1 S.2.1 dL_law_945 ?_
  refine fx_topi (y := 2) (by decide) ?_
  refine gx_sld (v := 0) S hG hX hbl (fin_l (by decide)) hx2 dL_law_946 ?_
  refine lv_aload_n S.1 S.2.1 dL_law_947 rfl (lv_at hl 3 rfl) ?_
  refine fx_cTi (As := [.ref N0, .int 2, .int 0, .ref (N0 + 229)]) (rest := []) S hG (k517_L_copyTree (by omega) h0 h1 h2 h3 h4 h5 h6 h7 h8 h9 h10 h11 h12) (vx_cwSW 4 S.2.2.2.2 gL_law_L_copyTree rfl rfl rfl (by decide +kernel) ⟨Nat.le_of_ble_eq_true rfl, Nat.le_of_ble_eq_true rfl⟩) rfl hl.1 rfl (Nat.le_of_ble_eq_true rfl) dL_law_948 ⟨Nat.le_of_ble_eq_true rfl, Nat.le_of_ble_eq_true rfl⟩ (fun rv_1 _ H locs hp hG => ?_)
  subst rv_1
  refine lv_istore (lv' := [(6, .int 0), (0, .ref b), (1, .ref N0), (2, .ref (N0 + 164)), (3, .ref (N0 + 229)), (4, .ref (N0 + 230)), (5, .int 0)]) S.1 S.2.1 dL_law_951 hl (by decide) rfl (fun ls hl => ?_)
  refine lv_aload_n S.1 S.2.1 dL_law_953 rfl (lv_at hl 3 rfl) ?_
  refine lv_aload_n S.1 S.2.1 dL_law_954 rfl (lv_at hl 1 rfl) ?_
  refine lv_iload S.1 S.2.1 dL_law_955 (lv_at hl 6 rfl) ?_
  refine lv_iconst (v := 1) S.1 S.2.1 dL_law_957 (by decide) ?_
  refine lv_iadd S.1 S.2.1 dL_law_958 ?_
  refine fx_topi (y := 1) (by decide) ?_
  refine gx_sld (v := 2) S hG hX hbl (fin_l (by decide)) hx1 dL_law_959 ?_
  refine lv_aload_n S.1 S.2.1 dL_law_960 rfl (lv_at hl 1 rfl) ?_
  refine lv_iload S.1 S.2.1 dL_law_961 (lv_at hl 6 rfl) ?_
  refine lv_iconst (v := 2) S.1 S.2.1 dL_law_963 (by decide) ?_
  refine lv_iadd S.1 S.2.1 dL_law_964 ?_
  refine fx_topi (y := 2) (by decide) ?_
  refine gx_sld (v := 0) S hG hX hbl (fin_l (by decide)) hx2 dL_law_965 ?_
  refine fx_cVi (As := [.int 2, .int 0]) (rest := []) S hG (k520_X10_copyTree (by omega) (fu_at (by omega) (fu_at (by omega) (fu_at (by omega) (fu_at (by omega) (fu_at (by omega) (fu_at (by omega) h13)))))) (fu_at (by omega) (fu_at (by omega) (fu_at (by omega) (fu_at (by omega) (fu_at (by omega) (fu_at (by omega) h14)))))) (fu_at (by omega) (fu_at (by omega) (fu_at (by omega) (fu_at (by omega) (fu_at (by omega) (fu_at (by omega) h15)))))) (fu_at (by omega) (fu_at (by omega) (fu_at (by omega) (fu_at (by omega) (fu_at (by omega) (fu_at (by omega) h16)))))) (fu_at (by omega) (fu_at (by omega) (fu_at (by omega) (fu_at (by omega) (fu_at (by omega) (fu_at (by omega) h17)))))) (fu_at (by omega) (fu_at (by omega) (fu_at (by omega) (fu_at (by omega) (fu_at (by omega) (fu_at (by omega) h18)))))) (fu_at (by omega) (fu_at (by omega) (fu_at (by omega) (fu_at (by omega) (fu_at (by omega) (fu_at (by omega) h19)))))) (fu_at (by omega) (fu_at (by omega) (fu_at (by omega) (fu_at (by omega) (fu_at (by omega) (fu_at (by omega) h20)))))) (fu_at (by omega) (fu_at (by omega) (fu_at (by omega) (fu_at (by omega) (fu_at (by omega) (fu_at (by omega) h21)))))) (fu_at (by omega) (fu_at (by omega) (fu_at (by omega) (fu_at (by omega) (fu_at (by omega) (fu_at (by omega) h22)))))) (fu_at (by omega) (fu_at (by omega) (fu_at (by omega) (fu_at (by omega) (fu_at (by omega) (fu_at (by omega) h23)))))) (fu_at (by omega) (fu_at (by omega) (fu_at (by omega) (fu_at (by omega) (fu_at (by omega) (fu_at (by omega) h24))))))) (fu_at (by omega) (fu_at (by omega) (fu_at (by omega) (fu_at (by omega) (fu_at (by omega) (fu_at (by omega) h13)))))) rfl (cwV 2 S.2.2.2.2 gL_law_X10_copyTree rfl rfl rfl (by decide +kernel) ⟨Nat.le_of_ble_eq_true rfl, Nat.le_of_ble_eq_true rfl⟩) rfl hl.1 rfl (Nat.le_of_ble_eq_true rfl) dL_law_966 ⟨Nat.le_of_ble_eq_true rfl, Nat.le_of_ble_eq_true rfl⟩ (fun rv_2 _ H locs hp hG => ?_)
  subst rv_2
  refine lv_istore (lv' := [(7, .int 1), (6, .int 0), (0, .ref b), (1, .ref N0), (2, .ref (N0 + 164)), (3, .ref (N0 + 229)), (4, .ref (N0 + 230)), (5, .int 0)]) S.1 S.2.1 dL_law_969 hl (by decide) rfl (fun ls hl => ?_)
  refine lv_aload_n S.1 S.2.1 dL_law_971 rfl (lv_at hl 4 rfl) ?_
  refine fx_cVi (As := []) (rest := []) S hG (k117_X10_thrown (by omega) (fu_at (by omega) (fu_at (by omega) (fu_at (by omega) (fu_at (by omega) (fu_at (by omega) fu_s)))))) (fu_at (by omega) (fu_at (by omega) (fu_at (by omega) (fu_at (by omega) (fu_at (by omega) fu_s))))) rfl (cwV 0 S.2.2.2.2 gL_law_X10_thrown rfl rfl rfl (by decide +kernel) ⟨Nat.le_of_ble_eq_true rfl, Nat.le_of_ble_eq_true rfl⟩) rfl hl.1 rfl (Nat.le_of_ble_eq_true rfl) dL_law_972 ⟨Nat.le_of_ble_eq_true rfl, Nat.le_of_ble_eq_true rfl⟩ (fun rv_3 _ H locs hp hG => ?_)
  subst rv_3
  refine lv_iload S.1 S.2.1 dL_law_975 (lv_at hl 1 rfl) ?_
  refine lv_icmp_eq (tgt := 982) S.1 S.2.1 dL_law_977 (by decide) (fun _ => ?_) (fun c => absurd (by decide) c)
  refine lv_iload S.1 S.2.1 dL_law_982 (lv_at hl 1 rfl) ?_
  refine lv_if_ne (tgt := 999) S.1 S.2.1 dL_law_984 (by decide) (fun c => absurd (by decide) c) (fun _ => ?_)
  refine lv_aload_n S.1 S.2.1 dL_law_987 rfl (lv_at hl 5 rfl) ?_
  refine lv_iconst (v := 0) S.1 S.2.1 dL_law_988 (by decide) ?_
  refine gx_lald (v := 1) S hG 2 (fu_at (by omega) (fu_at (by omega) (fu_at (by omega) (fu_at (by omega) (fu_at (by omega) (fu_at (by omega) fu_s)))))) rfl (fin_l (by decide)) rfl dL_law_989 ?_
  refine lv_iload S.1 S.2.1 dL_law_990 (lv_at hl 0 rfl) ?_
  refine lv_i2l (v := 1) S.1 S.2.1 dL_law_992 (by decide) ?_
  refine gx_lcmpEq S rfl dL_law_993 ?_
  refine lv_if_eq (tgt := 999) S.1 S.2.1 dL_law_994 (by decide) (fun _ => ?_) (fun c => absurd (by decide) c)
  refine lv_goto (tgt := 2650) S.1 S.2.1 dL_law_999 (by decide) ?_
  refine lv_iinc (v := 5) (lv' := [(5, .int 5), (7, .int 1), (6, .int 0), (0, .ref b), (1, .ref N0), (2, .ref (N0 + 164)), (3, .ref (N0 + 229)), (4, .ref (N0 + 230))]) S.1 S.2.1 dL_law_2650 hl (k := 7) rfl (by decide) (by decide) rfl (fun ls hl => ?_)
  refine lv_goto (tgt := 28) S.1 S.2.1 dL_law_2653 (by decide) ?_
  refine lv_iload S.1 S.2.1 dL_law_28 (lv_at hl 0 rfl) ?_
  refine lv_aload_n S.1 S.2.1 dL_law_30 rfl (lv_at hl 3 rfl) ?_
  refine gx_slen (v := 5) S hG hX hbl rfl dL_law_31 ?_
  refine lv_iconst (v := 5) S.1 S.2.1 dL_law_32 (by decide) ?_
  refine lv_isub S.1 S.2.1 dL_law_33 ?_
  refine fx_topi (y := 0) (by decide) ?_
  refine lv_icmp_gt (tgt := 2656) S.1 S.2.1 dL_law_34 (by decide) (fun _ => ?_) (fun c => absurd (by decide) c)
  refine lv_iconst (v := 1) S.1 S.2.1 dL_law_2656 (by decide) ?_
  refine va_forget (fun q hq => by rw [hN]; exact hG.2.1.2.2 q hq) ?_
  refine W.widen (k := 600002) (n := 7302232) (by decide) (by decide) ?_
  exact lw_ret (d0 := s.drawn) (Drawn.sameBut.refl _ _) S.1 S.2.1 hr hlocks dL_law_2657
theorem l11_13 {p : Program} {e : Env} {s : State} {m : MethodId} {below : List Frame} {meth : Method} {c : Code} {b : Nat} {xs : Nat → Int32} {H : Heap} {locs : List Loc} {ls : Array Slot} {n : Nat} {a3 a4 : Int32} (S : CallFix p m c cL_law 9 s #[.ref b] wsL_law "TreeDifferLaw") (hr : meth.sig.returnType = ret) (hlocks : meth.locks = false) (hst : l.stackTraces = false) (hX : va_X b 5 xs s s.heap) (hbl : b < s.heap.size ∧ b < N0) (hN : s.heap.size = N0) (hn : N0 + 231 ≤ n) (hx1 : xs 1 = 2) (hx2 : xs 2 = 1) (hx3 : xs 3 = a3) (hx4 : xs 4 = a4) (h0 : F N0 = some (.inr (9, [.ref (N0 + 1), .ref (N0 + 2), .ref (N0 + 11), .ref (N0 + 13), .ref (N0 + 63), .ref (N0 + 65), .ref (N0 + 85), .int (-1), .int (-1), .int 32]))) (h1 : F (N0 + 1) = some (.inl (cTr, 3, .inr (.inr (.inr (.inr (va_up (va_up (va_up (fun _ => none) 0 (some (N0 + 143))) 1 (some (N0 + 150))) 2 (some (N0 + 157))))))))) (h2 : F (N0 + 157) = some (.inr (7, [.ref (N0 + 158), .ref (N0 + 159), .ref (N0 + 160), .ref (N0 + 161), .ref (N0 + 162), .ref (N0 + 163), .int 1]))) (h3 : F (N0 + 150) = some (.inr (7, [.ref (N0 + 151), .ref (N0 + 152), .ref (N0 + 153), .ref (N0 + 154), .ref (N0 + 155), .ref (N0 + 156), .int 1]))) (h4 : F (N0 + 158) = some (.inl (cC, 20, .inl (upd (fun _ => 0) 0 97)))) (h5 : F (N0 + 151) = some (.inl (cC, 20, .inl (upd (fun _ => 0) 0 97)))) (h6 : F (N0 + 159) = some (.inl (cI, 20, .inl (fun _ => 0)))) (h7 : F (N0 + 152) = some (.inl (cI, 20, .inl (fun _ => 0)))) (h8 : F (N0 + 160) = some (.inl (cI, 20, .inl (fun _ => 0)))) (h9 : F (N0 + 153) = some (.inl (cI, 20, .inl (fun _ => 0)))) (h10 : F (N0 + 161) = some (.inl (cI, 20, .inl (upd (fun _ => 0) 0 (-1))))) (h11 : F (N0 + 154) = some (.inl (cI, 20, .inl (upd (fun _ => 0) 0 (-1))))) (h12 : F (N0 + 229) = some (.inl (cL, 1, .inr (.inl (fun _ => 0))))) (h13 : F (N0 + 164) = some (.inr (12, [.ref (N0 + 165), .int 0, .ref (N0 + 181), .int 0, .int 0, .int 0, .int (-1), .ref (ql 24), .ref (N0 + 182), .ref (N0 + 187), .ref (N0 + 208), .ref (N0 + 209), .ref (N0 + 210), .ref (N0 + 211), .ref (N0 + 212), .int 0, .ref (N0 + 213), .ref (N0 + 218), .ref (N0 + 223), .ref (N0 + 224), .ref (N0 + 225), .ref (N0 + 226), .ref (N0 + 227), .int 0, .int 0, .ref (N0 + 228), .null, .int (-1), .int 0, .int 0, .int 0]))) (h14 : F (N0 + 165) = some (.inl (cTm, 3, .inr (.inr (.inr (.inr (va_up (va_up (va_up (fun _ => none) 0 (some (N0 + 166))) 1 (some (N0 + 171))) 2 (some (N0 + 176))))))))) (h15 : F (N0 + 176) = some (.inr (11, [.ref (N0 + 177), .ref (N0 + 178), .ref (N0 + 179), .ref (N0 + 180), .int 1]))) (h16 : F (N0 + 171) = some (.inr (11, [.ref (N0 + 172), .ref (N0 + 173), .ref (N0 + 174), .ref (N0 + 175), .int 1]))) (h17 : F (N0 + 177) = some (.inl (cI, 20, .inl (upd (fun _ => 0) 0 97)))) (h18 : F (N0 + 178) = some (.inl (cI, 20, .inl (upd (fun _ => 0) 0 0)))) (h19 : F (N0 + 179) = some (.inl (cI, 20, .inl (upd (fun _ => 0) 0 0)))) (h20 : F (N0 + 180) = some (.inl (cI, 20, .inl (upd (fun _ => 0) 0 (-1))))) (h21 : F (N0 + 172) = some (.inl (cI, 20, .inl (upd (fun _ => 0) 0 97)))) (h22 : F (N0 + 173) = some (.inl (cI, 20, .inl (upd (fun _ => 0) 0 0)))) (h23 : F (N0 + 174) = some (.inl (cI, 20, .inl (upd (fun _ => 0) 0 0)))) (h24 : F (N0 + 175) = some (.inl (cI, 20, .inl (upd (fun _ => 0) 0 (-1))))) (hG : fG N0 D vwCl (fty cI cC cL cD cII cTr cTm cIt cB) (fen ql) s F n H locs) (hl : lv_has ls 9 [(0, .ref b), (1, .ref N0), (2, .ref (N0 + 164)), (3, .ref (N0 + 229)), (4, .ref (N0 + 230)), (5, .int 0)]) : W p l e { frames := 2048, cells := 600002, slots := 7302232, locals := 84000 } s m #[.ref b] below meth c H locs 231 4980 (lw_Z below #[.ref b] s) (F0 m 934 ls []) := by
  have lt_h0 := hG.1.lt h0
  have lt_h1 := hG.1.lt h1
  have lt_h2 := hG.1.lt h2
  have lt_h3 := hG.1.lt h3
  have lt_h4 := hG.1.lt h4
  have lt_h5 := hG.1.lt h5
  have lt_h6 := hG.1.lt h6
  have lt_h7 := hG.1.lt h7
  have lt_h8 := hG.1.lt h8
  have lt_h9 := hG.1.lt h9
  have lt_h10 := hG.1.lt h10
  have lt_h11 := hG.1.lt h11
  have lt_h12 := hG.1.lt h12
  have lt_h13 := hG.1.lt h13
  have lt_h14 := hG.1.lt h14
  have lt_h15 := hG.1.lt h15
  have lt_h16 := hG.1.lt h16
  have lt_h17 := hG.1.lt h17
  have lt_h18 := hG.1.lt h18
  have lt_h19 := hG.1.lt h19
  have lt_h20 := hG.1.lt h20
  have lt_h21 := hG.1.lt h21
  have lt_h22 := hG.1.lt h22
  have lt_h23 := hG.1.lt h23
  have lt_h24 := hG.1.lt h24
  refine lv_aload_n S.1 S.2.1 dL_law_934 rfl (lv_at hl 1 rfl) ?_
  refine lv_aload_n S.1 S.2.1 dL_law_935 rfl (lv_at hl 0 rfl) ?_
  refine lv_iload S.1 S.2.1 dL_law_936 (lv_at hl 5 rfl) ?_
  refine lv_iconst (v := 1) S.1 S.2.1 dL_law_938 (by decide) ?_
  refine lv_iadd S.1 S.2.1 dL_law_939 ?_
  refine fx_topi (y := 1) (by decide) ?_
  refine gx_sld (v := 2) S hG hX hbl (fin_l (by decide)) hx1 dL_law_940 ?_
  refine lv_aload_n S.1 S.2.1 dL_law_941 rfl (lv_at hl 0 rfl) ?_
  refine lv_iload S.1 S.2.1 dL_law_942 (lv_at hl 5 rfl) ?_
  refine lv_iconst (v := 2) S.1 S.2.1 dL_law_944 (by decide) ?_
  refine lv_iadd S.1 S.2.1 dL_law_945 ?_
  refine fx_topi (y := 2) (by decide) ?_
  refine gx_sld (v := 1) S hG hX hbl (fin_l (by decide)) hx2 dL_law_946 ?_
  refine lv_aload_n S.1 S.2.1 dL_law_947 rfl (lv_at hl 3 rfl) ?_
  refine fx_cTi (As := [.ref N0, .int 2, .int 1, .ref (N0 + 229)]) (rest := []) S hG (k523_L_copyTree (by omega) h0 h1 h2 h3 h4 h5 h6 h7 h8 h9 h10 h11 h12) (vx_cwSW 4 S.2.2.2.2 gL_law_L_copyTree rfl rfl rfl (by decide +kernel) ⟨Nat.le_of_ble_eq_true rfl, Nat.le_of_ble_eq_true rfl⟩) rfl hl.1 rfl (Nat.le_of_ble_eq_true rfl) dL_law_948 ⟨Nat.le_of_ble_eq_true rfl, Nat.le_of_ble_eq_true rfl⟩ (fun rv_1 _ H locs hp hG => ?_)
  subst rv_1
  refine lv_istore (lv' := [(6, .int 0), (0, .ref b), (1, .ref N0), (2, .ref (N0 + 164)), (3, .ref (N0 + 229)), (4, .ref (N0 + 230)), (5, .int 0)]) S.1 S.2.1 dL_law_951 hl (by decide) rfl (fun ls hl => ?_)
  refine lv_aload_n S.1 S.2.1 dL_law_953 rfl (lv_at hl 3 rfl) ?_
  refine lv_aload_n S.1 S.2.1 dL_law_954 rfl (lv_at hl 1 rfl) ?_
  refine lv_iload S.1 S.2.1 dL_law_955 (lv_at hl 6 rfl) ?_
  refine lv_iconst (v := 1) S.1 S.2.1 dL_law_957 (by decide) ?_
  refine lv_iadd S.1 S.2.1 dL_law_958 ?_
  refine fx_topi (y := 1) (by decide) ?_
  refine gx_sld (v := 2) S hG hX hbl (fin_l (by decide)) hx1 dL_law_959 ?_
  refine lv_aload_n S.1 S.2.1 dL_law_960 rfl (lv_at hl 1 rfl) ?_
  refine lv_iload S.1 S.2.1 dL_law_961 (lv_at hl 6 rfl) ?_
  refine lv_iconst (v := 2) S.1 S.2.1 dL_law_963 (by decide) ?_
  refine lv_iadd S.1 S.2.1 dL_law_964 ?_
  refine fx_topi (y := 2) (by decide) ?_
  refine gx_sld (v := 1) S hG hX hbl (fin_l (by decide)) hx2 dL_law_965 ?_
  refine fx_cVi (As := [.int 2, .int 1]) (rest := []) S hG (k526_X10_copyTree (by omega) (fu_at (by omega) (fu_at (by omega) (fu_at (by omega) (fu_at (by omega) (fu_at (by omega) (fu_at (by omega) h13)))))) (fu_at (by omega) (fu_at (by omega) (fu_at (by omega) (fu_at (by omega) (fu_at (by omega) (fu_at (by omega) h14)))))) (fu_at (by omega) (fu_at (by omega) (fu_at (by omega) (fu_at (by omega) (fu_at (by omega) (fu_at (by omega) h15)))))) (fu_at (by omega) (fu_at (by omega) (fu_at (by omega) (fu_at (by omega) (fu_at (by omega) (fu_at (by omega) h16)))))) (fu_at (by omega) (fu_at (by omega) (fu_at (by omega) (fu_at (by omega) (fu_at (by omega) (fu_at (by omega) h17)))))) (fu_at (by omega) (fu_at (by omega) (fu_at (by omega) (fu_at (by omega) (fu_at (by omega) (fu_at (by omega) h18)))))) (fu_at (by omega) (fu_at (by omega) (fu_at (by omega) (fu_at (by omega) (fu_at (by omega) (fu_at (by omega) h19)))))) (fu_at (by omega) (fu_at (by omega) (fu_at (by omega) (fu_at (by omega) (fu_at (by omega) (fu_at (by omega) h20)))))) (fu_at (by omega) (fu_at (by omega) (fu_at (by omega) (fu_at (by omega) (fu_at (by omega) (fu_at (by omega) h21)))))) (fu_at (by omega) (fu_at (by omega) (fu_at (by omega) (fu_at (by omega) (fu_at (by omega) (fu_at (by omega) h22)))))) (fu_at (by omega) (fu_at (by omega) (fu_at (by omega) (fu_at (by omega) (fu_at (by omega) (fu_at (by omega) h23)))))) (fu_at (by omega) (fu_at (by omega) (fu_at (by omega) (fu_at (by omega) (fu_at (by omega) (fu_at (by omega) h24))))))) (fu_at (by omega) (fu_at (by omega) (fu_at (by omega) (fu_at (by omega) (fu_at (by omega) (fu_at (by omega) h13)))))) rfl (cwV 2 S.2.2.2.2 gL_law_X10_copyTree rfl rfl rfl (by decide +kernel) ⟨Nat.le_of_ble_eq_true rfl, Nat.le_of_ble_eq_true rfl⟩) rfl hl.1 rfl (Nat.le_of_ble_eq_true rfl) dL_law_966 ⟨Nat.le_of_ble_eq_true rfl, Nat.le_of_ble_eq_true rfl⟩ (fun rv_2 _ H locs hp hG => ?_)
  subst rv_2
  refine lv_istore (lv' := [(7, .int 1), (6, .int 0), (0, .ref b), (1, .ref N0), (2, .ref (N0 + 164)), (3, .ref (N0 + 229)), (4, .ref (N0 + 230)), (5, .int 0)]) S.1 S.2.1 dL_law_969 hl (by decide) rfl (fun ls hl => ?_)
  refine lv_aload_n S.1 S.2.1 dL_law_971 rfl (lv_at hl 4 rfl) ?_
  refine fx_cVi (As := []) (rest := []) S hG (k117_X10_thrown (by omega) (fu_at (by omega) (fu_at (by omega) (fu_at (by omega) (fu_at (by omega) (fu_at (by omega) fu_s)))))) (fu_at (by omega) (fu_at (by omega) (fu_at (by omega) (fu_at (by omega) (fu_at (by omega) fu_s))))) rfl (cwV 0 S.2.2.2.2 gL_law_X10_thrown rfl rfl rfl (by decide +kernel) ⟨Nat.le_of_ble_eq_true rfl, Nat.le_of_ble_eq_true rfl⟩) rfl hl.1 rfl (Nat.le_of_ble_eq_true rfl) dL_law_972 ⟨Nat.le_of_ble_eq_true rfl, Nat.le_of_ble_eq_true rfl⟩ (fun rv_3 _ H locs hp hG => ?_)
  subst rv_3
  refine lv_iload S.1 S.2.1 dL_law_975 (lv_at hl 1 rfl) ?_
  refine lv_icmp_eq (tgt := 982) S.1 S.2.1 dL_law_977 (by decide) (fun _ => ?_) (fun c => absurd (by decide) c)
  refine lv_iload S.1 S.2.1 dL_law_982 (lv_at hl 1 rfl) ?_
  refine lv_if_ne (tgt := 999) S.1 S.2.1 dL_law_984 (by decide) (fun c => absurd (by decide) c) (fun _ => ?_)
  refine lv_aload_n S.1 S.2.1 dL_law_987 rfl (lv_at hl 5 rfl) ?_
  refine lv_iconst (v := 0) S.1 S.2.1 dL_law_988 (by decide) ?_
  refine gx_lald (v := 1) S hG 2 (fu_at (by omega) (fu_at (by omega) (fu_at (by omega) (fu_at (by omega) (fu_at (by omega) (fu_at (by omega) fu_s)))))) rfl (fin_l (by decide)) rfl dL_law_989 ?_
  refine lv_iload S.1 S.2.1 dL_law_990 (lv_at hl 0 rfl) ?_
  refine lv_i2l (v := 1) S.1 S.2.1 dL_law_992 (by decide) ?_
  refine gx_lcmpEq S rfl dL_law_993 ?_
  refine lv_if_eq (tgt := 999) S.1 S.2.1 dL_law_994 (by decide) (fun _ => ?_) (fun c => absurd (by decide) c)
  refine lv_goto (tgt := 2650) S.1 S.2.1 dL_law_999 (by decide) ?_
  refine lv_iinc (v := 5) (lv' := [(5, .int 5), (7, .int 1), (6, .int 0), (0, .ref b), (1, .ref N0), (2, .ref (N0 + 164)), (3, .ref (N0 + 229)), (4, .ref (N0 + 230))]) S.1 S.2.1 dL_law_2650 hl (k := 7) rfl (by decide) (by decide) rfl (fun ls hl => ?_)
  refine lv_goto (tgt := 28) S.1 S.2.1 dL_law_2653 (by decide) ?_
  refine lv_iload S.1 S.2.1 dL_law_28 (lv_at hl 0 rfl) ?_
  refine lv_aload_n S.1 S.2.1 dL_law_30 rfl (lv_at hl 3 rfl) ?_
  refine gx_slen (v := 5) S hG hX hbl rfl dL_law_31 ?_
  refine lv_iconst (v := 5) S.1 S.2.1 dL_law_32 (by decide) ?_
  refine lv_isub S.1 S.2.1 dL_law_33 ?_
  refine fx_topi (y := 0) (by decide) ?_
  refine lv_icmp_gt (tgt := 2656) S.1 S.2.1 dL_law_34 (by decide) (fun _ => ?_) (fun c => absurd (by decide) c)
  refine lv_iconst (v := 1) S.1 S.2.1 dL_law_2656 (by decide) ?_
  refine va_forget (fun q hq => by rw [hN]; exact hG.2.1.2.2 q hq) ?_
  refine W.widen (k := 600002) (n := 7302232) (by decide) (by decide) ?_
  exact lw_ret (d0 := s.drawn) (Drawn.sameBut.refl _ _) S.1 S.2.1 hr hlocks dL_law_2657
theorem l11_14 {p : Program} {e : Env} {s : State} {m : MethodId} {below : List Frame} {meth : Method} {c : Code} {b : Nat} {xs : Nat → Int32} {H : Heap} {locs : List Loc} {ls : Array Slot} {n : Nat} {a3 a4 : Int32} (S : CallFix p m c cL_law 9 s #[.ref b] wsL_law "TreeDifferLaw") (hr : meth.sig.returnType = ret) (hlocks : meth.locks = false) (hst : l.stackTraces = false) (hX : va_X b 5 xs s s.heap) (hbl : b < s.heap.size ∧ b < N0) (hN : s.heap.size = N0) (hn : N0 + 231 ≤ n) (hx1 : xs 1 = 2) (hx2 : xs 2 = 2) (hx3 : xs 3 = a3) (hx4 : xs 4 = a4) (h0 : F N0 = some (.inr (9, [.ref (N0 + 1), .ref (N0 + 2), .ref (N0 + 11), .ref (N0 + 13), .ref (N0 + 63), .ref (N0 + 65), .ref (N0 + 85), .int (-1), .int (-1), .int 32]))) (h1 : F (N0 + 1) = some (.inl (cTr, 3, .inr (.inr (.inr (.inr (va_up (va_up (va_up (fun _ => none) 0 (some (N0 + 143))) 1 (some (N0 + 150))) 2 (some (N0 + 157))))))))) (h2 : F (N0 + 157) = some (.inr (7, [.ref (N0 + 158), .ref (N0 + 159), .ref (N0 + 160), .ref (N0 + 161), .ref (N0 + 162), .ref (N0 + 163), .int 1]))) (h3 : F (N0 + 158) = some (.inl (cC, 20, .inl (upd (fun _ => 0) 0 97)))) (h4 : F (N0 + 159) = some (.inl (cI, 20, .inl (fun _ => 0)))) (h5 : F (N0 + 160) = some (.inl (cI, 20, .inl (fun _ => 0)))) (h6 : F (N0 + 161) = some (.inl (cI, 20, .inl (upd (fun _ => 0) 0 (-1))))) (h7 : F (N0 + 229) = some (.inl (cL, 1, .inr (.inl (fun _ => 0))))) (h8 : F (N0 + 164) = some (.inr (12, [.ref (N0 + 165), .int 0, .ref (N0 + 181), .int 0, .int 0, .int 0, .int (-1), .ref (ql 24), .ref (N0 + 182), .ref (N0 + 187), .ref (N0 + 208), .ref (N0 + 209), .ref (N0 + 210), .ref (N0 + 211), .ref (N0 + 212), .int 0, .ref (N0 + 213), .ref (N0 + 218), .ref (N0 + 223), .ref (N0 + 224), .ref (N0 + 225), .ref (N0 + 226), .ref (N0 + 227), .int 0, .int 0, .ref (N0 + 228), .null, .int (-1), .int 0, .int 0, .int 0]))) (h9 : F (N0 + 165) = some (.inl (cTm, 3, .inr (.inr (.inr (.inr (va_up (va_up (va_up (fun _ => none) 0 (some (N0 + 166))) 1 (some (N0 + 171))) 2 (some (N0 + 176))))))))) (h10 : F (N0 + 176) = some (.inr (11, [.ref (N0 + 177), .ref (N0 + 178), .ref (N0 + 179), .ref (N0 + 180), .int 1]))) (h11 : F (N0 + 177) = some (.inl (cI, 20, .inl (upd (fun _ => 0) 0 97)))) (h12 : F (N0 + 178) = some (.inl (cI, 20, .inl (upd (fun _ => 0) 0 0)))) (h13 : F (N0 + 179) = some (.inl (cI, 20, .inl (upd (fun _ => 0) 0 0)))) (h14 : F (N0 + 180) = some (.inl (cI, 20, .inl (upd (fun _ => 0) 0 (-1))))) (hG : fG N0 D vwCl (fty cI cC cL cD cII cTr cTm cIt cB) (fen ql) s F n H locs) (hl : lv_has ls 9 [(0, .ref b), (1, .ref N0), (2, .ref (N0 + 164)), (3, .ref (N0 + 229)), (4, .ref (N0 + 230)), (5, .int 0)]) : W p l e { frames := 2048, cells := 600002, slots := 7302232, locals := 84000 } s m #[.ref b] below meth c H locs 231 4980 (lw_Z below #[.ref b] s) (F0 m 934 ls []) := by
  have lt_h0 := hG.1.lt h0
  have lt_h1 := hG.1.lt h1
  have lt_h2 := hG.1.lt h2
  have lt_h3 := hG.1.lt h3
  have lt_h4 := hG.1.lt h4
  have lt_h5 := hG.1.lt h5
  have lt_h6 := hG.1.lt h6
  have lt_h7 := hG.1.lt h7
  have lt_h8 := hG.1.lt h8
  have lt_h9 := hG.1.lt h9
  have lt_h10 := hG.1.lt h10
  have lt_h11 := hG.1.lt h11
  have lt_h12 := hG.1.lt h12
  have lt_h13 := hG.1.lt h13
  have lt_h14 := hG.1.lt h14
  refine lv_aload_n S.1 S.2.1 dL_law_934 rfl (lv_at hl 1 rfl) ?_
  refine lv_aload_n S.1 S.2.1 dL_law_935 rfl (lv_at hl 0 rfl) ?_
  refine lv_iload S.1 S.2.1 dL_law_936 (lv_at hl 5 rfl) ?_
  refine lv_iconst (v := 1) S.1 S.2.1 dL_law_938 (by decide) ?_
  refine lv_iadd S.1 S.2.1 dL_law_939 ?_
  refine fx_topi (y := 1) (by decide) ?_
  refine gx_sld (v := 2) S hG hX hbl (fin_l (by decide)) hx1 dL_law_940 ?_
  refine lv_aload_n S.1 S.2.1 dL_law_941 rfl (lv_at hl 0 rfl) ?_
  refine lv_iload S.1 S.2.1 dL_law_942 (lv_at hl 5 rfl) ?_
  refine lv_iconst (v := 2) S.1 S.2.1 dL_law_944 (by decide) ?_
  refine lv_iadd S.1 S.2.1 dL_law_945 ?_
  refine fx_topi (y := 2) (by decide) ?_
  refine gx_sld (v := 2) S hG hX hbl (fin_l (by decide)) hx2 dL_law_946 ?_
  refine lv_aload_n S.1 S.2.1 dL_law_947 rfl (lv_at hl 3 rfl) ?_
  refine fx_cTi (As := [.ref N0, .int 2, .int 2, .ref (N0 + 229)]) (rest := []) S hG (k529_L_copyTree (by omega) h0 h1 h2 h3 h4 h5 h6 h7) (vx_cwSW 4 S.2.2.2.2 gL_law_L_copyTree rfl rfl rfl (by decide +kernel) ⟨Nat.le_of_ble_eq_true rfl, Nat.le_of_ble_eq_true rfl⟩) rfl hl.1 rfl (Nat.le_of_ble_eq_true rfl) dL_law_948 ⟨Nat.le_of_ble_eq_true rfl, Nat.le_of_ble_eq_true rfl⟩ (fun rv_1 _ H locs hp hG => ?_)
  subst rv_1
  refine lv_istore (lv' := [(6, .int 0), (0, .ref b), (1, .ref N0), (2, .ref (N0 + 164)), (3, .ref (N0 + 229)), (4, .ref (N0 + 230)), (5, .int 0)]) S.1 S.2.1 dL_law_951 hl (by decide) rfl (fun ls hl => ?_)
  refine lv_aload_n S.1 S.2.1 dL_law_953 rfl (lv_at hl 3 rfl) ?_
  refine lv_aload_n S.1 S.2.1 dL_law_954 rfl (lv_at hl 1 rfl) ?_
  refine lv_iload S.1 S.2.1 dL_law_955 (lv_at hl 6 rfl) ?_
  refine lv_iconst (v := 1) S.1 S.2.1 dL_law_957 (by decide) ?_
  refine lv_iadd S.1 S.2.1 dL_law_958 ?_
  refine fx_topi (y := 1) (by decide) ?_
  refine gx_sld (v := 2) S hG hX hbl (fin_l (by decide)) hx1 dL_law_959 ?_
  refine lv_aload_n S.1 S.2.1 dL_law_960 rfl (lv_at hl 1 rfl) ?_
  refine lv_iload S.1 S.2.1 dL_law_961 (lv_at hl 6 rfl) ?_
  refine lv_iconst (v := 2) S.1 S.2.1 dL_law_963 (by decide) ?_
  refine lv_iadd S.1 S.2.1 dL_law_964 ?_
  refine fx_topi (y := 2) (by decide) ?_
  refine gx_sld (v := 2) S hG hX hbl (fin_l (by decide)) hx2 dL_law_965 ?_
  refine fx_cVi (As := [.int 2, .int 2]) (rest := []) S hG (k532_X10_copyTree (by omega) (fu_at (by omega) (fu_at (by omega) (fu_at (by omega) (fu_at (by omega) (fu_at (by omega) (fu_at (by omega) h8)))))) (fu_at (by omega) (fu_at (by omega) (fu_at (by omega) (fu_at (by omega) (fu_at (by omega) (fu_at (by omega) h9)))))) (fu_at (by omega) (fu_at (by omega) (fu_at (by omega) (fu_at (by omega) (fu_at (by omega) (fu_at (by omega) h10)))))) (fu_at (by omega) (fu_at (by omega) (fu_at (by omega) (fu_at (by omega) (fu_at (by omega) (fu_at (by omega) h11)))))) (fu_at (by omega) (fu_at (by omega) (fu_at (by omega) (fu_at (by omega) (fu_at (by omega) (fu_at (by omega) h12)))))) (fu_at (by omega) (fu_at (by omega) (fu_at (by omega) (fu_at (by omega) (fu_at (by omega) (fu_at (by omega) h13)))))) (fu_at (by omega) (fu_at (by omega) (fu_at (by omega) (fu_at (by omega) (fu_at (by omega) (fu_at (by omega) h14))))))) (fu_at (by omega) (fu_at (by omega) (fu_at (by omega) (fu_at (by omega) (fu_at (by omega) (fu_at (by omega) h8)))))) rfl (cwV 2 S.2.2.2.2 gL_law_X10_copyTree rfl rfl rfl (by decide +kernel) ⟨Nat.le_of_ble_eq_true rfl, Nat.le_of_ble_eq_true rfl⟩) rfl hl.1 rfl (Nat.le_of_ble_eq_true rfl) dL_law_966 ⟨Nat.le_of_ble_eq_true rfl, Nat.le_of_ble_eq_true rfl⟩ (fun rv_2 _ H locs hp hG => ?_)
  subst rv_2
  refine lv_istore (lv' := [(7, .int 1), (6, .int 0), (0, .ref b), (1, .ref N0), (2, .ref (N0 + 164)), (3, .ref (N0 + 229)), (4, .ref (N0 + 230)), (5, .int 0)]) S.1 S.2.1 dL_law_969 hl (by decide) rfl (fun ls hl => ?_)
  refine lv_aload_n S.1 S.2.1 dL_law_971 rfl (lv_at hl 4 rfl) ?_
  refine fx_cVi (As := []) (rest := []) S hG (k117_X10_thrown (by omega) (fu_at (by omega) (fu_at (by omega) (fu_at (by omega) (fu_at (by omega) (fu_at (by omega) fu_s)))))) (fu_at (by omega) (fu_at (by omega) (fu_at (by omega) (fu_at (by omega) (fu_at (by omega) fu_s))))) rfl (cwV 0 S.2.2.2.2 gL_law_X10_thrown rfl rfl rfl (by decide +kernel) ⟨Nat.le_of_ble_eq_true rfl, Nat.le_of_ble_eq_true rfl⟩) rfl hl.1 rfl (Nat.le_of_ble_eq_true rfl) dL_law_972 ⟨Nat.le_of_ble_eq_true rfl, Nat.le_of_ble_eq_true rfl⟩ (fun rv_3 _ H locs hp hG => ?_)
  subst rv_3
  refine lv_iload S.1 S.2.1 dL_law_975 (lv_at hl 1 rfl) ?_
  refine lv_icmp_eq (tgt := 982) S.1 S.2.1 dL_law_977 (by decide) (fun _ => ?_) (fun c => absurd (by decide) c)
  refine lv_iload S.1 S.2.1 dL_law_982 (lv_at hl 1 rfl) ?_
  refine lv_if_ne (tgt := 999) S.1 S.2.1 dL_law_984 (by decide) (fun c => absurd (by decide) c) (fun _ => ?_)
  refine lv_aload_n S.1 S.2.1 dL_law_987 rfl (lv_at hl 5 rfl) ?_
  refine lv_iconst (v := 0) S.1 S.2.1 dL_law_988 (by decide) ?_
  refine gx_lald (v := 1) S hG 2 (fu_at (by omega) (fu_at (by omega) (fu_at (by omega) (fu_at (by omega) (fu_at (by omega) (fu_at (by omega) fu_s)))))) rfl (fin_l (by decide)) rfl dL_law_989 ?_
  refine lv_iload S.1 S.2.1 dL_law_990 (lv_at hl 0 rfl) ?_
  refine lv_i2l (v := 1) S.1 S.2.1 dL_law_992 (by decide) ?_
  refine gx_lcmpEq S rfl dL_law_993 ?_
  refine lv_if_eq (tgt := 999) S.1 S.2.1 dL_law_994 (by decide) (fun _ => ?_) (fun c => absurd (by decide) c)
  refine lv_goto (tgt := 2650) S.1 S.2.1 dL_law_999 (by decide) ?_
  refine lv_iinc (v := 5) (lv' := [(5, .int 5), (7, .int 1), (6, .int 0), (0, .ref b), (1, .ref N0), (2, .ref (N0 + 164)), (3, .ref (N0 + 229)), (4, .ref (N0 + 230))]) S.1 S.2.1 dL_law_2650 hl (k := 7) rfl (by decide) (by decide) rfl (fun ls hl => ?_)
  refine lv_goto (tgt := 28) S.1 S.2.1 dL_law_2653 (by decide) ?_
  refine lv_iload S.1 S.2.1 dL_law_28 (lv_at hl 0 rfl) ?_
  refine lv_aload_n S.1 S.2.1 dL_law_30 rfl (lv_at hl 3 rfl) ?_
  refine gx_slen (v := 5) S hG hX hbl rfl dL_law_31 ?_
  refine lv_iconst (v := 5) S.1 S.2.1 dL_law_32 (by decide) ?_
  refine lv_isub S.1 S.2.1 dL_law_33 ?_
  refine fx_topi (y := 0) (by decide) ?_
  refine lv_icmp_gt (tgt := 2656) S.1 S.2.1 dL_law_34 (by decide) (fun _ => ?_) (fun c => absurd (by decide) c)
  refine lv_iconst (v := 1) S.1 S.2.1 dL_law_2656 (by decide) ?_
  refine va_forget (fun q hq => by rw [hN]; exact hG.2.1.2.2 q hq) ?_
  refine W.widen (k := 600002) (n := 7302232) (by decide) (by decide) ?_
  exact lw_ret (d0 := s.drawn) (Drawn.sameBut.refl _ _) S.1 S.2.1 hr hlocks dL_law_2657
theorem l11_15 {p : Program} {e : Env} {s : State} {m : MethodId} {below : List Frame} {meth : Method} {c : Code} {b : Nat} {xs : Nat → Int32} {H : Heap} {locs : List Loc} {ls : Array Slot} {n : Nat} {a2 a3 a4 : Int32} (g_a2_ge_3 : 3 ≤ a2) (S : CallFix p m c cL_law 9 s #[.ref b] wsL_law "TreeDifferLaw") (hr : meth.sig.returnType = ret) (hlocks : meth.locks = false) (hst : l.stackTraces = false) (hX : va_X b 5 xs s s.heap) (hbl : b < s.heap.size ∧ b < N0) (hN : s.heap.size = N0) (hn : N0 + 231 ≤ n) (hx1 : xs 1 = 2) (hx2 : xs 2 = a2) (hx3 : xs 3 = a3) (hx4 : xs 4 = a4) (h0 : F N0 = some (.inr (9, [.ref (N0 + 1), .ref (N0 + 2), .ref (N0 + 11), .ref (N0 + 13), .ref (N0 + 63), .ref (N0 + 65), .ref (N0 + 85), .int (-1), .int (-1), .int 32]))) (h1 : F (N0 + 1) = some (.inl (cTr, 3, .inr (.inr (.inr (.inr (va_up (va_up (va_up (fun _ => none) 0 (some (N0 + 143))) 1 (some (N0 + 150))) 2 (some (N0 + 157))))))))) (h2 : F (N0 + 164) = some (.inr (12, [.ref (N0 + 165), .int 0, .ref (N0 + 181), .int 0, .int 0, .int 0, .int (-1), .ref (ql 24), .ref (N0 + 182), .ref (N0 + 187), .ref (N0 + 208), .ref (N0 + 209), .ref (N0 + 210), .ref (N0 + 211), .ref (N0 + 212), .int 0, .ref (N0 + 213), .ref (N0 + 218), .ref (N0 + 223), .ref (N0 + 224), .ref (N0 + 225), .ref (N0 + 226), .ref (N0 + 227), .int 0, .int 0, .ref (N0 + 228), .null, .int (-1), .int 0, .int 0, .int 0]))) (hG : fG N0 D vwCl (fty cI cC cL cD cII cTr cTm cIt cB) (fen ql) s F n H locs) (hl : lv_has ls 9 [(0, .ref b), (1, .ref N0), (2, .ref (N0 + 164)), (3, .ref (N0 + 229)), (4, .ref (N0 + 230)), (5, .int 0)]) : W p l e { frames := 2048, cells := 600002, slots := 7302232, locals := 84000 } s m #[.ref b] below meth c H locs 231 4980 (lw_Z below #[.ref b] s) (F0 m 934 ls []) := by
  have lt_h0 := hG.1.lt h0
  have lt_h1 := hG.1.lt h1
  have lt_h2 := hG.1.lt h2
  refine lv_aload_n S.1 S.2.1 dL_law_934 rfl (lv_at hl 1 rfl) ?_
  refine lv_aload_n S.1 S.2.1 dL_law_935 rfl (lv_at hl 0 rfl) ?_
  refine lv_iload S.1 S.2.1 dL_law_936 (lv_at hl 5 rfl) ?_
  refine lv_iconst (v := 1) S.1 S.2.1 dL_law_938 (by decide) ?_
  refine lv_iadd S.1 S.2.1 dL_law_939 ?_
  refine fx_topi (y := 1) (by decide) ?_
  refine gx_sld (v := 2) S hG hX hbl (fin_l (by decide)) hx1 dL_law_940 ?_
  refine lv_aload_n S.1 S.2.1 dL_law_941 rfl (lv_at hl 0 rfl) ?_
  refine lv_iload S.1 S.2.1 dL_law_942 (lv_at hl 5 rfl) ?_
  refine lv_iconst (v := 2) S.1 S.2.1 dL_law_944 (by decide) ?_
  refine lv_iadd S.1 S.2.1 dL_law_945 ?_
  refine fx_topi (y := 2) (by decide) ?_
  refine gx_sld (v := a2) S hG hX hbl (fin_l (by decide)) hx2 dL_law_946 ?_
  refine lv_aload_n S.1 S.2.1 dL_law_947 rfl (lv_at hl 3 rfl) ?_
  refine fx_cTi (As := [.ref N0, .int 2, .int a2, .ref (N0 + 229)]) (rest := []) S hG (k534_L_copyTree g_a2_ge_3 hst (by omega) h0 h1) (vx_cwSW 4 S.2.2.2.2 gL_law_L_copyTree rfl rfl rfl (by decide +kernel) ⟨Nat.le_of_ble_eq_true rfl, Nat.le_of_ble_eq_true rfl⟩) rfl hl.1 rfl (Nat.le_of_ble_eq_true rfl) dL_law_948 ⟨Nat.le_of_ble_eq_true rfl, Nat.le_of_ble_eq_true rfl⟩ (fun rv_u_1 u_1 H locs hp hG => ?_)
  obtain ⟨rfl, hu_1⟩ := hp
  refine W.widen (k := 232) (n := 4986) (by decide) (by decide) ?_
  refine lv_istore (lv' := [(6, .int 1), (0, .ref b), (1, .ref N0), (2, .ref (N0 + 164)), (3, .ref (N0 + 229)), (4, .ref (N0 + 230)), (5, .int 0)]) S.1 S.2.1 dL_law_951 hl (by decide) rfl (fun ls hl => ?_)
  refine lv_aload_n S.1 S.2.1 dL_law_953 rfl (lv_at hl 3 rfl) ?_
  refine lv_aload_n S.1 S.2.1 dL_law_954 rfl (lv_at hl 1 rfl) ?_
  refine lv_iload S.1 S.2.1 dL_law_955 (lv_at hl 6 rfl) ?_
  refine lv_iconst (v := 1) S.1 S.2.1 dL_law_957 (by decide) ?_
  refine lv_iadd S.1 S.2.1 dL_law_958 ?_
  refine fx_topi (y := 1) (by decide) ?_
  refine gx_sld (v := 2) S hG hX hbl (fin_l (by decide)) hx1 dL_law_959 ?_
  refine lv_aload_n S.1 S.2.1 dL_law_960 rfl (lv_at hl 1 rfl) ?_
  refine lv_iload S.1 S.2.1 dL_law_961 (lv_at hl 6 rfl) ?_
  refine lv_iconst (v := 2) S.1 S.2.1 dL_law_963 (by decide) ?_
  refine lv_iadd S.1 S.2.1 dL_law_964 ?_
  refine fx_topi (y := 2) (by decide) ?_
  refine gx_sld (v := a2) S hG hX hbl (fin_l (by decide)) hx2 dL_law_965 ?_
  refine fx_cVi (As := [.int 2, .int a2]) (rest := []) S hG (k536_X10_copyTree g_a2_ge_3 (by omega) h2) h2 rfl (cwV 2 S.2.2.2.2 gL_law_X10_copyTree rfl rfl rfl (by decide +kernel) ⟨Nat.le_of_ble_eq_true rfl, Nat.le_of_ble_eq_true rfl⟩) rfl hl.1 rfl (Nat.le_of_ble_eq_true rfl) dL_law_966 ⟨Nat.le_of_ble_eq_true rfl, Nat.le_of_ble_eq_true rfl⟩ (fun rv_2 _ H locs hp hG => ?_)
  subst rv_2
  refine lv_istore (lv' := [(7, .int 0), (6, .int 1), (0, .ref b), (1, .ref N0), (2, .ref (N0 + 164)), (3, .ref (N0 + 229)), (4, .ref (N0 + 230)), (5, .int 0)]) S.1 S.2.1 dL_law_969 hl (by decide) rfl (fun ls hl => ?_)
  refine lv_aload_n S.1 S.2.1 dL_law_971 rfl (lv_at hl 4 rfl) ?_
  refine fx_cVi (As := []) (rest := []) S hG (k25_X10_thrown (by omega) fu_s) fu_s rfl (cwV 0 S.2.2.2.2 gL_law_X10_thrown rfl rfl rfl (by decide +kernel) ⟨Nat.le_of_ble_eq_true rfl, Nat.le_of_ble_eq_true rfl⟩) rfl hl.1 rfl (Nat.le_of_ble_eq_true rfl) dL_law_972 ⟨Nat.le_of_ble_eq_true rfl, Nat.le_of_ble_eq_true rfl⟩ (fun rv_3 _ H locs hp hG => ?_)
  subst rv_3
  refine lv_iload S.1 S.2.1 dL_law_975 (lv_at hl 1 rfl) ?_
  refine lv_icmp_eq (tgt := 982) S.1 S.2.1 dL_law_977 (by decide) (fun _ => ?_) (fun c => absurd (by decide) c)
  refine lv_iload S.1 S.2.1 dL_law_982 (lv_at hl 1 rfl) ?_
  refine lv_if_ne (tgt := 999) S.1 S.2.1 dL_law_984 (by decide) (fun _ => ?_) (fun c => absurd c (by decide))
  refine lv_goto (tgt := 2650) S.1 S.2.1 dL_law_999 (by decide) ?_
  refine lv_iinc (v := 5) (lv' := [(5, .int 5), (7, .int 0), (6, .int 1), (0, .ref b), (1, .ref N0), (2, .ref (N0 + 164)), (3, .ref (N0 + 229)), (4, .ref (N0 + 230))]) S.1 S.2.1 dL_law_2650 hl (k := 7) rfl (by decide) (by decide) rfl (fun ls hl => ?_)
  refine lv_goto (tgt := 28) S.1 S.2.1 dL_law_2653 (by decide) ?_
  refine lv_iload S.1 S.2.1 dL_law_28 (lv_at hl 0 rfl) ?_
  refine lv_aload_n S.1 S.2.1 dL_law_30 rfl (lv_at hl 3 rfl) ?_
  refine gx_slen (v := 5) S hG hX hbl rfl dL_law_31 ?_
  refine lv_iconst (v := 5) S.1 S.2.1 dL_law_32 (by decide) ?_
  refine lv_isub S.1 S.2.1 dL_law_33 ?_
  refine fx_topi (y := 0) (by decide) ?_
  refine lv_icmp_gt (tgt := 2656) S.1 S.2.1 dL_law_34 (by decide) (fun _ => ?_) (fun c => absurd (by decide) c)
  refine lv_iconst (v := 1) S.1 S.2.1 dL_law_2656 (by decide) ?_
  refine va_forget (fun q hq => by rw [hN]; exact hG.2.1.2.2 q hq) ?_
  refine W.widen (k := 600002) (n := 7302232) (by decide) (by decide) ?_
  exact lw_ret (d0 := s.drawn) (Drawn.sameBut.refl _ _) S.1 S.2.1 hr hlocks dL_law_2657
theorem l11_16 {p : Program} {e : Env} {s : State} {m : MethodId} {below : List Frame} {meth : Method} {c : Code} {b : Nat} {xs : Nat → Int32} {H : Heap} {locs : List Loc} {ls : Array Slot} {n : Nat} {a1 a2 a3 a4 : Int32} (g_a1_ge_3 : 3 ≤ a1) (S : CallFix p m c cL_law 9 s #[.ref b] wsL_law "TreeDifferLaw") (hr : meth.sig.returnType = ret) (hlocks : meth.locks = false) (hst : l.stackTraces = false) (hX : va_X b 5 xs s s.heap) (hbl : b < s.heap.size ∧ b < N0) (hN : s.heap.size = N0) (hn : N0 + 231 ≤ n) (hx1 : xs 1 = a1) (hx2 : xs 2 = a2) (hx3 : xs 3 = a3) (hx4 : xs 4 = a4) (h0 : F N0 = some (.inr (9, [.ref (N0 + 1), .ref (N0 + 2), .ref (N0 + 11), .ref (N0 + 13), .ref (N0 + 63), .ref (N0 + 65), .ref (N0 + 85), .int (-1), .int (-1), .int 32]))) (h1 : F (N0 + 164) = some (.inr (12, [.ref (N0 + 165), .int 0, .ref (N0 + 181), .int 0, .int 0, .int 0, .int (-1), .ref (ql 24), .ref (N0 + 182), .ref (N0 + 187), .ref (N0 + 208), .ref (N0 + 209), .ref (N0 + 210), .ref (N0 + 211), .ref (N0 + 212), .int 0, .ref (N0 + 213), .ref (N0 + 218), .ref (N0 + 223), .ref (N0 + 224), .ref (N0 + 225), .ref (N0 + 226), .ref (N0 + 227), .int 0, .int 0, .ref (N0 + 228), .null, .int (-1), .int 0, .int 0, .int 0]))) (hG : fG N0 D vwCl (fty cI cC cL cD cII cTr cTm cIt cB) (fen ql) s F n H locs) (hl : lv_has ls 9 [(0, .ref b), (1, .ref N0), (2, .ref (N0 + 164)), (3, .ref (N0 + 229)), (4, .ref (N0 + 230)), (5, .int 0)]) : W p l e { frames := 2048, cells := 600002, slots := 7302232, locals := 84000 } s m #[.ref b] below meth c H locs 231 4980 (lw_Z below #[.ref b] s) (F0 m 934 ls []) := by
  have lt_h0 := hG.1.lt h0
  have lt_h1 := hG.1.lt h1
  refine lv_aload_n S.1 S.2.1 dL_law_934 rfl (lv_at hl 1 rfl) ?_
  refine lv_aload_n S.1 S.2.1 dL_law_935 rfl (lv_at hl 0 rfl) ?_
  refine lv_iload S.1 S.2.1 dL_law_936 (lv_at hl 5 rfl) ?_
  refine lv_iconst (v := 1) S.1 S.2.1 dL_law_938 (by decide) ?_
  refine lv_iadd S.1 S.2.1 dL_law_939 ?_
  refine fx_topi (y := 1) (by decide) ?_
  refine gx_sld (v := a1) S hG hX hbl (fin_l (by decide)) hx1 dL_law_940 ?_
  refine lv_aload_n S.1 S.2.1 dL_law_941 rfl (lv_at hl 0 rfl) ?_
  refine lv_iload S.1 S.2.1 dL_law_942 (lv_at hl 5 rfl) ?_
  refine lv_iconst (v := 2) S.1 S.2.1 dL_law_944 (by decide) ?_
  refine lv_iadd S.1 S.2.1 dL_law_945 ?_
  refine fx_topi (y := 2) (by decide) ?_
  refine gx_sld (v := a2) S hG hX hbl (fin_l (by decide)) hx2 dL_law_946 ?_
  refine lv_aload_n S.1 S.2.1 dL_law_947 rfl (lv_at hl 3 rfl) ?_
  refine fx_cTi (As := [.ref N0, .int a1, .int a2, .ref (N0 + 229)]) (rest := []) S hG (k538_L_copyTree g_a1_ge_3 hst (by omega) h0) (vx_cwSW 4 S.2.2.2.2 gL_law_L_copyTree rfl rfl rfl (by decide +kernel) ⟨Nat.le_of_ble_eq_true rfl, Nat.le_of_ble_eq_true rfl⟩) rfl hl.1 rfl (Nat.le_of_ble_eq_true rfl) dL_law_948 ⟨Nat.le_of_ble_eq_true rfl, Nat.le_of_ble_eq_true rfl⟩ (fun rv_u_1 u_1 H locs hp hG => ?_)
  obtain ⟨rfl, hu_1⟩ := hp
  refine W.widen (k := 232) (n := 4986) (by decide) (by decide) ?_
  refine lv_istore (lv' := [(6, .int 1), (0, .ref b), (1, .ref N0), (2, .ref (N0 + 164)), (3, .ref (N0 + 229)), (4, .ref (N0 + 230)), (5, .int 0)]) S.1 S.2.1 dL_law_951 hl (by decide) rfl (fun ls hl => ?_)
  refine lv_aload_n S.1 S.2.1 dL_law_953 rfl (lv_at hl 3 rfl) ?_
  refine lv_aload_n S.1 S.2.1 dL_law_954 rfl (lv_at hl 1 rfl) ?_
  refine lv_iload S.1 S.2.1 dL_law_955 (lv_at hl 6 rfl) ?_
  refine lv_iconst (v := 1) S.1 S.2.1 dL_law_957 (by decide) ?_
  refine lv_iadd S.1 S.2.1 dL_law_958 ?_
  refine fx_topi (y := 1) (by decide) ?_
  refine gx_sld (v := a1) S hG hX hbl (fin_l (by decide)) hx1 dL_law_959 ?_
  refine lv_aload_n S.1 S.2.1 dL_law_960 rfl (lv_at hl 1 rfl) ?_
  refine lv_iload S.1 S.2.1 dL_law_961 (lv_at hl 6 rfl) ?_
  refine lv_iconst (v := 2) S.1 S.2.1 dL_law_963 (by decide) ?_
  refine lv_iadd S.1 S.2.1 dL_law_964 ?_
  refine fx_topi (y := 2) (by decide) ?_
  refine gx_sld (v := a2) S hG hX hbl (fin_l (by decide)) hx2 dL_law_965 ?_
  refine fx_cVi (As := [.int a1, .int a2]) (rest := []) S hG (k540_X10_copyTree g_a1_ge_3 (by omega) h1) h1 rfl (cwV 2 S.2.2.2.2 gL_law_X10_copyTree rfl rfl rfl (by decide +kernel) ⟨Nat.le_of_ble_eq_true rfl, Nat.le_of_ble_eq_true rfl⟩) rfl hl.1 rfl (Nat.le_of_ble_eq_true rfl) dL_law_966 ⟨Nat.le_of_ble_eq_true rfl, Nat.le_of_ble_eq_true rfl⟩ (fun rv_2 _ H locs hp hG => ?_)
  subst rv_2
  refine lv_istore (lv' := [(7, .int 0), (6, .int 1), (0, .ref b), (1, .ref N0), (2, .ref (N0 + 164)), (3, .ref (N0 + 229)), (4, .ref (N0 + 230)), (5, .int 0)]) S.1 S.2.1 dL_law_969 hl (by decide) rfl (fun ls hl => ?_)
  refine lv_aload_n S.1 S.2.1 dL_law_971 rfl (lv_at hl 4 rfl) ?_
  refine fx_cVi (As := []) (rest := []) S hG (k25_X10_thrown (by omega) fu_s) fu_s rfl (cwV 0 S.2.2.2.2 gL_law_X10_thrown rfl rfl rfl (by decide +kernel) ⟨Nat.le_of_ble_eq_true rfl, Nat.le_of_ble_eq_true rfl⟩) rfl hl.1 rfl (Nat.le_of_ble_eq_true rfl) dL_law_972 ⟨Nat.le_of_ble_eq_true rfl, Nat.le_of_ble_eq_true rfl⟩ (fun rv_3 _ H locs hp hG => ?_)
  subst rv_3
  refine lv_iload S.1 S.2.1 dL_law_975 (lv_at hl 1 rfl) ?_
  refine lv_icmp_eq (tgt := 982) S.1 S.2.1 dL_law_977 (by decide) (fun _ => ?_) (fun c => absurd (by decide) c)
  refine lv_iload S.1 S.2.1 dL_law_982 (lv_at hl 1 rfl) ?_
  refine lv_if_ne (tgt := 999) S.1 S.2.1 dL_law_984 (by decide) (fun _ => ?_) (fun c => absurd c (by decide))
  refine lv_goto (tgt := 2650) S.1 S.2.1 dL_law_999 (by decide) ?_
  refine lv_iinc (v := 5) (lv' := [(5, .int 5), (7, .int 0), (6, .int 1), (0, .ref b), (1, .ref N0), (2, .ref (N0 + 164)), (3, .ref (N0 + 229)), (4, .ref (N0 + 230))]) S.1 S.2.1 dL_law_2650 hl (k := 7) rfl (by decide) (by decide) rfl (fun ls hl => ?_)
  refine lv_goto (tgt := 28) S.1 S.2.1 dL_law_2653 (by decide) ?_
  refine lv_iload S.1 S.2.1 dL_law_28 (lv_at hl 0 rfl) ?_
  refine lv_aload_n S.1 S.2.1 dL_law_30 rfl (lv_at hl 3 rfl) ?_
  refine gx_slen (v := 5) S hG hX hbl rfl dL_law_31 ?_
  refine lv_iconst (v := 5) S.1 S.2.1 dL_law_32 (by decide) ?_
  refine lv_isub S.1 S.2.1 dL_law_33 ?_
  refine fx_topi (y := 0) (by decide) ?_
  refine lv_icmp_gt (tgt := 2656) S.1 S.2.1 dL_law_34 (by decide) (fun _ => ?_) (fun c => absurd (by decide) c)
  refine lv_iconst (v := 1) S.1 S.2.1 dL_law_2656 (by decide) ?_
  refine va_forget (fun q hq => by rw [hN]; exact hG.2.1.2.2 q hq) ?_
  refine W.widen (k := 600002) (n := 7302232) (by decide) (by decide) ?_
  exact lw_ret (d0 := s.drawn) (Drawn.sameBut.refl _ _) S.1 S.2.1 hr hlocks dL_law_2657
theorem case_11 {p : Program} {e : Env} {s : State} {m : MethodId} {below : List Frame} {meth : Method} {c : Code} {b : Nat} {xs : Nat → Int32} {H : Heap} {locs : List Loc} {ls : Array Slot} {n : Nat} {a1 a2 a3 a4 : Int32} (S : CallFix p m c cL_law 9 s #[.ref b] wsL_law "TreeDifferLaw") (hr : meth.sig.returnType = ret) (hlocks : meth.locks = false) (hst : l.stackTraces = false) (hX : va_X b 5 xs s s.heap) (hbl : b < s.heap.size ∧ b < N0) (hN : s.heap.size = N0) (hn : N0 + 231 ≤ n) (hx1 : xs 1 = a1) (hx2 : xs 2 = a2) (hx3 : xs 3 = a3) (hx4 : xs 4 = a4) (hL : ∀ (i : Nat) (q : Nat × va_E), (lneed N0 cI cC cL cD cII cTr cTm cIt cB ql)[i]? = some q → F (N0 + q.1) = some q.2) (hG : fG N0 D vwCl (fty cI cC cL cD cII cTr cTm cIt cB) (fen ql) s F n H locs) (hl : lv_has ls 9 [(0, .ref b), (1, .ref N0), (2, .ref (N0 + 164)), (3, .ref (N0 + 229)), (4, .ref (N0 + 230)), (5, .int 0)]) : W p l e { frames := 2048, cells := 600002, slots := 7302232, locals := 84000 } s m #[.ref b] below meth c H locs 231 4980 (lw_Z below #[.ref b] s) (F0 m 934 ls []) := by
  have hn1 := pk_nc a1
  have hf1 := pk_fc a1
  have hv1 := pk_vc a1
  obtain ⟨g_c1_ge_0, g_c1_le_65535⟩ := fl_c0 a1
  generalize hc1 : (a1.toUInt32 % 65536).toInt32 = c1 at *
  have hn2 := pk_nc a2
  have hf2 := pk_fc a2
  have hv2 := pk_vc a2
  obtain ⟨g_c2_ge_0, g_c2_le_65535⟩ := fl_c0 a2
  generalize hc2 : (a2.toUInt32 % 65536).toInt32 = c2 at *
  have hn3 := pk_nc a3
  have hf3 := pk_fc a3
  have hv3 := pk_vc a3
  obtain ⟨g_c3_ge_0, g_c3_le_65535⟩ := fl_c0 a3
  generalize hc3 : (a3.toUInt32 % 65536).toInt32 = c3 at *
  have hn4 := pk_nc a4
  have hf4 := pk_fc a4
  have hv4 := pk_vc a4
  obtain ⟨g_c4_ge_0, g_c4_le_65535⟩ := fl_c0 a4
  generalize hc4 : (a4.toUInt32 % 65536).toInt32 = c4 at *
  rcases fl_cut a1 0 (-1) (by decide) with g_a1_le_m1 | g_a1_ge_0
  · skip
    exact l11_0 g_a1_le_m1 S hr hlocks hst hX hbl hN hn hx1 hx2 hx3 hx4 (hL 0 _ rfl) (hL 4 _ rfl) hG hl
  · skip
    rcases fl_cut a1 3 2 (by decide) with g_a1_le_2 | g_a1_ge_3
    · skip
      rcases fl_cut a1 1 0 (by decide) with g_a1_le_0 | g_a1_ge_1
      · skip
        obtain rfl : a1 = 0 := Int32.le_antisymm g_a1_le_0 g_a1_ge_0
        rcases fl_cut a2 0 (-1) (by decide) with g_a2_le_m1 | g_a2_ge_0
        · skip
          exact l11_1 g_a2_le_m1 S hr hlocks hst hX hbl hN hn hx1 hx2 hx3 hx4 (hL 0 _ rfl) (hL 6 _ rfl) (hL 4 _ rfl) hG hl
        · skip
          rcases fl_cut a2 3 2 (by decide) with g_a2_le_2 | g_a2_ge_3
          · skip
            rcases fl_cut a2 1 0 (by decide) with g_a2_le_0 | g_a2_ge_1
            · skip
              obtain rfl : a2 = 0 := Int32.le_antisymm g_a2_le_0 g_a2_ge_0
              exact l11_2 S hr hlocks hst hX hbl hN hn hx1 hx2 hx3 hx4 (hL 0 _ rfl) (hL 6 _ rfl) (hL 10 _ rfl) (hL 13 _ rfl) (hL 14 _ rfl) (hL 15 _ rfl) (hL 16 _ rfl) (hL 3 _ rfl) (hL 4 _ rfl) (hL 11 _ rfl) (hL 12 _ rfl) (hL 18 _ rfl) (hL 19 _ rfl) (hL 20 _ rfl) (hL 21 _ rfl) hG hl
            · skip
              rcases fl_cut a2 2 1 (by decide) with g_a2_le_1 | g_a2_ge_2
              · skip
                obtain rfl : a2 = 1 := Int32.le_antisymm g_a2_le_1 g_a2_ge_1
                exact l11_3 S hr hlocks hst hX hbl hN hn hx1 hx2 hx3 hx4 (hL 0 _ rfl) (hL 6 _ rfl) (hL 10 _ rfl) (hL 22 _ rfl) (hL 13 _ rfl) (hL 24 _ rfl) (hL 14 _ rfl) (hL 25 _ rfl) (hL 15 _ rfl) (hL 26 _ rfl) (hL 16 _ rfl) (hL 27 _ rfl) (hL 3 _ rfl) (hL 4 _ rfl) (hL 11 _ rfl) (hL 12 _ rfl) (hL 23 _ rfl) (hL 18 _ rfl) (hL 19 _ rfl) (hL 20 _ rfl) (hL 21 _ rfl) (hL 29 _ rfl) (hL 30 _ rfl) (hL 31 _ rfl) (hL 32 _ rfl) hG hl
              · skip
                obtain rfl : a2 = 2 := Int32.le_antisymm g_a2_le_2 g_a2_ge_2
                exact l11_4 S hr hlocks hst hX hbl hN hn hx1 hx2 hx3 hx4 (hL 0 _ rfl) (hL 6 _ rfl) (hL 10 _ rfl) (hL 33 _ rfl) (hL 13 _ rfl) (hL 35 _ rfl) (hL 14 _ rfl) (hL 36 _ rfl) (hL 15 _ rfl) (hL 37 _ rfl) (hL 16 _ rfl) (hL 38 _ rfl) (hL 3 _ rfl) (hL 4 _ rfl) (hL 11 _ rfl) (hL 12 _ rfl) (hL 34 _ rfl) (hL 18 _ rfl) (hL 19 _ rfl) (hL 20 _ rfl) (hL 21 _ rfl) (hL 40 _ rfl) (hL 41 _ rfl) (hL 42 _ rfl) (hL 43 _ rfl) hG hl
          · skip
            exact l11_5 g_a2_ge_3 S hr hlocks hst hX hbl hN hn hx1 hx2 hx3 hx4 (hL 0 _ rfl) (hL 6 _ rfl) (hL 4 _ rfl) hG hl
      · skip
        rcases fl_cut a1 2 1 (by decide) with g_a1_le_1 | g_a1_ge_2
        · skip
          obtain rfl : a1 = 1 := Int32.le_antisymm g_a1_le_1 g_a1_ge_1
          rcases fl_cut a2 0 (-1) (by decide) with g_a2_le_m1 | g_a2_ge_0
          · skip
            exact l11_6 g_a2_le_m1 S hr hlocks hst hX hbl hN hn hx1 hx2 hx3 hx4 (hL 0 _ rfl) (hL 6 _ rfl) (hL 4 _ rfl) hG hl
          · skip
            rcases fl_cut a2 3 2 (by decide) with g_a2_le_2 | g_a2_ge_3
            · skip
              rcases fl_cut a2 1 0 (by decide) with g_a2_le_0 | g_a2_ge_1
              · skip
                obtain rfl : a2 = 0 := Int32.le_antisymm g_a2_le_0 g_a2_ge_0
                exact l11_7 S hr hlocks hst hX hbl hN hn hx1 hx2 hx3 hx4 (hL 0 _ rfl) (hL 6 _ rfl) (hL 22 _ rfl) (hL 10 _ rfl) (hL 24 _ rfl) (hL 13 _ rfl) (hL 25 _ rfl) (hL 14 _ rfl) (hL 26 _ rfl) (hL 15 _ rfl) (hL 27 _ rfl) (hL 16 _ rfl) (hL 3 _ rfl) (hL 4 _ rfl) (hL 11 _ rfl) (hL 23 _ rfl) (hL 12 _ rfl) (hL 29 _ rfl) (hL 30 _ rfl) (hL 31 _ rfl) (hL 32 _ rfl) (hL 18 _ rfl) (hL 19 _ rfl) (hL 20 _ rfl) (hL 21 _ rfl) hG hl
              · skip
                rcases fl_cut a2 2 1 (by decide) with g_a2_le_1 | g_a2_ge_2
                · skip
                  obtain rfl : a2 = 1 := Int32.le_antisymm g_a2_le_1 g_a2_ge_1
                  exact l11_8 S hr hlocks hst hX hbl hN hn hx1 hx2 hx3 hx4 (hL 0 _ rfl) (hL 6 _ rfl) (hL 22 _ rfl) (hL 24 _ rfl) (hL 25 _ rfl) (hL 26 _ rfl) (hL 27 _ rfl) (hL 3 _ rfl) (hL 4 _ rfl) (hL 11 _ rfl) (hL 23 _ rfl) (hL 29 _ rfl) (hL 30 _ rfl) (hL 31 _ rfl) (hL 32 _ rfl) hG hl
                · skip
                  obtain rfl : a2 = 2 := Int32.le_antisymm g_a2_le_2 g_a2_ge_2
                  exact l11_9 S hr hlocks hst hX hbl hN hn hx1 hx2 hx3 hx4 (hL 0 _ rfl) (hL 6 _ rfl) (hL 22 _ rfl) (hL 33 _ rfl) (hL 24 _ rfl) (hL 35 _ rfl) (hL 25 _ rfl) (hL 36 _ rfl) (hL 26 _ rfl) (hL 37 _ rfl) (hL 27 _ rfl) (hL 38 _ rfl) (hL 3 _ rfl) (hL 4 _ rfl) (hL 11 _ rfl) (hL 23 _ rfl) (hL 34 _ rfl) (hL 29 _ rfl) (hL 30 _ rfl) (hL 31 _ rfl) (hL 32 _ rfl) (hL 40 _ rfl) (hL 41 _ rfl) (hL 42 _ rfl) (hL 43 _ rfl) hG hl
            · skip
              exact l11_10 g_a2_ge_3 S hr hlocks hst hX hbl hN hn hx1 hx2 hx3 hx4 (hL 0 _ rfl) (hL 6 _ rfl) (hL 4 _ rfl) hG hl
        · skip
          obtain rfl : a1 = 2 := Int32.le_antisymm g_a1_le_2 g_a1_ge_2
          rcases fl_cut a2 0 (-1) (by decide) with g_a2_le_m1 | g_a2_ge_0
          · skip
            exact l11_11 g_a2_le_m1 S hr hlocks hst hX hbl hN hn hx1 hx2 hx3 hx4 (hL 0 _ rfl) (hL 6 _ rfl) (hL 4 _ rfl) hG hl
          · skip
            rcases fl_cut a2 3 2 (by decide) with g_a2_le_2 | g_a2_ge_3
            · skip
              rcases fl_cut a2 1 0 (by decide) with g_a2_le_0 | g_a2_ge_1
              · skip
                obtain rfl : a2 = 0 := Int32.le_antisymm g_a2_le_0 g_a2_ge_0
                exact l11_12 S hr hlocks hst hX hbl hN hn hx1 hx2 hx3 hx4 (hL 0 _ rfl) (hL 6 _ rfl) (hL 33 _ rfl) (hL 10 _ rfl) (hL 35 _ rfl) (hL 13 _ rfl) (hL 36 _ rfl) (hL 14 _ rfl) (hL 37 _ rfl) (hL 15 _ rfl) (hL 38 _ rfl) (hL 16 _ rfl) (hL 3 _ rfl) (hL 4 _ rfl) (hL 11 _ rfl) (hL 34 _ rfl) (hL 12 _ rfl) (hL 40 _ rfl) (hL 41 _ rfl) (hL 42 _ rfl) (hL 43 _ rfl) (hL 18 _ rfl) (hL 19 _ rfl) (hL 20 _ rfl) (hL 21 _ rfl) hG hl
              · skip
                rcases fl_cut a2 2 1 (by decide) with g_a2_le_1 | g_a2_ge_2
                · skip
                  obtain rfl : a2 = 1 := Int32.le_antisymm g_a2_le_1 g_a2_ge_1
                  exact l11_13 S hr hlocks hst hX hbl hN hn hx1 hx2 hx3 hx4 (hL 0 _ rfl) (hL 6 _ rfl) (hL 33 _ rfl) (hL 22 _ rfl) (hL 35 _ rfl) (hL 24 _ rfl) (hL 36 _ rfl) (hL 25 _ rfl) (hL 37 _ rfl) (hL 26 _ rfl) (hL 38 _ rfl) (hL 27 _ rfl) (hL 3 _ rfl) (hL 4 _ rfl) (hL 11 _ rfl) (hL 34 _ rfl) (hL 23 _ rfl) (hL 40 _ rfl) (hL 41 _ rfl) (hL 42 _ rfl) (hL 43 _ rfl) (hL 29 _ rfl) (hL 30 _ rfl) (hL 31 _ rfl) (hL 32 _ rfl) hG hl
                · skip
                  obtain rfl : a2 = 2 := Int32.le_antisymm g_a2_le_2 g_a2_ge_2
                  exact l11_14 S hr hlocks hst hX hbl hN hn hx1 hx2 hx3 hx4 (hL 0 _ rfl) (hL 6 _ rfl) (hL 33 _ rfl) (hL 35 _ rfl) (hL 36 _ rfl) (hL 37 _ rfl) (hL 38 _ rfl) (hL 3 _ rfl) (hL 4 _ rfl) (hL 11 _ rfl) (hL 34 _ rfl) (hL 40 _ rfl) (hL 41 _ rfl) (hL 42 _ rfl) (hL 43 _ rfl) hG hl
            · skip
              exact l11_15 g_a2_ge_3 S hr hlocks hst hX hbl hN hn hx1 hx2 hx3 hx4 (hL 0 _ rfl) (hL 6 _ rfl) (hL 4 _ rfl) hG hl
    · skip
      exact l11_16 g_a1_ge_3 S hr hlocks hst hX hbl hN hn hx1 hx2 hx3 hx4 (hL 0 _ rfl) (hL 4 _ rfl) hG hl
