theorem dX7_distanceByMatchings_0 : decode cX7_distanceByMatchings 0 = .ok (.aload_n 0, 1) := by decide +kernel
theorem dX7_distanceByMatchings_1 : decode cX7_distanceByMatchings 1 = .ok (.iload_n 1, 1) := by decide +kernel
set_option maxRecDepth 20000 in
theorem ggX7_distanceByMatchings_X7_treeAt : GoodIn wsX7_distanceByMatchings wsX7_treeAt := goodIn_ca (goodIn_r _ [9, 10, 11, 12, 51, 52, 53, 54, 55, 56, 57, 58, 59, 60] (by decide +kernel) (by decide +kernel)) (goodIn_sub (fun _ h => List.mem_cons_of_mem _ (List.mem_append_right _ h)) (by decide +kernel))
set_option maxRecDepth 20000 in
theorem gX7_distanceByMatchings_X7_treeAt : GoodIn wsX7_distanceByMatchings (wsV RX7 83 RX7 yX7_treeAt wsX7_treeAt) := goodIn_app (goodIn_of _ (by decide +kernel)) ggX7_distanceByMatchings_X7_treeAt
theorem dX7_distanceByMatchings_2 : decode cX7_distanceByMatchings 2 = .ok (.invokevirtual 83, 3) := by decide +kernel
theorem dL_distanceByMatchings_0 : decode cL_distanceByMatchings 0 = .ok (.aload_n 3, 1) := by decide +kernel
theorem dL_distanceByMatchings_1 : decode cL_distanceByMatchings 1 = .ok (.iconst 0, 1) := by decide +kernel
theorem dL_distanceByMatchings_2 : decode cL_distanceByMatchings 2 = .ok (.aload_n 0, 1) := by decide +kernel
theorem dL_distanceByMatchings_3 : decode cL_distanceByMatchings 3 = .ok (.iload_n 1, 1) := by decide +kernel
theorem dL_distanceByMatchings_4 : decode cL_distanceByMatchings 4 = .ok (.iload_n 2, 1) := by decide +kernel
set_option maxRecDepth 20000 in
theorem ggL_distanceByMatchings_X7_distanceByMatchings : GoodIn wsL_distanceByMatchings wsX7_distanceByMatchings := goodIn_ca (goodIn_ca (goodIn_r _ [7, 8, 9, 10, 11, 12, 13, 14, 6, 15, 16, 17, 18, 19, 20, 21, 22, 23, 24, 25, 26, 27, 28, 29, 30, 31, 32, 33, 34, 35, 36, 37, 38, 39, 40, 41, 42, 43, 44, 45, 46, 47, 48, 49, 50, 51, 52, 53, 54, 55, 56, 57, 58, 59, 60, 61, 62, 63, 64, 65, 66, 67, 68] (by decide +kernel) (by decide +kernel)) (goodIn_sub (fun _ h => List.mem_cons_of_mem _ (List.mem_append_left _ (List.mem_append_right _ h))) (by decide +kernel))) (goodIn_sub (fun _ h => List.mem_cons_of_mem _ (List.mem_append_right _ h)) (by decide +kernel))
set_option maxRecDepth 20000 in
theorem gL_distanceByMatchings_X7_distanceByMatchings : GoodIn wsL_distanceByMatchings (wsV RL 101 RX7 yX7_distanceByMatchings wsX7_distanceByMatchings) := goodIn_app (goodIn_of _ (by decide +kernel)) ggL_distanceByMatchings_X7_distanceByMatchings
theorem dL_distanceByMatchings_5 : decode cL_distanceByMatchings 5 = .ok (.invokevirtual 101, 3) := by decide +kernel
theorem dL_distanceByMatchings_13 : decode cL_distanceByMatchings 13 = .ok (.astore 4, 2) := by decide +kernel
theorem dL_distanceByMatchings_15 : decode cL_distanceByMatchings 15 = .ok (.iconst 1, 1) := by decide +kernel
theorem dL_distanceByMatchings_16 : decode cL_distanceByMatchings 16 = .ok (.ireturn, 1) := by decide +kernel
theorem dX10_distanceByMatchings_0 : decode cX10_distanceByMatchings 0 = .ok (.aload_n 0, 1) := by decide +kernel
theorem dX10_distanceByMatchings_1 : decode cX10_distanceByMatchings 1 = .ok (.iload_n 1, 1) := by decide +kernel
theorem dX10_distanceByMatchings_2 : decode cX10_distanceByMatchings 2 = .ok (.iload_n 2, 1) := by decide +kernel
set_option maxRecDepth 20000 in
theorem ggX10_distanceByMatchings_X10_areNone : GoodIn wsX10_distanceByMatchings wsX10_areNone := goodIn_r _ [6, 7, 8, 9, 5, 10, 11, 12, 13, 47, 48, 49, 50, 51, 52, 53, 54, 55, 56, 57, 58, 59, 60, 61, 62, 63, 64, 65, 66, 67, 68, 69, 70, 71, 72, 73, 74, 75, 76, 77] (by decide +kernel) (by decide +kernel)
set_option maxRecDepth 20000 in
theorem gX10_distanceByMatchings_X10_areNone : GoodIn wsX10_distanceByMatchings (wsV RX10 217 RX10 yX10_areNone wsX10_areNone) := goodIn_app (goodIn_of _ (by decide +kernel)) ggX10_distanceByMatchings_X10_areNone
theorem dX10_distanceByMatchings_3 : decode cX10_distanceByMatchings 3 = .ok (.invokevirtual 217, 3) := by decide +kernel
theorem dX10_distanceByMatchings_6 : decode cX10_distanceByMatchings 6 = .ok (.ifCond .eq 5, 3) := by decide +kernel
theorem dX10_distanceByMatchings_9 : decode cX10_distanceByMatchings 9 = .ok (.iconst 0, 1) := by decide +kernel
theorem dX10_distanceByMatchings_10 : decode cX10_distanceByMatchings 10 = .ok (.ireturn, 1) := by decide +kernel
theorem dX7_distanceByMatchings_5 : decode cX7_distanceByMatchings 5 = .ok (.astore_n 3, 1) := by decide +kernel
theorem dX7_distanceByMatchings_6 : decode cX7_distanceByMatchings 6 = .ok (.aload_n 0, 1) := by decide +kernel
theorem dX7_distanceByMatchings_7 : decode cX7_distanceByMatchings 7 = .ok (.iload_n 2, 1) := by decide +kernel
theorem dX7_distanceByMatchings_8 : decode cX7_distanceByMatchings 8 = .ok (.invokevirtual 83, 3) := by decide +kernel
theorem dX6_costOfTried_0 : decode cX6_costOfTried 0 = .ok (.iconst 2, 1) := by decide +kernel
theorem dX6_costOfTried_1 : decode cX6_costOfTried 1 = .ok (.aload_n 1, 1) := by decide +kernel
theorem dX6_costOfTried_2 : decode cX6_costOfTried 2 = .ok (.getfield 15, 3) := by decide +kernel
theorem dX6_costOfTried_5 : decode cX6_costOfTried 5 = .ok (.aload_n 2, 1) := by decide +kernel
theorem dX6_costOfTried_6 : decode cX6_costOfTried 6 = .ok (.getfield 15, 3) := by decide +kernel
theorem dX6_costOfTried_9 : decode cX6_costOfTried 9 = .ok (.iadd, 1) := by decide +kernel
theorem dX6_costOfTried_10 : decode cX6_costOfTried 10 = .ok (.imul, 1) := by decide +kernel
theorem dX6_costOfTried_11 : decode cX6_costOfTried 11 = .ok (.istore_n 3, 1) := by decide +kernel
theorem dX6_costOfTried_12 : decode cX6_costOfTried 12 = .ok (.iconst 0, 1) := by decide +kernel
theorem dX6_costOfTried_13 : decode cX6_costOfTried 13 = .ok (.istore 4, 2) := by decide +kernel
theorem dX6_costOfTried_15 : decode cX6_costOfTried 15 = .ok (.iload 4, 2) := by decide +kernel
theorem dX6_costOfTried_17 : decode cX6_costOfTried 17 = .ok (.aload_n 1, 1) := by decide +kernel
theorem dX6_costOfTried_18 : decode cX6_costOfTried 18 = .ok (.getfield 15, 3) := by decide +kernel
theorem dX6_costOfTried_21 : decode cX6_costOfTried 21 = .ok (.if_icmp .ge 45, 3) := by decide +kernel
theorem dX6_costOfTried_24 : decode cX6_costOfTried 24 = .ok (.iload 4, 2) := by decide +kernel
theorem dX6_costOfTried_26 : decode cX6_costOfTried 26 = .ok (.bipush 7, 2) := by decide +kernel
theorem dX6_costOfTried_28 : decode cX6_costOfTried 28 = .ok (.if_icmp .ge 38, 3) := by decide +kernel
theorem dX6_costOfTried_31 : decode cX6_costOfTried 31 = .ok (.aload_n 0, 1) := by decide +kernel
theorem dX6_costOfTried_32 : decode cX6_costOfTried 32 = .ok (.getfield 9, 3) := by decide +kernel
theorem dX6_costOfTried_35 : decode cX6_costOfTried 35 = .ok (.iload 4, 2) := by decide +kernel
theorem dX6_costOfTried_37 : decode cX6_costOfTried 37 = .ok (.iaload, 1) := by decide +kernel
theorem dX6_costOfTried_38 : decode cX6_costOfTried 38 = .ok (.istore 5, 2) := by decide +kernel
theorem dX6_costOfTried_40 : decode cX6_costOfTried 40 = .ok (.iload 5, 2) := by decide +kernel
theorem dX6_costOfTried_42 : decode cX6_costOfTried 42 = .ok (.iconst (-1), 1) := by decide +kernel
theorem dX6_costOfTried_43 : decode cX6_costOfTried 43 = .ok (.if_icmp .eq 17, 3) := by decide +kernel
theorem dX6_costOfTried_46 : decode cX6_costOfTried 46 = .ok (.iload_n 3, 1) := by decide +kernel
theorem dX6_costOfTried_47 : decode cX6_costOfTried 47 = .ok (.aload_n 1, 1) := by decide +kernel
theorem dX6_costOfTried_48 : decode cX6_costOfTried 48 = .ok (.iload 4, 2) := by decide +kernel
theorem dX6_costOfTried_50 : decode cX6_costOfTried 50 = .ok (.aload_n 2, 1) := by decide +kernel
theorem dX6_costOfTried_51 : decode cX6_costOfTried 51 = .ok (.iload 5, 2) := by decide +kernel
set_option maxRecDepth 20000 in
theorem ggX6_costOfTried_X7_changeCost : GoodIn wsX6_costOfTried wsX7_changeCost := goodIn_r _ [5, 6, 7, 8, 9, 10, 11, 12, 13, 14] (by decide +kernel) (by decide +kernel)
set_option maxRecDepth 20000 in
theorem gX6_costOfTried_X7_changeCost_n52 : GoodIn wsX6_costOfTried (wsX7_changeCost) := ggX6_costOfTried_X7_changeCost
theorem dX6_costOfTried_53 : decode cX6_costOfTried 53 = .ok (.invokestatic 52, 3) := by decide +kernel
theorem dX6_costOfTried_56 : decode cX6_costOfTried 56 = .ok (.iconst 4, 1) := by decide +kernel
theorem dX6_costOfTried_57 : decode cX6_costOfTried 57 = .ok (.isub, 1) := by decide +kernel
theorem dX6_costOfTried_58 : decode cX6_costOfTried 58 = .ok (.iadd, 1) := by decide +kernel
theorem dX6_costOfTried_59 : decode cX6_costOfTried 59 = .ok (.istore_n 3, 1) := by decide +kernel
theorem dX6_costOfTried_60 : decode cX6_costOfTried 60 = .ok (.iinc 4 1, 3) := by decide +kernel
theorem dX6_costOfTried_63 : decode cX6_costOfTried 63 = .ok (.goto (-48), 3) := by decide +kernel
theorem dX6_costOfTried_66 : decode cX6_costOfTried 66 = .ok (.iload_n 3, 1) := by decide +kernel
theorem dX6_costOfTried_67 : decode cX6_costOfTried 67 = .ok (.ireturn, 1) := by decide +kernel
theorem dX6_tryFrom_0 : decode cX6_tryFrom 0 = .ok (.iload_n 3, 1) := by decide +kernel
theorem dX6_tryFrom_1 : decode cX6_tryFrom 1 = .ok (.iconst 1, 1) := by decide +kernel
theorem dX6_tryFrom_2 : decode cX6_tryFrom 2 = .ok (.if_icmp .lt 17, 3) := by decide +kernel
theorem dX6_tryFrom_5 : decode cX6_tryFrom 5 = .ok (.iload_n 3, 1) := by decide +kernel
theorem dX6_tryFrom_6 : decode cX6_tryFrom 6 = .ok (.bipush 7, 2) := by decide +kernel
theorem dX6_tryFrom_8 : decode cX6_tryFrom 8 = .ok (.if_icmp .ge 11, 3) := by decide +kernel
theorem dX6_tryFrom_11 : decode cX6_tryFrom 11 = .ok (.iload_n 3, 1) := by decide +kernel
theorem dX6_tryFrom_12 : decode cX6_tryFrom 12 = .ok (.aload_n 1, 1) := by decide +kernel
theorem dX6_tryFrom_13 : decode cX6_tryFrom 13 = .ok (.getfield 15, 3) := by decide +kernel
theorem dX6_tryFrom_16 : decode cX6_tryFrom 16 = .ok (.if_icmp .lt 21, 3) := by decide +kernel
theorem dX6_tryFrom_19 : decode cX6_tryFrom 19 = .ok (.aload_n 0, 1) := by decide +kernel
theorem dX6_tryFrom_20 : decode cX6_tryFrom 20 = .ok (.aload_n 0, 1) := by decide +kernel
theorem dX6_tryFrom_21 : decode cX6_tryFrom 21 = .ok (.getfield 21, 3) := by decide +kernel
theorem dX6_tryFrom_24 : decode cX6_tryFrom 24 = .ok (.aload_n 0, 1) := by decide +kernel
theorem dX6_tryFrom_25 : decode cX6_tryFrom 25 = .ok (.aload_n 1, 1) := by decide +kernel
theorem dX6_tryFrom_26 : decode cX6_tryFrom 26 = .ok (.aload_n 2, 1) := by decide +kernel
set_option maxRecDepth 20000 in
theorem ggX6_tryFrom_X6_costOfTried : GoodIn wsX6_tryFrom wsX6_costOfTried := goodIn_r _ [12, 1, 7, 13, 14, 15, 16, 17, 28, 29, 30, 31, 32, 33, 34, 35, 36] (by decide +kernel) (by decide +kernel)
set_option maxRecDepth 20000 in
theorem gX6_tryFrom_X6_costOfTried : GoodIn wsX6_tryFrom (wsV RX6 28 RX6 yX6_costOfTried wsX6_costOfTried) := goodIn_app (goodIn_of _ (by decide +kernel)) ggX6_tryFrom_X6_costOfTried
theorem dX6_tryFrom_27 : decode cX6_tryFrom 27 = .ok (.invokevirtual 28, 3) := by decide +kernel
theorem dX6_tryFrom_30 : decode cX6_tryFrom 30 = .ok (.invokestatic 32, 3) := by decide +kernel
theorem dX6_tryFrom_33 : decode cX6_tryFrom 33 = .ok (.putfield 21, 3) := by decide +kernel
theorem dX6_tryFrom_36 : decode cX6_tryFrom 36 = .ok (.return_, 1) := by decide +kernel
theorem dX6_leastCost_0 : decode cX6_leastCost 0 = .ok (.aload_n 0, 1) := by decide +kernel
theorem dX6_leastCost_1 : decode cX6_leastCost 1 = .ok (.getfield 9, 3) := by decide +kernel
theorem dX6_leastCost_4 : decode cX6_leastCost 4 = .ok (.iconst 0, 1) := by decide +kernel
theorem dX6_leastCost_5 : decode cX6_leastCost 5 = .ok (.iconst 0, 1) := by decide +kernel
theorem dX6_leastCost_6 : decode cX6_leastCost 6 = .ok (.iastore, 1) := by decide +kernel
theorem dX6_leastCost_7 : decode cX6_leastCost 7 = .ok (.aload_n 0, 1) := by decide +kernel
theorem dX6_leastCost_8 : decode cX6_leastCost 8 = .ok (.iconst 2, 1) := by decide +kernel
theorem dX6_leastCost_9 : decode cX6_leastCost 9 = .ok (.aload_n 1, 1) := by decide +kernel
theorem dX6_leastCost_10 : decode cX6_leastCost 10 = .ok (.getfield 15, 3) := by decide +kernel
theorem dX6_leastCost_13 : decode cX6_leastCost 13 = .ok (.aload_n 2, 1) := by decide +kernel
theorem dX6_leastCost_14 : decode cX6_leastCost 14 = .ok (.getfield 15, 3) := by decide +kernel
theorem dX6_leastCost_17 : decode cX6_leastCost 17 = .ok (.iadd, 1) := by decide +kernel
theorem dX6_leastCost_18 : decode cX6_leastCost 18 = .ok (.imul, 1) := by decide +kernel
theorem dX6_leastCost_19 : decode cX6_leastCost 19 = .ok (.putfield 21, 3) := by decide +kernel
theorem dX6_leastCost_22 : decode cX6_leastCost 22 = .ok (.aload_n 0, 1) := by decide +kernel
theorem dX6_leastCost_23 : decode cX6_leastCost 23 = .ok (.aload_n 1, 1) := by decide +kernel
theorem dX6_leastCost_24 : decode cX6_leastCost 24 = .ok (.aload_n 2, 1) := by decide +kernel
theorem dX6_leastCost_25 : decode cX6_leastCost 25 = .ok (.iconst 1, 1) := by decide +kernel
set_option maxRecDepth 20000 in
theorem ggX6_leastCost_X6_tryFrom : GoodIn wsX6_leastCost wsX6_tryFrom := goodIn_r _ [7, 2, 3, 8, 9, 10, 11, 1, 12, 13, 14, 6, 15, 16, 17, 18, 19, 20, 4, 5, 21, 22, 23, 24, 25, 26, 27, 28, 31, 32, 33, 34, 35, 36, 37, 29, 30] (by decide +kernel) (by decide +kernel)
set_option maxRecDepth 20000 in
theorem gX6_leastCost_X6_tryFrom : GoodIn wsX6_leastCost (va_wsS RX6 24 yX6_tryFrom wsX6_tryFrom) := goodIn_app (goodIn_of _ (by decide +kernel)) ggX6_leastCost_X6_tryFrom
theorem dX6_leastCost_26 : decode cX6_leastCost 26 = .ok (.invokestatic 24, 3) := by decide +kernel
theorem dX6_leastCost_29 : decode cX6_leastCost 29 = .ok (.aload_n 0, 1) := by decide +kernel
theorem dX6_leastCost_30 : decode cX6_leastCost 30 = .ok (.getfield 21, 3) := by decide +kernel
theorem dX6_leastCost_33 : decode cX6_leastCost 33 = .ok (.ireturn, 1) := by decide +kernel
theorem dX7_distanceByMatchings_11 : decode cX7_distanceByMatchings 11 = .ok (.astore 4, 2) := by decide +kernel
theorem dX7_distanceByMatchings_13 : decode cX7_distanceByMatchings 13 = .ok (.aload_n 3, 1) := by decide +kernel
theorem dX7_distanceByMatchings_14 : decode cX7_distanceByMatchings 14 = .ok (.getfield 107, 3) := by decide +kernel
theorem dX7_distanceByMatchings_17 : decode cX7_distanceByMatchings 17 = .ok (.bipush 7, 2) := by decide +kernel
theorem dX7_distanceByMatchings_19 : decode cX7_distanceByMatchings 19 = .ok (.if_icmp .gt 13, 3) := by decide +kernel
theorem dX7_distanceByMatchings_22 : decode cX7_distanceByMatchings 22 = .ok (.aload 4, 2) := by decide +kernel
theorem dX7_distanceByMatchings_24 : decode cX7_distanceByMatchings 24 = .ok (.getfield 107, 3) := by decide +kernel
theorem dX7_distanceByMatchings_27 : decode cX7_distanceByMatchings 27 = .ok (.bipush 7, 2) := by decide +kernel
theorem dX7_distanceByMatchings_29 : decode cX7_distanceByMatchings 29 = .ok (.if_icmp .le 13, 3) := by decide +kernel
theorem dX7_distanceByMatchings_42 : decode cX7_distanceByMatchings 42 = .ok (.aload_n 0, 1) := by decide +kernel
theorem dX7_distanceByMatchings_43 : decode cX7_distanceByMatchings 43 = .ok (.getfield 39, 3) := by decide +kernel
theorem dX7_distanceByMatchings_46 : decode cX7_distanceByMatchings 46 = .ok (.aload_n 3, 1) := by decide +kernel
theorem dX7_distanceByMatchings_47 : decode cX7_distanceByMatchings 47 = .ok (.aload 4, 2) := by decide +kernel
set_option maxRecDepth 20000 in
theorem ggX7_distanceByMatchings_X6_leastCost : GoodIn wsX7_distanceByMatchings wsX6_leastCost := goodIn_r _ [17, 18, 19, 20, 21, 22, 16, 23, 24, 25, 26, 27, 28, 29, 30, 31, 32, 8, 33, 34, 35, 36, 37, 38, 39, 40, 41, 42, 43, 61, 62, 44, 45, 46, 47, 48, 49, 50] (by decide +kernel) (by decide +kernel)
set_option maxRecDepth 20000 in
theorem gX7_distanceByMatchings_X6_leastCost : GoodIn wsX7_distanceByMatchings (wsV RX7 241 RX6 yX6_leastCost wsX6_leastCost) := goodIn_app (goodIn_of _ (by decide +kernel)) ggX7_distanceByMatchings_X6_leastCost
theorem dX7_distanceByMatchings_49 : decode cX7_distanceByMatchings 49 = .ok (.invokevirtual 241, 3) := by decide +kernel
theorem dX7_distanceByMatchings_52 : decode cX7_distanceByMatchings 52 = .ok (.ireturn, 1) := by decide +kernel
theorem dL_distanceByMatchings_8 : decode cL_distanceByMatchings 8 = .ok (.i2l, 1) := by decide +kernel
theorem dL_distanceByMatchings_9 : decode cL_distanceByMatchings 9 = .ok (.lastore, 1) := by decide +kernel
theorem dL_distanceByMatchings_10 : decode cL_distanceByMatchings 10 = .ok (.goto 11, 3) := by decide +kernel
theorem dL_distanceByMatchings_21 : decode cL_distanceByMatchings 21 = .ok (.iconst 0, 1) := by decide +kernel
theorem dL_distanceByMatchings_22 : decode cL_distanceByMatchings 22 = .ok (.ireturn, 1) := by decide +kernel
theorem dX10_distanceByMatchings_11 : decode cX10_distanceByMatchings 11 = .ok (.aload_n 0, 1) := by decide +kernel
theorem dX10_distanceByMatchings_12 : decode cX10_distanceByMatchings 12 = .ok (.getfield 27, 3) := by decide +kernel
theorem dX10_distanceByMatchings_15 : decode cX10_distanceByMatchings 15 = .ok (.iload_n 1, 1) := by decide +kernel
theorem dX10_distanceByMatchings_16 : decode cX10_distanceByMatchings 16 = .ok (.aaload, 1) := by decide +kernel
theorem dX10_distanceByMatchings_17 : decode cX10_distanceByMatchings 17 = .ok (.getfield 116, 3) := by decide +kernel
theorem dX10_distanceByMatchings_20 : decode cX10_distanceByMatchings 20 = .ok (.bipush 7, 2) := by decide +kernel
theorem dX10_distanceByMatchings_22 : decode cX10_distanceByMatchings 22 = .ok (.if_icmp .gt 17, 3) := by decide +kernel
theorem dX10_distanceByMatchings_25 : decode cX10_distanceByMatchings 25 = .ok (.aload_n 0, 1) := by decide +kernel
theorem dX10_distanceByMatchings_26 : decode cX10_distanceByMatchings 26 = .ok (.getfield 27, 3) := by decide +kernel
theorem dX10_distanceByMatchings_29 : decode cX10_distanceByMatchings 29 = .ok (.iload_n 2, 1) := by decide +kernel
theorem dX10_distanceByMatchings_30 : decode cX10_distanceByMatchings 30 = .ok (.aaload, 1) := by decide +kernel
theorem dX10_distanceByMatchings_31 : decode cX10_distanceByMatchings 31 = .ok (.getfield 116, 3) := by decide +kernel
theorem dX10_distanceByMatchings_34 : decode cX10_distanceByMatchings 34 = .ok (.bipush 7, 2) := by decide +kernel
theorem dX10_distanceByMatchings_36 : decode cX10_distanceByMatchings 36 = .ok (.if_icmp .le 11, 3) := by decide +kernel
theorem dX10_distanceByMatchings_47 : decode cX10_distanceByMatchings 47 = .ok (.aload_n 0, 1) := by decide +kernel
theorem dX10_distanceByMatchings_48 : decode cX10_distanceByMatchings 48 = .ok (.aload_n 0, 1) := by decide +kernel
theorem dX10_distanceByMatchings_49 : decode cX10_distanceByMatchings 49 = .ok (.getfield 27, 3) := by decide +kernel
theorem dX10_distanceByMatchings_52 : decode cX10_distanceByMatchings 52 = .ok (.iload_n 1, 1) := by decide +kernel
theorem dX10_distanceByMatchings_53 : decode cX10_distanceByMatchings 53 = .ok (.aaload, 1) := by decide +kernel
theorem dX10_distanceByMatchings_54 : decode cX10_distanceByMatchings 54 = .ok (.aload_n 0, 1) := by decide +kernel
theorem dX10_distanceByMatchings_55 : decode cX10_distanceByMatchings 55 = .ok (.getfield 27, 3) := by decide +kernel
theorem dX10_distanceByMatchings_58 : decode cX10_distanceByMatchings 58 = .ok (.iload_n 2, 1) := by decide +kernel
theorem dX10_distanceByMatchings_59 : decode cX10_distanceByMatchings 59 = .ok (.aaload, 1) := by decide +kernel
set_option maxRecDepth 20000 in
theorem ggX10_distanceByMatchings_X10_fills : GoodIn wsX10_distanceByMatchings wsX10_fills := goodIn_r _ [21, 22, 23, 24, 25, 26, 27, 28, 29, 30, 31, 32, 33, 34, 35, 36, 5, 37, 38, 39, 40, 41, 42, 43, 44, 45, 46, 78, 79, 80, 81, 82, 47, 48, 49, 50, 51, 52, 53, 54, 55, 56, 57, 58, 59, 60, 61, 62, 63, 64, 65, 66, 67, 68, 69, 70, 71, 72, 73, 74, 75, 76, 77] (by decide +kernel) (by decide +kernel)
set_option maxRecDepth 20000 in
theorem gX10_distanceByMatchings_X10_fills : GoodIn wsX10_distanceByMatchings (wsV RX10 253 RX10 yX10_fills wsX10_fills) := goodIn_app (goodIn_of _ (by decide +kernel)) ggX10_distanceByMatchings_X10_fills
theorem dX10_distanceByMatchings_60 : decode cX10_distanceByMatchings 60 = .ok (.invokevirtual 253, 3) := by decide +kernel
theorem dX10_distanceByMatchings_63 : decode cX10_distanceByMatchings 63 = .ok (.ireturn, 1) := by decide +kernel
theorem dL_law_1861 : decode cL_law 1861 = .ok (.aload_n 1, 1) := by decide +kernel
theorem dL_law_1862 : decode cL_law 1862 = .ok (.aload_n 0, 1) := by decide +kernel
theorem dL_law_1863 : decode cL_law 1863 = .ok (.iload 5, 2) := by decide +kernel
theorem dL_law_1865 : decode cL_law 1865 = .ok (.iconst 1, 1) := by decide +kernel
theorem dL_law_1866 : decode cL_law 1866 = .ok (.iadd, 1) := by decide +kernel
theorem dL_law_1867 : decode cL_law 1867 = .ok (.iaload, 1) := by decide +kernel
theorem dL_law_1868 : decode cL_law 1868 = .ok (.aload_n 0, 1) := by decide +kernel
theorem dL_law_1869 : decode cL_law 1869 = .ok (.iload 5, 2) := by decide +kernel
theorem dL_law_1871 : decode cL_law 1871 = .ok (.iconst 2, 1) := by decide +kernel
theorem dL_law_1872 : decode cL_law 1872 = .ok (.iadd, 1) := by decide +kernel
theorem dL_law_1873 : decode cL_law 1873 = .ok (.iaload, 1) := by decide +kernel
theorem dL_law_1874 : decode cL_law 1874 = .ok (.aload_n 3, 1) := by decide +kernel
set_option maxRecDepth 20000 in
theorem ggL_law_L_distanceByMatchings : GoodIn wsL_law wsL_distanceByMatchings := goodIn_ca (goodIn_ca (goodIn_r _ [991, 185, 699, 992, 993, 994, 2, 995, 704, 705, 195, 31, 196, 197, 198, 199, 200, 201, 15, 996, 997, 998, 30, 999, 83, 1000, 1001, 1002, 1003, 1004, 1005, 417, 400, 418, 1006, 1007, 1008, 1009, 973, 974, 721, 754, 1010, 1011, 1012, 1013, 1014, 1015, 243, 244, 1530, 1531, 1532, 1533, 1534, 1535, 1536, 1458, 1459, 1460, 1461, 1462, 1463, 1464, 1465, 1466, 1467, 1515, 1516] (by decide +kernel) (by decide +kernel)) (goodIn_sub (fun _ h => List.mem_append_right _ h) (by decide +kernel))) (goodIn_sub (fun _ h => List.mem_append_left _ (List.mem_append_left _ (List.mem_append_right _ h))) (by decide +kernel))
set_option maxRecDepth 20000 in
theorem gL_law_L_distanceByMatchings : GoodIn wsL_law (va_wsS RL 235 yL_distanceByMatchings wsL_distanceByMatchings) := goodIn_app (goodIn_of _ (by decide +kernel)) ggL_law_L_distanceByMatchings
theorem dL_law_1875 : decode cL_law 1875 = .ok (.invokestatic 235, 3) := by decide +kernel
theorem dL_law_1878 : decode cL_law 1878 = .ok (.istore 6, 2) := by decide +kernel
theorem dL_law_1880 : decode cL_law 1880 = .ok (.aload_n 2, 1) := by decide +kernel
theorem dL_law_1881 : decode cL_law 1881 = .ok (.aload_n 0, 1) := by decide +kernel
theorem dL_law_1882 : decode cL_law 1882 = .ok (.iload 5, 2) := by decide +kernel
theorem dL_law_1884 : decode cL_law 1884 = .ok (.iconst 1, 1) := by decide +kernel
theorem dL_law_1885 : decode cL_law 1885 = .ok (.iadd, 1) := by decide +kernel
theorem dL_law_1886 : decode cL_law 1886 = .ok (.iaload, 1) := by decide +kernel
theorem dL_law_1887 : decode cL_law 1887 = .ok (.aload_n 0, 1) := by decide +kernel
theorem dL_law_1888 : decode cL_law 1888 = .ok (.iload 5, 2) := by decide +kernel
theorem dL_law_1890 : decode cL_law 1890 = .ok (.iconst 2, 1) := by decide +kernel
theorem dL_law_1891 : decode cL_law 1891 = .ok (.iadd, 1) := by decide +kernel
theorem dL_law_1892 : decode cL_law 1892 = .ok (.iaload, 1) := by decide +kernel
set_option maxRecDepth 20000 in
theorem ggL_law_X10_distanceByMatchings : GoodIn wsL_law wsX10_distanceByMatchings := goodIn_r _ [1019, 114, 773, 774, 775, 5, 776, 172, 259, 260, 261, 262, 263, 264, 174, 175, 176, 177, 979, 980, 981, 982, 120, 510, 113, 511, 512, 57, 146, 142, 513, 507, 508, 509, 983, 984, 985, 986, 119, 987, 988, 417, 400, 418, 690, 691, 692, 1468, 1469, 1470, 1471, 1472, 1473, 1474, 1475, 1476, 1477, 1478, 1479, 1480, 1481, 1482, 1483, 1484, 1485, 1486, 1487, 1488, 1489, 1490, 1491, 1492, 1493, 1494, 1495, 1496, 1497, 1498, 1537, 1538, 1539, 1540, 1541] (by decide +kernel) (by decide +kernel)
set_option maxRecDepth 20000 in
theorem gL_law_X10_distanceByMatchings : GoodIn wsL_law (wsV RL 237 RX10 yX10_distanceByMatchings wsX10_distanceByMatchings) := goodIn_app (goodIn_of _ (by decide +kernel)) ggL_law_X10_distanceByMatchings
theorem dL_law_1893 : decode cL_law 1893 = .ok (.invokevirtual 237, 3) := by decide +kernel
theorem dL_law_1896 : decode cL_law 1896 = .ok (.istore 7, 2) := by decide +kernel
theorem dL_law_1898 : decode cL_law 1898 = .ok (.aload_n 2, 1) := by decide +kernel
theorem dL_law_1899 : decode cL_law 1899 = .ok (.invokevirtual 156, 3) := by decide +kernel
theorem dL_law_1902 : decode cL_law 1902 = .ok (.iload 6, 2) := by decide +kernel
theorem dL_law_1904 : decode cL_law 1904 = .ok (.if_icmp .eq 5, 3) := by decide +kernel
theorem dL_law_1909 : decode cL_law 1909 = .ok (.iload 6, 2) := by decide +kernel
theorem dL_law_1911 : decode cL_law 1911 = .ok (.ifCond .ne 15, 3) := by decide +kernel
theorem dL_law_1926 : decode cL_law 1926 = .ok (.goto 724, 3) := by decide +kernel
theorem dL_law_1914 : decode cL_law 1914 = .ok (.aload_n 3, 1) := by decide +kernel
theorem dL_law_1915 : decode cL_law 1915 = .ok (.iconst 0, 1) := by decide +kernel
theorem dL_law_1916 : decode cL_law 1916 = .ok (.laload, 1) := by decide +kernel
theorem dL_law_1917 : decode cL_law 1917 = .ok (.iload 7, 2) := by decide +kernel
theorem dL_law_1919 : decode cL_law 1919 = .ok (.i2l, 1) := by decide +kernel
theorem dL_law_1920 : decode cL_law 1920 = .ok (.lcmp, 1) := by decide +kernel
theorem dL_law_1921 : decode cL_law 1921 = .ok (.ifCond .eq 5, 3) := by decide +kernel
variable {l : Launch} {N0 : Nat} {D : va_G} {cI cC cL cD cII cTr cTm cIt cB : ClassId} {F : Nat → Option va_E} {ql : Nat → Nat}
theorem k1293_X7_distanceByMatchings {n : Nat} {a1 : Int32} {a2 : Int32} (g_a1_le_m1 : a1 ≤ (-1)) (hst : l.stackTraces = false) (hn : N0 + 231 ≤ n) (h0 : F N0 = some (.inr (9, [.ref (N0 + 1), .ref (N0 + 2), .ref (N0 + 11), .ref (N0 + 13), .ref (N0 + 63), .ref (N0 + 65), .ref (N0 + 85), .int (-1), .int (-1), .int 32]))) : vx_Met l yX7_distanceByMatchings wsX7_distanceByMatchings ({ frames := 7, cells := 1, slots := 6, locals := 103 }) (va_Pc [.ref N0, .int a1, .int a2] (fP N0 D vwCl (fty cI cC cL cD cII cTr cTm cIt cB) (fen ql) F n)) (fNo N0 D vwCl (fty cI cC cL cD cII cTr cTm cIt cB) F n) (fXC N0 D vwCl (fty cI cC cL cD cII cTr cTm cIt cB) "java/lang/IndexOutOfBoundsException" F n) 1 6 (fA N0) := by
  refine fx_startX 5 rfl rfl (Nat.le_of_ble_eq_true rfl) ?_ rfl
  intro p e s m below meth c ls S htab hlocks hG hl
  have hl : lv_has ls 5 [(0, .ref N0), (1, .int a1), (2, .int a2)] := hl
  have lt_h0 := hG.1.lt h0
  refine lv_aload_n S.1 S.2.1 dX7_distanceByMatchings_0 rfl (lv_at hl 0 rfl) ?_
  refine lv_iload_n S.1 S.2.1 dX7_distanceByMatchings_1 rfl (lv_at hl 1 rfl) ?_
  refine fx_xV (As := [.int a1]) (rest := []) S hG (k18_X7_treeAt g_a1_le_m1 hst (by omega)) h0 rfl (cwV 1 S.2.2.2.2 gX7_distanceByMatchings_X7_treeAt rfl rfl rfl (by decide +kernel) ⟨Nat.le_of_ble_eq_true rfl, Nat.le_of_ble_eq_true rfl⟩) rfl hl.1 rfl (Nat.le_of_ble_eq_true rfl) dX7_distanceByMatchings_2 ⟨Nat.le_of_ble_eq_true rfl, Nat.le_of_ble_eq_true rfl⟩ (fun ceq_1 q_1 H locs n_2 hn_2 hG h1q_1 h2q_1 h3q_1 => ?_)
  exact fx_out htab hlocks hG (by omega) h1q_1 h2q_1 h3q_1 (by decide) (by decide)
theorem k1294_L_distanceByMatchings {n : Nat} {a1 : Int32} {a2 : Int32} (g_a1_le_m1 : a1 ≤ (-1)) (hst : l.stackTraces = false) (hn : N0 + 231 ≤ n) (h0 : F N0 = some (.inr (9, [.ref (N0 + 1), .ref (N0 + 2), .ref (N0 + 11), .ref (N0 + 13), .ref (N0 + 63), .ref (N0 + 65), .ref (N0 + 85), .int (-1), .int (-1), .int 32]))) : Met l yL_distanceByMatchings wsL_distanceByMatchings ({ frames := 8, cells := 1, slots := 6, locals := 127 }) (va_Pc [.ref N0, .int a1, .int a2, .ref (N0 + 229)] (fP N0 D vwCl (fty cI cC cL cD cII cTr cTm cIt cB) (fen ql) F n)) (fQi N0 D vwCl (fty cI cC cL cD cII cTr cTm cIt cB) (fun (r : Int32) (u : Nat) => r = 1 ∧ n ≤ u) (fun _ => F) (fun u => u)) 1 6 (fA N0) := by
  refine fx_startW (hh := [(0, 10, 13, 19), (0, 10, 17, 47)]) 5 rfl rfl (Nat.le_of_ble_eq_true rfl) ?_ rfl
  intro p e s m below meth c ls S htab hr hlocks hG hl
  have hl : lv_has ls 5 [(0, .ref N0), (1, .int a1), (2, .int a2), (3, .ref (N0 + 229))] := hl
  have lt_h0 := hG.1.lt h0
  refine lv_aload_n S.1 S.2.1 dL_distanceByMatchings_0 rfl (lv_at hl 3 rfl) ?_
  refine lv_iconst (v := 0) S.1 S.2.1 dL_distanceByMatchings_1 (by decide) ?_
  refine lv_aload_n S.1 S.2.1 dL_distanceByMatchings_2 rfl (lv_at hl 0 rfl) ?_
  refine lv_iload_n S.1 S.2.1 dL_distanceByMatchings_3 rfl (lv_at hl 1 rfl) ?_
  refine lv_iload_n S.1 S.2.1 dL_distanceByMatchings_4 rfl (lv_at hl 2 rfl) ?_
  refine fx_xV (As := [.int a1, .int a2]) (rest := [.int 0, .ref (N0 + 229)]) S hG (k1293_X7_distanceByMatchings g_a1_le_m1 hst (by omega) h0) h0 rfl (cwV 2 S.2.2.2.2 gL_distanceByMatchings_X7_distanceByMatchings rfl rfl rfl (by decide +kernel) ⟨Nat.le_of_ble_eq_true rfl, Nat.le_of_ble_eq_true rfl⟩) rfl hl.1 rfl (Nat.le_of_ble_eq_true rfl) dL_distanceByMatchings_5 ⟨Nat.le_of_ble_eq_true rfl, Nat.le_of_ble_eq_true rfl⟩ (fun ceq_1 q_1 H locs n_2 hn_2 hG h1q_1 h2q_1 h3q_1 => ?_)
  refine fx_catch (hh := [(0, 10, 13, 19), (0, 10, 17, 47)]) S htab hG h1q_1 h2q_1 h3q_1 [] ⟨0, 10, 13, 19⟩ [⟨0, 10, 17, 47⟩] rfl [] (fun z hz => absurd hz List.not_mem_nil) (by decide) (by decide) (by decide +kernel) (List.mem_of_getElem? (i := 2) rfl) ?_
  refine lv_astore (lv' := [(4, .ref q_1), (0, .ref N0), (1, .int a1), (2, .int a2), (3, .ref (N0 + 229))]) S.1 S.2.1 dL_distanceByMatchings_13 hl (by decide) rfl (fun ls hl => ?_)
  refine lv_iconst (v := 1) S.1 S.2.1 dL_distanceByMatchings_15 (by decide) ?_
  exact fx_iret S hr hlocks n_2 hG (⟨rfl, hn_2⟩) dL_distanceByMatchings_16
theorem k1295_X10_distanceByMatchings {n : Nat} {a1 : Int32} {a2 : Int32} (g_a1_le_m1 : a1 ≤ (-1)) (hn : N0 + 231 ≤ n) (h0 : F (N0 + 164) = some (.inr (12, [.ref (N0 + 165), .int 0, .ref (N0 + 181), .int 0, .int 0, .int 0, .int (-1), .ref (ql 24), .ref (N0 + 182), .ref (N0 + 187), .ref (N0 + 208), .ref (N0 + 209), .ref (N0 + 210), .ref (N0 + 211), .ref (N0 + 212), .int 0, .ref (N0 + 213), .ref (N0 + 218), .ref (N0 + 223), .ref (N0 + 224), .ref (N0 + 225), .ref (N0 + 226), .ref (N0 + 227), .int 0, .int 0, .ref (N0 + 228), .null, .int (-1), .int 0, .int 0, .int 0]))) : Met l yX10_distanceByMatchings wsX10_distanceByMatchings ({ frames := 3, cells := 0, slots := 0, locals := 64 }) (va_Pc [.ref (N0 + 164), .int a1, .int a2] (fP N0 D vwCl (fty cI cC cL cD cII cTr cTm cIt cB) (fen ql) F n)) (fQi N0 D vwCl (fty cI cC cL cD cII cTr cTm cIt cB) (fun (r : Int32) (_ : Unit) => r = 0) (fun _ => (fu F (N0 + 164) (.inr (12, [.ref (N0 + 165), .int 1, .ref (N0 + 181), .int 0, .int 0, .int 0, .int (-1), .ref (ql 24), .ref (N0 + 182), .ref (N0 + 187), .ref (N0 + 208), .ref (N0 + 209), .ref (N0 + 210), .ref (N0 + 211), .ref (N0 + 212), .int 0, .ref (N0 + 213), .ref (N0 + 218), .ref (N0 + 223), .ref (N0 + 224), .ref (N0 + 225), .ref (N0 + 226), .ref (N0 + 227), .int 0, .int 0, .ref (N0 + 228), .null, .int (-1), .int 0, .int 0, .int 0])))) (fun _ => n)) 0 0 (fA N0) := by
  refine fx_start 3 rfl rfl (Nat.le_of_ble_eq_true rfl) ?_ rfl
  intro p e s m below meth c ls S hr hlocks hin hG hl
  have hl : lv_has ls 3 [(0, .ref (N0 + 164)), (1, .int a1), (2, .int a2)] := hl
  have lt_h0 := hG.1.lt h0
  refine lv_aload_n S.1 S.2.1 dX10_distanceByMatchings_0 rfl (lv_at hl 0 rfl) ?_
  refine lv_iload_n S.1 S.2.1 dX10_distanceByMatchings_1 rfl (lv_at hl 1 rfl) ?_
  refine lv_iload_n S.1 S.2.1 dX10_distanceByMatchings_2 rfl (lv_at hl 2 rfl) ?_
  refine fx_cVi (As := [.int a1, .int a2]) (rest := []) S hG (k448_X10_areNone g_a1_le_m1 (by omega) h0) h0 rfl (cwV 2 S.2.2.2.2 gX10_distanceByMatchings_X10_areNone rfl rfl rfl (by decide +kernel) ⟨Nat.le_of_ble_eq_true rfl, Nat.le_of_ble_eq_true rfl⟩) rfl hl.1 rfl (Nat.le_of_ble_eq_true rfl) dX10_distanceByMatchings_3 ⟨Nat.le_of_ble_eq_true rfl, Nat.le_of_ble_eq_true rfl⟩ (fun rv_1 _ H locs hp hG => ?_)
  subst rv_1
  refine lv_if_eq (tgt := 11) S.1 S.2.1 dX10_distanceByMatchings_6 (by decide) (fun c => absurd c (by decide)) (fun _ => ?_)
  refine lv_iconst (v := 0) S.1 S.2.1 dX10_distanceByMatchings_9 (by decide) ?_
  exact fx_iret S hr hlocks () hG (rfl) dX10_distanceByMatchings_10
theorem k1296_X7_distanceByMatchings {n : Nat} {a2 : Int32} (g_a2_le_m1 : a2 ≤ (-1)) (hst : l.stackTraces = false) (hn : N0 + 231 ≤ n) (h0 : F N0 = some (.inr (9, [.ref (N0 + 1), .ref (N0 + 2), .ref (N0 + 11), .ref (N0 + 13), .ref (N0 + 63), .ref (N0 + 65), .ref (N0 + 85), .int (-1), .int (-1), .int 32]))) (h1 : F (N0 + 1) = some (.inl (cTr, 3, .inr (.inr (.inr (.inr (va_up (va_up (va_up (fun _ => none) 0 (some (N0 + 143))) 1 (some (N0 + 150))) 2 (some (N0 + 157))))))))) : vx_Met l yX7_distanceByMatchings wsX7_distanceByMatchings ({ frames := 7, cells := 1, slots := 6, locals := 103 }) (va_Pc [.ref N0, .int 0, .int a2] (fP N0 D vwCl (fty cI cC cL cD cII cTr cTm cIt cB) (fen ql) F n)) (fNo N0 D vwCl (fty cI cC cL cD cII cTr cTm cIt cB) F n) (fXC N0 D vwCl (fty cI cC cL cD cII cTr cTm cIt cB) "java/lang/IndexOutOfBoundsException" F n) 1 6 (fA N0) := by
  refine fx_startX 5 rfl rfl (Nat.le_of_ble_eq_true rfl) ?_ rfl
  intro p e s m below meth c ls S htab hlocks hG hl
  have hl : lv_has ls 5 [(0, .ref N0), (1, .int 0), (2, .int a2)] := hl
  have lt_h0 := hG.1.lt h0
  have lt_h1 := hG.1.lt h1
  refine lv_aload_n S.1 S.2.1 dX7_distanceByMatchings_0 rfl (lv_at hl 0 rfl) ?_
  refine lv_iload_n S.1 S.2.1 dX7_distanceByMatchings_1 rfl (lv_at hl 1 rfl) ?_
  refine fx_cVr (As := [.int 0]) (rest := []) S hG (k26_X7_treeAt (by omega) h0 h1) h0 rfl (cwV 1 S.2.2.2.2 gX7_distanceByMatchings_X7_treeAt rfl rfl rfl (by decide +kernel) ⟨Nat.le_of_ble_eq_true rfl, Nat.le_of_ble_eq_true rfl⟩) rfl hl.1 rfl (Nat.le_of_ble_eq_true rfl) dX7_distanceByMatchings_2 ⟨Nat.le_of_ble_eq_true rfl, Nat.le_of_ble_eq_true rfl⟩ (fun rv_1 _ H locs hp hG => ?_)
  subst rv_1
  refine lv_astore_n (lv' := [(3, .ref (N0 + 143)), (0, .ref N0), (1, .int 0), (2, .int a2)]) S.1 S.2.1 dX7_distanceByMatchings_5 rfl hl (by decide) rfl (fun ls hl => ?_)
  refine lv_aload_n S.1 S.2.1 dX7_distanceByMatchings_6 rfl (lv_at hl 1 rfl) ?_
  refine lv_iload_n S.1 S.2.1 dX7_distanceByMatchings_7 rfl (lv_at hl 3 rfl) ?_
  refine fx_xV (As := [.int a2]) (rest := []) S hG (k450_X7_treeAt g_a2_le_m1 hst (by omega)) h0 rfl (cwV 1 S.2.2.2.2 gX7_distanceByMatchings_X7_treeAt rfl rfl rfl (by decide +kernel) ⟨Nat.le_of_ble_eq_true rfl, Nat.le_of_ble_eq_true rfl⟩) rfl hl.1 rfl (Nat.le_of_ble_eq_true rfl) dX7_distanceByMatchings_8 ⟨Nat.le_of_ble_eq_true rfl, Nat.le_of_ble_eq_true rfl⟩ (fun ceq_2 q_2 H locs n_3 hn_3 hG h1q_2 h2q_2 h3q_2 => ?_)
  exact fx_out htab hlocks hG (by omega) h1q_2 h2q_2 h3q_2 (by decide) (by decide)
theorem k1297_L_distanceByMatchings {n : Nat} {a2 : Int32} (g_a2_le_m1 : a2 ≤ (-1)) (hst : l.stackTraces = false) (hn : N0 + 231 ≤ n) (h0 : F N0 = some (.inr (9, [.ref (N0 + 1), .ref (N0 + 2), .ref (N0 + 11), .ref (N0 + 13), .ref (N0 + 63), .ref (N0 + 65), .ref (N0 + 85), .int (-1), .int (-1), .int 32]))) (h1 : F (N0 + 1) = some (.inl (cTr, 3, .inr (.inr (.inr (.inr (va_up (va_up (va_up (fun _ => none) 0 (some (N0 + 143))) 1 (some (N0 + 150))) 2 (some (N0 + 157))))))))) : Met l yL_distanceByMatchings wsL_distanceByMatchings ({ frames := 8, cells := 1, slots := 6, locals := 127 }) (va_Pc [.ref N0, .int 0, .int a2, .ref (N0 + 229)] (fP N0 D vwCl (fty cI cC cL cD cII cTr cTm cIt cB) (fen ql) F n)) (fQi N0 D vwCl (fty cI cC cL cD cII cTr cTm cIt cB) (fun (r : Int32) (u : Nat) => r = 1 ∧ n ≤ u) (fun _ => F) (fun u => u)) 1 6 (fA N0) := by
  refine fx_startW (hh := [(0, 10, 13, 19), (0, 10, 17, 47)]) 5 rfl rfl (Nat.le_of_ble_eq_true rfl) ?_ rfl
  intro p e s m below meth c ls S htab hr hlocks hG hl
  have hl : lv_has ls 5 [(0, .ref N0), (1, .int 0), (2, .int a2), (3, .ref (N0 + 229))] := hl
  have lt_h0 := hG.1.lt h0
  have lt_h1 := hG.1.lt h1
  refine lv_aload_n S.1 S.2.1 dL_distanceByMatchings_0 rfl (lv_at hl 3 rfl) ?_
  refine lv_iconst (v := 0) S.1 S.2.1 dL_distanceByMatchings_1 (by decide) ?_
  refine lv_aload_n S.1 S.2.1 dL_distanceByMatchings_2 rfl (lv_at hl 0 rfl) ?_
  refine lv_iload_n S.1 S.2.1 dL_distanceByMatchings_3 rfl (lv_at hl 1 rfl) ?_
  refine lv_iload_n S.1 S.2.1 dL_distanceByMatchings_4 rfl (lv_at hl 2 rfl) ?_
  refine fx_xV (As := [.int 0, .int a2]) (rest := [.int 0, .ref (N0 + 229)]) S hG (k1296_X7_distanceByMatchings g_a2_le_m1 hst (by omega) h0 h1) h0 rfl (cwV 2 S.2.2.2.2 gL_distanceByMatchings_X7_distanceByMatchings rfl rfl rfl (by decide +kernel) ⟨Nat.le_of_ble_eq_true rfl, Nat.le_of_ble_eq_true rfl⟩) rfl hl.1 rfl (Nat.le_of_ble_eq_true rfl) dL_distanceByMatchings_5 ⟨Nat.le_of_ble_eq_true rfl, Nat.le_of_ble_eq_true rfl⟩ (fun ceq_1 q_1 H locs n_2 hn_2 hG h1q_1 h2q_1 h3q_1 => ?_)
  refine fx_catch (hh := [(0, 10, 13, 19), (0, 10, 17, 47)]) S htab hG h1q_1 h2q_1 h3q_1 [] ⟨0, 10, 13, 19⟩ [⟨0, 10, 17, 47⟩] rfl [] (fun z hz => absurd hz List.not_mem_nil) (by decide) (by decide) (by decide +kernel) (List.mem_of_getElem? (i := 2) rfl) ?_
  refine lv_astore (lv' := [(4, .ref q_1), (0, .ref N0), (1, .int 0), (2, .int a2), (3, .ref (N0 + 229))]) S.1 S.2.1 dL_distanceByMatchings_13 hl (by decide) rfl (fun ls hl => ?_)
  refine lv_iconst (v := 1) S.1 S.2.1 dL_distanceByMatchings_15 (by decide) ?_
  exact fx_iret S hr hlocks n_2 hG (⟨rfl, hn_2⟩) dL_distanceByMatchings_16
theorem k1298_X10_distanceByMatchings {n : Nat} {a2 : Int32} (g_a2_le_m1 : a2 ≤ (-1)) (hn : N0 + 231 ≤ n) (h0 : F (N0 + 164) = some (.inr (12, [.ref (N0 + 165), .int 0, .ref (N0 + 181), .int 0, .int 0, .int 0, .int (-1), .ref (ql 24), .ref (N0 + 182), .ref (N0 + 187), .ref (N0 + 208), .ref (N0 + 209), .ref (N0 + 210), .ref (N0 + 211), .ref (N0 + 212), .int 0, .ref (N0 + 213), .ref (N0 + 218), .ref (N0 + 223), .ref (N0 + 224), .ref (N0 + 225), .ref (N0 + 226), .ref (N0 + 227), .int 0, .int 0, .ref (N0 + 228), .null, .int (-1), .int 0, .int 0, .int 0]))) : Met l yX10_distanceByMatchings wsX10_distanceByMatchings ({ frames := 3, cells := 0, slots := 0, locals := 64 }) (va_Pc [.ref (N0 + 164), .int 0, .int a2] (fP N0 D vwCl (fty cI cC cL cD cII cTr cTm cIt cB) (fen ql) F n)) (fQi N0 D vwCl (fty cI cC cL cD cII cTr cTm cIt cB) (fun (r : Int32) (_ : Unit) => r = 0) (fun _ => (fu F (N0 + 164) (.inr (12, [.ref (N0 + 165), .int 1, .ref (N0 + 181), .int 0, .int 0, .int 0, .int (-1), .ref (ql 24), .ref (N0 + 182), .ref (N0 + 187), .ref (N0 + 208), .ref (N0 + 209), .ref (N0 + 210), .ref (N0 + 211), .ref (N0 + 212), .int 0, .ref (N0 + 213), .ref (N0 + 218), .ref (N0 + 223), .ref (N0 + 224), .ref (N0 + 225), .ref (N0 + 226), .ref (N0 + 227), .int 0, .int 0, .ref (N0 + 228), .null, .int (-1), .int 0, .int 0, .int 0])))) (fun _ => n)) 0 0 (fA N0) := by
  refine fx_start 3 rfl rfl (Nat.le_of_ble_eq_true rfl) ?_ rfl
  intro p e s m below meth c ls S hr hlocks hin hG hl
  have hl : lv_has ls 3 [(0, .ref (N0 + 164)), (1, .int 0), (2, .int a2)] := hl
  have lt_h0 := hG.1.lt h0
  refine lv_aload_n S.1 S.2.1 dX10_distanceByMatchings_0 rfl (lv_at hl 0 rfl) ?_
  refine lv_iload_n S.1 S.2.1 dX10_distanceByMatchings_1 rfl (lv_at hl 1 rfl) ?_
  refine lv_iload_n S.1 S.2.1 dX10_distanceByMatchings_2 rfl (lv_at hl 2 rfl) ?_
  refine fx_cVi (As := [.int 0, .int a2]) (rest := []) S hG (k455_X10_areNone g_a2_le_m1 (by omega) h0) h0 rfl (cwV 2 S.2.2.2.2 gX10_distanceByMatchings_X10_areNone rfl rfl rfl (by decide +kernel) ⟨Nat.le_of_ble_eq_true rfl, Nat.le_of_ble_eq_true rfl⟩) rfl hl.1 rfl (Nat.le_of_ble_eq_true rfl) dX10_distanceByMatchings_3 ⟨Nat.le_of_ble_eq_true rfl, Nat.le_of_ble_eq_true rfl⟩ (fun rv_1 _ H locs hp hG => ?_)
  subst rv_1
  refine lv_if_eq (tgt := 11) S.1 S.2.1 dX10_distanceByMatchings_6 (by decide) (fun c => absurd c (by decide)) (fun _ => ?_)
  refine lv_iconst (v := 0) S.1 S.2.1 dX10_distanceByMatchings_9 (by decide) ?_
  exact fx_iret S hr hlocks () hG (rfl) dX10_distanceByMatchings_10
theorem i_X6_costOfTried_X5 : ∀ w ∈ u_ws RX5 TX5 7, w ∈ wsX6_costOfTried := by decide +kernel
theorem i_X6_costOfTried_X6 : ∀ w ∈ u_ws RX6 TX6 2, w ∈ wsX6_costOfTried := by decide +kernel
theorem k1299_X6_costOfTried {n : Nat} (hn : N0 + 231 ≤ n) (h0 : F (N0 + 143) = some (.inr (7, [.ref (N0 + 144), .ref (N0 + 145), .ref (N0 + 146), .ref (N0 + 147), .ref (N0 + 148), .ref (N0 + 149), .int 1]))) (h1 : F (N0 + 63) = some (.inr (8, [.ref (N0 + 64), .int 4]))) (h2 : F (N0 + 64) = some (.inl (cI, 7, .inl (upd (fun _ => 0) 0 0)))) (h3 : F (N0 + 144) = some (.inl (cC, 20, .inl (upd (fun _ => 0) 0 97)))) (h4 : F (N0 + 146) = some (.inl (cI, 20, .inl (fun _ => 0)))) : Met l yX6_costOfTried wsX6_costOfTried ({ frames := 1, cells := 0, slots := 0, locals := 24 }) (va_Pc [.ref (N0 + 63), .ref (N0 + 143), .ref (N0 + 143)] (fP N0 D vwCl (fty cI cC cL cD cII cTr cTm cIt cB) (fen ql) F n)) (fQi N0 D vwCl (fty cI cC cL cD cII cTr cTm cIt cB) (fun (r : Int32) (_ : Unit) => r = 0) (fun _ => F) (fun _ => n)) 0 0 (fA N0) := by
  refine fx_start 6 rfl rfl (Nat.le_of_ble_eq_true rfl) ?_ rfl
  intro p e s m below meth c ls S hr hlocks hin hG hl
  have hl : lv_has ls 6 [(0, .ref (N0 + 63)), (1, .ref (N0 + 143)), (2, .ref (N0 + 143))] := hl
  have lt_h0 := hG.1.lt h0
  have lt_h1 := hG.1.lt h1
  have lt_h2 := hG.1.lt h2
  have lt_h3 := hG.1.lt h3
  have lt_h4 := hG.1.lt h4
  refine lv_iconst (v := 2) S.1 S.2.1 dX6_costOfTried_0 (by decide) ?_
  refine lv_aload_n S.1 S.2.1 dX6_costOfTried_1 rfl (lv_at hl 1 rfl) ?_
  refine gx_get (C := RX5) (T := TX5) (N := 7) S hG h0 i_X6_costOfTried_X5 rfl 6 (by decide) (by decide +kernel) rfl dX6_costOfTried_2 ?_
  refine lv_aload_n S.1 S.2.1 dX6_costOfTried_5 rfl (lv_at hl 2 rfl) ?_
  refine gx_get (C := RX5) (T := TX5) (N := 7) S hG h0 i_X6_costOfTried_X5 rfl 6 (by decide) (by decide +kernel) rfl dX6_costOfTried_6 ?_
  refine lv_iadd S.1 S.2.1 dX6_costOfTried_9 ?_
  refine fx_topi (y := 2) (by decide) ?_
  refine lv_imul S.1 S.2.1 dX6_costOfTried_10 ?_
  refine fx_topi (y := 4) (by decide) ?_
  refine lv_istore_n (lv' := [(3, .int 4), (0, .ref (N0 + 63)), (1, .ref (N0 + 143)), (2, .ref (N0 + 143))]) S.1 S.2.1 dX6_costOfTried_11 rfl hl (by decide) rfl (fun ls hl => ?_)
  refine lv_iconst (v := 0) S.1 S.2.1 dX6_costOfTried_12 (by decide) ?_
  refine lv_istore (lv' := [(4, .int 0), (3, .int 4), (0, .ref (N0 + 63)), (1, .ref (N0 + 143)), (2, .ref (N0 + 143))]) S.1 S.2.1 dX6_costOfTried_13 hl (by decide) rfl (fun ls hl => ?_)
  refine lv_iload S.1 S.2.1 dX6_costOfTried_15 (lv_at hl 0 rfl) ?_
  refine lv_aload_n S.1 S.2.1 dX6_costOfTried_17 rfl (lv_at hl 3 rfl) ?_
  refine gx_get (C := RX5) (T := TX5) (N := 7) S hG h0 i_X6_costOfTried_X5 rfl 6 (by decide) (by decide +kernel) rfl dX6_costOfTried_18 ?_
  refine lv_icmp_ge (tgt := 66) S.1 S.2.1 dX6_costOfTried_21 (by decide) (fun c => absurd c (by decide)) (fun _ => ?_)
  refine lv_iload S.1 S.2.1 dX6_costOfTried_24 (lv_at hl 0 rfl) ?_
  refine lv_bipush (v := 7) S.1 S.2.1 dX6_costOfTried_26 (by decide) ?_
  refine lv_icmp_ge (tgt := 66) S.1 S.2.1 dX6_costOfTried_28 (by decide) (fun c => absurd c (by decide)) (fun _ => ?_)
  refine lv_aload_n S.1 S.2.1 dX6_costOfTried_31 rfl (lv_at hl 2 rfl) ?_
  refine gx_get (C := RX6) (T := TX6) (N := 2) S hG h1 i_X6_costOfTried_X6 rfl 0 (by decide) (by decide +kernel) rfl dX6_costOfTried_32 ?_
  refine lv_iload S.1 S.2.1 dX6_costOfTried_35 (lv_at hl 0 rfl) ?_
  refine gx_iald (v := 0) S hG 0 h2 rfl (fin_l (by decide)) (by decide) dX6_costOfTried_37 ?_
  refine lv_istore (lv' := [(5, .int 0), (4, .int 0), (3, .int 4), (0, .ref (N0 + 63)), (1, .ref (N0 + 143)), (2, .ref (N0 + 143))]) S.1 S.2.1 dX6_costOfTried_38 hl (by decide) rfl (fun ls hl => ?_)
  refine lv_iload S.1 S.2.1 dX6_costOfTried_40 (lv_at hl 0 rfl) ?_
  refine lv_iconst (v := (-1)) S.1 S.2.1 dX6_costOfTried_42 (by decide) ?_
  refine lv_icmp_eq (tgt := 60) S.1 S.2.1 dX6_costOfTried_43 (by decide) (fun c => absurd c (by decide)) (fun _ => ?_)
  refine lv_iload_n S.1 S.2.1 dX6_costOfTried_46 rfl (lv_at hl 2 rfl) ?_
  refine lv_aload_n S.1 S.2.1 dX6_costOfTried_47 rfl (lv_at hl 4 rfl) ?_
  refine lv_iload S.1 S.2.1 dX6_costOfTried_48 (lv_at hl 1 rfl) ?_
  refine lv_aload_n S.1 S.2.1 dX6_costOfTried_50 rfl (lv_at hl 5 rfl) ?_
  refine lv_iload S.1 S.2.1 dX6_costOfTried_51 (lv_at hl 0 rfl) ?_
  refine fx_cSNi (host := "TreeDiffer") (As := [.ref (N0 + 143), .int 0, .ref (N0 + 143), .int 0]) (rest := [.int 4]) S hG (k1188_X7_changeCost (by omega) h0 h3 h4) ⟨(va_cnB 4 S.2.2.2.2 gX6_costOfTried_X7_changeCost_n52 rfl rfl rfl (hG.nest (show _ ∈ fen2.2.2.1 from by decide)) (S.2.2.2.2 (.initialized RX7) (by decide +kernel)) (by decide +kernel) ⟨Nat.le_of_ble_eq_true rfl, Nat.le_of_ble_eq_true rfl⟩), S.2.2.2.2 (.static yX7_changeCost) (by decide +kernel), trivial⟩ rfl hl.1 rfl (Nat.le_of_ble_eq_true rfl) dX6_costOfTried_53 ⟨Nat.le_of_ble_eq_true rfl, Nat.le_of_ble_eq_true rfl⟩ (fun rv_1 _ H locs hp hG => ?_)
  subst rv_1
  refine lv_iconst (v := 4) S.1 S.2.1 dX6_costOfTried_56 (by decide) ?_
  refine lv_isub S.1 S.2.1 dX6_costOfTried_57 ?_
  refine fx_topi (y := (-4)) (by decide) ?_
  refine lv_iadd S.1 S.2.1 dX6_costOfTried_58 ?_
  refine fx_topi (y := 0) (by decide) ?_
  refine lv_istore_n (lv' := [(3, .int 0), (5, .int 0), (4, .int 0), (0, .ref (N0 + 63)), (1, .ref (N0 + 143)), (2, .ref (N0 + 143))]) S.1 S.2.1 dX6_costOfTried_59 rfl hl (by decide) rfl (fun ls hl => ?_)
  refine lv_iinc (v := 1) (lv' := [(4, .int 1), (3, .int 0), (5, .int 0), (0, .ref (N0 + 63)), (1, .ref (N0 + 143)), (2, .ref (N0 + 143))]) S.1 S.2.1 dX6_costOfTried_60 hl (k := 2) rfl (by decide) (by decide) rfl (fun ls hl => ?_)
  refine lv_goto (tgt := 15) S.1 S.2.1 dX6_costOfTried_63 (by decide) ?_
  refine lv_iload S.1 S.2.1 dX6_costOfTried_15 (lv_at hl 0 rfl) ?_
  refine lv_aload_n S.1 S.2.1 dX6_costOfTried_17 rfl (lv_at hl 4 rfl) ?_
  refine gx_get (C := RX5) (T := TX5) (N := 7) S hG h0 i_X6_costOfTried_X5 rfl 6 (by decide) (by decide +kernel) rfl dX6_costOfTried_18 ?_
  refine lv_icmp_ge (tgt := 66) S.1 S.2.1 dX6_costOfTried_21 (by decide) (fun _ => ?_) (fun c => absurd (by decide) c)
  refine lv_iload_n S.1 S.2.1 dX6_costOfTried_66 rfl (lv_at hl 1 rfl) ?_
  exact fx_iret S hr hlocks () hG (rfl) dX6_costOfTried_67
theorem i_X6_tryFrom_X5 : ∀ w ∈ u_ws RX5 TX5 7, w ∈ wsX6_tryFrom := by decide +kernel
theorem i_X6_tryFrom_X6 : ∀ w ∈ u_ws RX6 TX6 2, w ∈ wsX6_tryFrom := by decide +kernel
theorem k1300_X6_tryFrom {n : Nat} (hn : N0 + 231 ≤ n) (h0 : F (N0 + 143) = some (.inr (7, [.ref (N0 + 144), .ref (N0 + 145), .ref (N0 + 146), .ref (N0 + 147), .ref (N0 + 148), .ref (N0 + 149), .int 1]))) (h1 : F (N0 + 63) = some (.inr (8, [.ref (N0 + 64), .int 4]))) (h2 : F (N0 + 64) = some (.inl (cI, 7, .inl (upd (fun _ => 0) 0 0)))) (h3 : F (N0 + 144) = some (.inl (cC, 20, .inl (upd (fun _ => 0) 0 97)))) (h4 : F (N0 + 146) = some (.inl (cI, 20, .inl (fun _ => 0)))) : Met l yX6_tryFrom wsX6_tryFrom ({ frames := 2, cells := 0, slots := 0, locals := 49 }) (va_Pc [.ref (N0 + 63), .ref (N0 + 143), .ref (N0 + 143), .int 1] (fP N0 D vwCl (fty cI cC cL cD cII cTr cTm cIt cB) (fen ql) F n)) (fQv N0 D vwCl (fty cI cC cL cD cII cTr cTm cIt cB) (fun (_ : Unit) => True) (fun _ => (fu F (N0 + 63) (.inr (8, [.ref (N0 + 64), .int 0])))) (fun _ => n)) 0 0 (fA N0) := by
  refine fx_start 5 rfl rfl (Nat.le_of_ble_eq_true rfl) ?_ rfl
  intro p e s m below meth c ls S hr hlocks hin hG hl
  have hl : lv_has ls 5 [(0, .ref (N0 + 63)), (1, .ref (N0 + 143)), (2, .ref (N0 + 143)), (3, .int 1)] := hl
  have lt_h0 := hG.1.lt h0
  have lt_h1 := hG.1.lt h1
  have lt_h2 := hG.1.lt h2
  have lt_h3 := hG.1.lt h3
  have lt_h4 := hG.1.lt h4
  refine lv_iload_n S.1 S.2.1 dX6_tryFrom_0 rfl (lv_at hl 3 rfl) ?_
  refine lv_iconst (v := 1) S.1 S.2.1 dX6_tryFrom_1 (by decide) ?_
  refine lv_icmp_lt (tgt := 19) S.1 S.2.1 dX6_tryFrom_2 (by decide) (fun c => absurd c (by decide)) (fun _ => ?_)
  refine lv_iload_n S.1 S.2.1 dX6_tryFrom_5 rfl (lv_at hl 3 rfl) ?_
  refine lv_bipush (v := 7) S.1 S.2.1 dX6_tryFrom_6 (by decide) ?_
  refine lv_icmp_ge (tgt := 19) S.1 S.2.1 dX6_tryFrom_8 (by decide) (fun c => absurd c (by decide)) (fun _ => ?_)
  refine lv_iload_n S.1 S.2.1 dX6_tryFrom_11 rfl (lv_at hl 3 rfl) ?_
  refine lv_aload_n S.1 S.2.1 dX6_tryFrom_12 rfl (lv_at hl 1 rfl) ?_
  refine gx_get (C := RX5) (T := TX5) (N := 7) S hG h0 i_X6_tryFrom_X5 rfl 6 (by decide) (by decide +kernel) rfl dX6_tryFrom_13 ?_
  refine lv_icmp_lt (tgt := 37) S.1 S.2.1 dX6_tryFrom_16 (by decide) (fun c => absurd c (by decide)) (fun _ => ?_)
  refine lv_aload_n S.1 S.2.1 dX6_tryFrom_19 rfl (lv_at hl 0 rfl) ?_
  refine lv_aload_n S.1 S.2.1 dX6_tryFrom_20 rfl (lv_at hl 0 rfl) ?_
  refine gx_get (C := RX6) (T := TX6) (N := 2) S hG h1 i_X6_tryFrom_X6 rfl 1 (by decide) (by decide +kernel) rfl dX6_tryFrom_21 ?_
  refine lv_aload_n S.1 S.2.1 dX6_tryFrom_24 rfl (lv_at hl 0 rfl) ?_
  refine lv_aload_n S.1 S.2.1 dX6_tryFrom_25 rfl (lv_at hl 1 rfl) ?_
  refine lv_aload_n S.1 S.2.1 dX6_tryFrom_26 rfl (lv_at hl 2 rfl) ?_
  refine fx_cVi (As := [.ref (N0 + 143), .ref (N0 + 143)]) (rest := [.int 4, .ref (N0 + 63)]) S hG (k1299_X6_costOfTried (by omega) h0 h1 h2 h3 h4) h1 rfl (cwV 2 S.2.2.2.2 gX6_tryFrom_X6_costOfTried rfl rfl rfl (by decide +kernel) ⟨Nat.le_of_ble_eq_true rfl, Nat.le_of_ble_eq_true rfl⟩) rfl hl.1 rfl (Nat.le_of_ble_eq_true rfl) dX6_tryFrom_27 ⟨Nat.le_of_ble_eq_true rfl, Nat.le_of_ble_eq_true rfl⟩ (fun rv_1 _ H locs hp hG => ?_)
  subst rv_1
  refine gx_mmin S hl.1 (by decide +kernel) (by decide +kernel) (by decide +kernel) (by decide +kernel) (Nat.le_of_ble_eq_true rfl) (Nat.le_of_ble_eq_true rfl) (by decide) (by decide) dX6_tryFrom_30 ?_
  refine fx_topi (y := 0) (by decide) ?_
  refine gx_put (C := RX6) (T := TX6) (N := 2) (ty := .int) (v := .int 0) (fs' := [.ref (N0 + 64), .int 0]) S hG h1 i_X6_tryFrom_X6 rfl 1 (by decide) tyX6 tyX6_ok nmX6 (by decide +kernel) rfl (by decide +kernel) rfl rfl (Nat.le_of_ble_eq_true rfl) rfl dX6_tryFrom_33 (fun H locs hG => ?_)
  exact fx_vret S hr hlocks () hG trivial dX6_tryFrom_36
theorem i_X6_leastCost_X5 : ∀ w ∈ u_ws RX5 TX5 7, w ∈ wsX6_leastCost := by decide +kernel
theorem i_X6_leastCost_X6 : ∀ w ∈ u_ws RX6 TX6 2, w ∈ wsX6_leastCost := by decide +kernel
theorem k1301_X6_leastCost {n : Nat} (hn : N0 + 231 ≤ n) (h0 : F (N0 + 63) = some (.inr (8, [.ref (N0 + 64), .int 0]))) (h1 : F (N0 + 64) = some (.inl (cI, 7, .inl (fun _ => 0)))) (h2 : F (N0 + 143) = some (.inr (7, [.ref (N0 + 144), .ref (N0 + 145), .ref (N0 + 146), .ref (N0 + 147), .ref (N0 + 148), .ref (N0 + 149), .int 1]))) (h3 : F (N0 + 144) = some (.inl (cC, 20, .inl (upd (fun _ => 0) 0 97)))) (h4 : F (N0 + 146) = some (.inl (cI, 20, .inl (fun _ => 0)))) : Met l yX6_leastCost wsX6_leastCost ({ frames := 3, cells := 0, slots := 0, locals := 73 }) (va_Pc [.ref (N0 + 63), .ref (N0 + 143), .ref (N0 + 143)] (fP N0 D vwCl (fty cI cC cL cD cII cTr cTm cIt cB) (fen ql) F n)) (fQi N0 D vwCl (fty cI cC cL cD cII cTr cTm cIt cB) (fun (r : Int32) (_ : Unit) => r = 0) (fun _ => (fu (fu F (N0 + 64) (.inl (cI, 7, .inl (upd (fun _ => 0) 0 0)))) (N0 + 63) (.inr (8, [.ref (N0 + 64), .int 0])))) (fun _ => n)) 0 0 (fA N0) := by
  refine fx_start 3 rfl rfl (Nat.le_of_ble_eq_true rfl) ?_ rfl
  intro p e s m below meth c ls S hr hlocks hin hG hl
  have hl : lv_has ls 3 [(0, .ref (N0 + 63)), (1, .ref (N0 + 143)), (2, .ref (N0 + 143))] := hl
  have lt_h0 := hG.1.lt h0
  have lt_h1 := hG.1.lt h1
  have lt_h2 := hG.1.lt h2
  have lt_h3 := hG.1.lt h3
  have lt_h4 := hG.1.lt h4
  refine lv_aload_n S.1 S.2.1 dX6_leastCost_0 rfl (lv_at hl 0 rfl) ?_
  refine gx_get (C := RX6) (T := TX6) (N := 2) S hG h0 i_X6_leastCost_X6 rfl 0 (by decide) (by decide +kernel) rfl dX6_leastCost_1 ?_
  refine lv_iconst (v := 0) S.1 S.2.1 dX6_leastCost_4 (by decide) ?_
  refine lv_iconst (v := 0) S.1 S.2.1 dX6_leastCost_5 (by decide) ?_
  refine gx_iast (f' := upd (fun _ => 0) 0 0) S hG 0 h1 rfl (fin_l (by decide)) dX6_leastCost_6 (rfl) (fun H locs hG => ?_)
  refine lv_aload_n S.1 S.2.1 dX6_leastCost_7 rfl (lv_at hl 0 rfl) ?_
  refine lv_iconst (v := 2) S.1 S.2.1 dX6_leastCost_8 (by decide) ?_
  refine lv_aload_n S.1 S.2.1 dX6_leastCost_9 rfl (lv_at hl 1 rfl) ?_
  refine gx_get (C := RX5) (T := TX5) (N := 7) S hG (fu_at (by omega) h2) i_X6_leastCost_X5 rfl 6 (by decide) (by decide +kernel) rfl dX6_leastCost_10 ?_
  refine lv_aload_n S.1 S.2.1 dX6_leastCost_13 rfl (lv_at hl 2 rfl) ?_
  refine gx_get (C := RX5) (T := TX5) (N := 7) S hG (fu_at (by omega) h2) i_X6_leastCost_X5 rfl 6 (by decide) (by decide +kernel) rfl dX6_leastCost_14 ?_
  refine lv_iadd S.1 S.2.1 dX6_leastCost_17 ?_
  refine fx_topi (y := 2) (by decide) ?_
  refine lv_imul S.1 S.2.1 dX6_leastCost_18 ?_
  refine fx_topi (y := 4) (by decide) ?_
  refine gx_put (C := RX6) (T := TX6) (N := 2) (ty := .int) (v := .int 4) (fs' := [.ref (N0 + 64), .int 4]) S hG (fu_at (by omega) h0) i_X6_leastCost_X6 rfl 1 (by decide) tyX6 tyX6_ok nmX6 (by decide +kernel) rfl (by decide +kernel) rfl rfl (Nat.le_of_ble_eq_true rfl) rfl dX6_leastCost_19 (fun H locs hG => ?_)
  refine lv_aload_n S.1 S.2.1 dX6_leastCost_22 rfl (lv_at hl 0 rfl) ?_
  refine lv_aload_n S.1 S.2.1 dX6_leastCost_23 rfl (lv_at hl 1 rfl) ?_
  refine lv_aload_n S.1 S.2.1 dX6_leastCost_24 rfl (lv_at hl 2 rfl) ?_
  refine lv_iconst (v := 1) S.1 S.2.1 dX6_leastCost_25 (by decide) ?_
  refine fx_cSv (As := [.ref (N0 + 63), .ref (N0 + 143), .ref (N0 + 143), .int 1]) (rest := []) S hG (k1300_X6_tryFrom (by omega) (fu_at (by omega) (fu_at (by omega) h2)) fu_s (fu_at (by omega) fu_s) (fu_at (by omega) (fu_at (by omega) h3)) (fu_at (by omega) (fu_at (by omega) h4))) (cwS 4 S.2.2.2.2 gX6_leastCost_X6_tryFrom rfl rfl rfl (by decide +kernel) ⟨Nat.le_of_ble_eq_true rfl, Nat.le_of_ble_eq_true rfl⟩) rfl hl.1 rfl (Nat.le_of_ble_eq_true rfl) dX6_leastCost_26 ⟨Nat.le_of_ble_eq_true rfl, Nat.le_of_ble_eq_true rfl⟩ (fun _ H locs hp hG => ?_)
  refine lv_aload_n S.1 S.2.1 dX6_leastCost_29 rfl (lv_at hl 0 rfl) ?_
  refine gx_get (C := RX6) (T := TX6) (N := 2) S hG fu_s i_X6_leastCost_X6 rfl 1 (by decide) (by decide +kernel) rfl dX6_leastCost_30 ?_
  have hG : fG N0 D vwCl (fty cI cC cL cD cII cTr cTm cIt cB) (fen ql) s (fu (fu F (N0 + 64) (.inl (cI, 7, .inl (upd (fun _ => 0) 0 0)))) (N0 + 63) (.inr (8, [.ref (N0 + 64), .int 0]))) n H locs := hG.weak (fun a e h => by
    rcases fu_cases h with ⟨rfl, he⟩ | ⟨hne0, h⟩
    · cases he; exact fu_s
    · skip
      rcases fu_cases h with ⟨rfl, he⟩ | ⟨hne1, h⟩
      · cases he; exact (fu_at (by omega) (fu_at (by omega) fu_s))
      · exact (fu_at (by omega) (fu_at (by omega) (fu_at (by omega) h))))
  exact fx_iret S hr hlocks () hG (rfl) dX6_leastCost_33
theorem i_X7_distanceByMatchings_X5 : ∀ w ∈ u_ws RX5 TX5 7, w ∈ wsX7_distanceByMatchings := by decide +kernel
theorem i_X7_distanceByMatchings_X7 : ∀ w ∈ u_ws RX7 TX7 10, w ∈ wsX7_distanceByMatchings := by decide +kernel
theorem k1302_X7_distanceByMatchings {n : Nat} (hn : N0 + 231 ≤ n) (h0 : F N0 = some (.inr (9, [.ref (N0 + 1), .ref (N0 + 2), .ref (N0 + 11), .ref (N0 + 13), .ref (N0 + 63), .ref (N0 + 65), .ref (N0 + 85), .int (-1), .int (-1), .int 32]))) (h1 : F (N0 + 1) = some (.inl (cTr, 3, .inr (.inr (.inr (.inr (va_up (va_up (va_up (fun _ => none) 0 (some (N0 + 143))) 1 (some (N0 + 150))) 2 (some (N0 + 157))))))))) (h2 : F (N0 + 143) = some (.inr (7, [.ref (N0 + 144), .ref (N0 + 145), .ref (N0 + 146), .ref (N0 + 147), .ref (N0 + 148), .ref (N0 + 149), .int 1]))) (h3 : F (N0 + 63) = some (.inr (8, [.ref (N0 + 64), .int 0]))) (h4 : F (N0 + 64) = some (.inl (cI, 7, .inl (fun _ => 0)))) (h5 : F (N0 + 144) = some (.inl (cC, 20, .inl (upd (fun _ => 0) 0 97)))) (h6 : F (N0 + 146) = some (.inl (cI, 20, .inl (fun _ => 0)))) : Met l yX7_distanceByMatchings wsX7_distanceByMatchings ({ frames := 4, cells := 0, slots := 0, locals := 95 }) (va_Pc [.ref N0, .int 0, .int 0] (fP N0 D vwCl (fty cI cC cL cD cII cTr cTm cIt cB) (fen ql) F n)) (fQi N0 D vwCl (fty cI cC cL cD cII cTr cTm cIt cB) (fun (r : Int32) (_ : Unit) => r = 0) (fun _ => (fu (fu F (N0 + 64) (.inl (cI, 7, .inl (upd (fun _ => 0) 0 0)))) (N0 + 63) (.inr (8, [.ref (N0 + 64), .int 0])))) (fun _ => n)) 0 0 (fA N0) := by
  refine fx_start 5 rfl rfl (Nat.le_of_ble_eq_true rfl) ?_ rfl
  intro p e s m below meth c ls S hr hlocks hin hG hl
  have hl : lv_has ls 5 [(0, .ref N0), (1, .int 0), (2, .int 0)] := hl
  have lt_h0 := hG.1.lt h0
  have lt_h1 := hG.1.lt h1
  have lt_h2 := hG.1.lt h2
  have lt_h3 := hG.1.lt h3
  have lt_h4 := hG.1.lt h4
  have lt_h5 := hG.1.lt h5
  have lt_h6 := hG.1.lt h6
  refine lv_aload_n S.1 S.2.1 dX7_distanceByMatchings_0 rfl (lv_at hl 0 rfl) ?_
  refine lv_iload_n S.1 S.2.1 dX7_distanceByMatchings_1 rfl (lv_at hl 1 rfl) ?_
  refine fx_cVr (As := [.int 0]) (rest := []) S hG (k26_X7_treeAt (by omega) h0 h1) h0 rfl (cwV 1 S.2.2.2.2 gX7_distanceByMatchings_X7_treeAt rfl rfl rfl (by decide +kernel) ⟨Nat.le_of_ble_eq_true rfl, Nat.le_of_ble_eq_true rfl⟩) rfl hl.1 rfl (Nat.le_of_ble_eq_true rfl) dX7_distanceByMatchings_2 ⟨Nat.le_of_ble_eq_true rfl, Nat.le_of_ble_eq_true rfl⟩ (fun rv_1 _ H locs hp hG => ?_)
  subst rv_1
  refine lv_astore_n (lv' := [(3, .ref (N0 + 143)), (0, .ref N0), (1, .int 0), (2, .int 0)]) S.1 S.2.1 dX7_distanceByMatchings_5 rfl hl (by decide) rfl (fun ls hl => ?_)
  refine lv_aload_n S.1 S.2.1 dX7_distanceByMatchings_6 rfl (lv_at hl 1 rfl) ?_
  refine lv_iload_n S.1 S.2.1 dX7_distanceByMatchings_7 rfl (lv_at hl 3 rfl) ?_
  refine fx_cVr (As := [.int 0]) (rest := []) S hG (k26_X7_treeAt (by omega) h0 h1) h0 rfl (cwV 1 S.2.2.2.2 gX7_distanceByMatchings_X7_treeAt rfl rfl rfl (by decide +kernel) ⟨Nat.le_of_ble_eq_true rfl, Nat.le_of_ble_eq_true rfl⟩) rfl hl.1 rfl (Nat.le_of_ble_eq_true rfl) dX7_distanceByMatchings_8 ⟨Nat.le_of_ble_eq_true rfl, Nat.le_of_ble_eq_true rfl⟩ (fun rv_2 _ H locs hp hG => ?_)
  subst rv_2
  refine lv_astore (lv' := [(4, .ref (N0 + 143)), (3, .ref (N0 + 143)), (0, .ref N0), (1, .int 0), (2, .int 0)]) S.1 S.2.1 dX7_distanceByMatchings_11 hl (by decide) rfl (fun ls hl => ?_)
  refine lv_aload_n S.1 S.2.1 dX7_distanceByMatchings_13 rfl (lv_at hl 1 rfl) ?_
  refine gx_get (C := RX5) (T := TX5) (N := 7) S hG h2 i_X7_distanceByMatchings_X5 rfl 6 (by decide) (by decide +kernel) rfl dX7_distanceByMatchings_14 ?_
  refine lv_bipush (v := 7) S.1 S.2.1 dX7_distanceByMatchings_17 (by decide) ?_
  refine lv_icmp_gt (tgt := 32) S.1 S.2.1 dX7_distanceByMatchings_19 (by decide) (fun c => absurd c (by decide)) (fun _ => ?_)
  refine lv_aload S.1 S.2.1 dX7_distanceByMatchings_22 (lv_at hl 0 rfl) ?_
  refine gx_get (C := RX5) (T := TX5) (N := 7) S hG h2 i_X7_distanceByMatchings_X5 rfl 6 (by decide) (by decide +kernel) rfl dX7_distanceByMatchings_24 ?_
  refine lv_bipush (v := 7) S.1 S.2.1 dX7_distanceByMatchings_27 (by decide) ?_
  refine lv_icmp_le (tgt := 42) S.1 S.2.1 dX7_distanceByMatchings_29 (by decide) (fun _ => ?_) (fun c => absurd (by decide) c)
  refine lv_aload_n S.1 S.2.1 dX7_distanceByMatchings_42 rfl (lv_at hl 2 rfl) ?_
  refine gx_get (C := RX7) (T := TX7) (N := 10) S hG h0 i_X7_distanceByMatchings_X7 rfl 4 (by decide) (by decide +kernel) rfl dX7_distanceByMatchings_43 ?_
  refine lv_aload_n S.1 S.2.1 dX7_distanceByMatchings_46 rfl (lv_at hl 1 rfl) ?_
  refine lv_aload S.1 S.2.1 dX7_distanceByMatchings_47 (lv_at hl 0 rfl) ?_
  refine fx_cVi (As := [.ref (N0 + 143), .ref (N0 + 143)]) (rest := []) S hG (k1301_X6_leastCost (by omega) h3 h4 h2 h5 h6) h3 rfl (cwV 2 S.2.2.2.2 gX7_distanceByMatchings_X6_leastCost rfl rfl rfl (by decide +kernel) ⟨Nat.le_of_ble_eq_true rfl, Nat.le_of_ble_eq_true rfl⟩) rfl hl.1 rfl (Nat.le_of_ble_eq_true rfl) dX7_distanceByMatchings_49 ⟨Nat.le_of_ble_eq_true rfl, Nat.le_of_ble_eq_true rfl⟩ (fun rv_3 _ H locs hp hG => ?_)
  subst rv_3
  exact fx_iret S hr hlocks () hG (rfl) dX7_distanceByMatchings_52
theorem k1303_L_distanceByMatchings {n : Nat} (hn : N0 + 231 ≤ n) (h0 : F N0 = some (.inr (9, [.ref (N0 + 1), .ref (N0 + 2), .ref (N0 + 11), .ref (N0 + 13), .ref (N0 + 63), .ref (N0 + 65), .ref (N0 + 85), .int (-1), .int (-1), .int 32]))) (h1 : F (N0 + 1) = some (.inl (cTr, 3, .inr (.inr (.inr (.inr (va_up (va_up (va_up (fun _ => none) 0 (some (N0 + 143))) 1 (some (N0 + 150))) 2 (some (N0 + 157))))))))) (h2 : F (N0 + 143) = some (.inr (7, [.ref (N0 + 144), .ref (N0 + 145), .ref (N0 + 146), .ref (N0 + 147), .ref (N0 + 148), .ref (N0 + 149), .int 1]))) (h3 : F (N0 + 63) = some (.inr (8, [.ref (N0 + 64), .int 0]))) (h4 : F (N0 + 64) = some (.inl (cI, 7, .inl (fun _ => 0)))) (h5 : F (N0 + 144) = some (.inl (cC, 20, .inl (upd (fun _ => 0) 0 97)))) (h6 : F (N0 + 146) = some (.inl (cI, 20, .inl (fun _ => 0)))) (h7 : F (N0 + 229) = some (.inl (cL, 1, .inr (.inl (fun _ => 0))))) : Met l yL_distanceByMatchings wsL_distanceByMatchings ({ frames := 5, cells := 0, slots := 0, locals := 119 }) (va_Pc [.ref N0, .int 0, .int 0, .ref (N0 + 229)] (fP N0 D vwCl (fty cI cC cL cD cII cTr cTm cIt cB) (fen ql) F n)) (fQi N0 D vwCl (fty cI cC cL cD cII cTr cTm cIt cB) (fun (r : Int32) (_ : Unit) => r = 0) (fun _ => (fu (fu (fu F (N0 + 64) (.inl (cI, 7, .inl (upd (fun _ => 0) 0 0)))) (N0 + 63) (.inr (8, [.ref (N0 + 64), .int 0]))) (N0 + 229) (.inl (cL, 1, .inr (.inl (vp_updL (fun _ => 0) 0 0)))))) (fun _ => n)) 0 0 (fA N0) := by
  refine fx_startW (hh := [(0, 10, 13, 19), (0, 10, 17, 47)]) 5 rfl rfl (Nat.le_of_ble_eq_true rfl) ?_ rfl
  intro p e s m below meth c ls S htab hr hlocks hG hl
  have hl : lv_has ls 5 [(0, .ref N0), (1, .int 0), (2, .int 0), (3, .ref (N0 + 229))] := hl
  have lt_h0 := hG.1.lt h0
  have lt_h1 := hG.1.lt h1
  have lt_h2 := hG.1.lt h2
  have lt_h3 := hG.1.lt h3
  have lt_h4 := hG.1.lt h4
  have lt_h5 := hG.1.lt h5
  have lt_h6 := hG.1.lt h6
  have lt_h7 := hG.1.lt h7
  refine lv_aload_n S.1 S.2.1 dL_distanceByMatchings_0 rfl (lv_at hl 3 rfl) ?_
  refine lv_iconst (v := 0) S.1 S.2.1 dL_distanceByMatchings_1 (by decide) ?_
  refine lv_aload_n S.1 S.2.1 dL_distanceByMatchings_2 rfl (lv_at hl 0 rfl) ?_
  refine lv_iload_n S.1 S.2.1 dL_distanceByMatchings_3 rfl (lv_at hl 1 rfl) ?_
  refine lv_iload_n S.1 S.2.1 dL_distanceByMatchings_4 rfl (lv_at hl 2 rfl) ?_
  refine fx_cVi (As := [.int 0, .int 0]) (rest := [.int 0, .ref (N0 + 229)]) S hG (k1302_X7_distanceByMatchings (by omega) h0 h1 h2 h3 h4 h5 h6) h0 rfl (cwV 2 S.2.2.2.2 gL_distanceByMatchings_X7_distanceByMatchings rfl rfl rfl (by decide +kernel) ⟨Nat.le_of_ble_eq_true rfl, Nat.le_of_ble_eq_true rfl⟩) rfl hl.1 rfl (Nat.le_of_ble_eq_true rfl) dL_distanceByMatchings_5 ⟨Nat.le_of_ble_eq_true rfl, Nat.le_of_ble_eq_true rfl⟩ (fun rv_1 _ H locs hp hG => ?_)
  subst rv_1
  refine lv_i2l (v := 0) S.1 S.2.1 dL_distanceByMatchings_8 (by decide) ?_
  refine gx_last (f' := vp_updL (fun _ => 0) 0 0) S hG 2 (fu_at (by omega) (fu_at (by omega) h7)) rfl (fin_l (by decide)) dL_distanceByMatchings_9 rfl (fun H locs hG => ?_)
  refine lv_goto (tgt := 21) S.1 S.2.1 dL_distanceByMatchings_10 (by decide) ?_
  refine lv_iconst (v := 0) S.1 S.2.1 dL_distanceByMatchings_21 (by decide) ?_
  exact fx_iret S hr hlocks () hG (rfl) dL_distanceByMatchings_22
theorem i_X10_distanceByMatchings_X10 : ∀ w ∈ u_ws RX10 TX10 31, w ∈ wsX10_distanceByMatchings := by decide +kernel
theorem i_X10_distanceByMatchings_X9 : ∀ w ∈ u_ws RX9 TX9 5, w ∈ wsX10_distanceByMatchings := by decide +kernel
theorem k1304_X10_distanceByMatchings {n : Nat} (hn : N0 + 231 ≤ n) (h0 : F (N0 + 164) = some (.inr (12, [.ref (N0 + 165), .int 0, .ref (N0 + 181), .int 0, .int 0, .int 0, .int (-1), .ref (ql 24), .ref (N0 + 182), .ref (N0 + 187), .ref (N0 + 208), .ref (N0 + 209), .ref (N0 + 210), .ref (N0 + 211), .ref (N0 + 212), .int 0, .ref (N0 + 213), .ref (N0 + 218), .ref (N0 + 223), .ref (N0 + 224), .ref (N0 + 225), .ref (N0 + 226), .ref (N0 + 227), .int 0, .int 0, .ref (N0 + 228), .null, .int (-1), .int 0, .int 0, .int 0]))) (h1 : F (N0 + 165) = some (.inl (cTm, 3, .inr (.inr (.inr (.inr (va_up (va_up (va_up (fun _ => none) 0 (some (N0 + 166))) 1 (some (N0 + 171))) 2 (some (N0 + 176))))))))) (h2 : F (N0 + 166) = some (.inr (11, [.ref (N0 + 167), .ref (N0 + 168), .ref (N0 + 169), .ref (N0 + 170), .int 1]))) (h3 : F (N0 + 167) = some (.inl (cI, 20, .inl (upd (fun _ => 0) 0 97)))) (h4 : F (N0 + 169) = some (.inl (cI, 20, .inl (upd (fun _ => 0) 0 0)))) (h5 : F (N0 + 187) = some (.inl (cII, 20, .inr (.inr (.inr (.inr (fun j => if j < 20 then some ((N0 + 188) + j) else none))))))) (h6 : F (N0 + 188) = some (.inl (cI, 20, .inl (fun _ => 0)))) : Met l yX10_distanceByMatchings wsX10_distanceByMatchings ({ frames := 3, cells := 4, slots := 2, locals := 72 }) (va_Pc [.ref (N0 + 164), .int 0, .int 0] (fP N0 D vwCl (fty cI cC cL cD cII cTr cTm cIt cB) (fen ql) F n)) (fQi N0 D vwCl (fty cI cC cL cD cII cTr cTm cIt cB) (fun (r : Int32) (_ : Unit) => r = 0) (fun _ => (fblk (fu (fu F (N0 + 164) (.inr (12, [.ref (N0 + 165), .int 0, .ref (N0 + 181), .int 0, .int 0, .int 0, .int (-1), .ref (ql 24), .ref (N0 + 182), .ref (N0 + 187), .ref (N0 + 208), .ref (N0 + 209), .ref (N0 + 210), .ref (N0 + 211), .ref (N0 + 212), .int 0, .ref (N0 + 213), .ref (N0 + 218), .ref (N0 + 223), .ref (N0 + 224), .ref (N0 + 225), .ref (N0 + 226), .ref (N0 + 227), .int 0, .int 0, .ref (N0 + 228), .null, .int (-1), .int 0, .int 0, .int 0]))) (N0 + 188) (.inl (cI, 20, .inl (upd (fun _ => 0) 0 0)))) n [.inl (cI, 0, .inl (fun _ => 0)), .inl (cI, 0, .inl (fun _ => 0)), .inl (cII, 1, .inr (.inr (.inr (.inr (fun j => if j < 1 then some ((n + 3) + j) else none))))), .inl (cI, 1, .inl (fun _ => 0))])) (fun _ => (n + 4))) 4 2 (fA N0) := by
  refine fx_start 3 rfl rfl (Nat.le_of_ble_eq_true rfl) ?_ rfl
  intro p e s m below meth c ls S hr hlocks hin hG hl
  have hl : lv_has ls 3 [(0, .ref (N0 + 164)), (1, .int 0), (2, .int 0)] := hl
  have lt_h0 := hG.1.lt h0
  have lt_h1 := hG.1.lt h1
  have lt_h2 := hG.1.lt h2
  have lt_h3 := hG.1.lt h3
  have lt_h4 := hG.1.lt h4
  have lt_h5 := hG.1.lt h5
  have lt_h6 := hG.1.lt h6
  refine lv_aload_n S.1 S.2.1 dX10_distanceByMatchings_0 rfl (lv_at hl 0 rfl) ?_
  refine lv_iload_n S.1 S.2.1 dX10_distanceByMatchings_1 rfl (lv_at hl 1 rfl) ?_
  refine lv_iload_n S.1 S.2.1 dX10_distanceByMatchings_2 rfl (lv_at hl 2 rfl) ?_
  refine fx_cVi (As := [.int 0, .int 0]) (rest := []) S hG (k460_X10_areNone (by omega) h0) h0 rfl (cwV 2 S.2.2.2.2 gX10_distanceByMatchings_X10_areNone rfl rfl rfl (by decide +kernel) ⟨Nat.le_of_ble_eq_true rfl, Nat.le_of_ble_eq_true rfl⟩) rfl hl.1 rfl (Nat.le_of_ble_eq_true rfl) dX10_distanceByMatchings_3 ⟨Nat.le_of_ble_eq_true rfl, Nat.le_of_ble_eq_true rfl⟩ (fun rv_1 _ H locs hp hG => ?_)
  subst rv_1
  refine lv_if_eq (tgt := 11) S.1 S.2.1 dX10_distanceByMatchings_6 (by decide) (fun _ => ?_) (fun c => absurd (by decide) c)
  refine lv_aload_n S.1 S.2.1 dX10_distanceByMatchings_11 rfl (lv_at hl 0 rfl) ?_
  refine gx_get (C := RX10) (T := TX10) (N := 31) S hG fu_s i_X10_distanceByMatchings_X10 rfl 0 (by decide) (by decide +kernel) rfl dX10_distanceByMatchings_12 ?_
  refine lv_iload_n S.1 S.2.1 dX10_distanceByMatchings_15 rfl (lv_at hl 1 rfl) ?_
  refine gx_aldq (x := (N0 + 166)) S hG 6 rfl (fu_at (by omega) h1) rfl (fin_l (by decide)) (rfl) dX10_distanceByMatchings_16 ?_
  refine gx_getN (C := RX9) (T := TX9) (N := 5) S hG (fu_at (by omega) h2) i_X10_distanceByMatchings_X9 rfl 4 (by decide) (List.mem_of_getElem? (i := 4) rfl) rfl dX10_distanceByMatchings_17 ?_
  refine lv_bipush (v := 7) S.1 S.2.1 dX10_distanceByMatchings_20 (by decide) ?_
  refine lv_icmp_gt (tgt := 39) S.1 S.2.1 dX10_distanceByMatchings_22 (by decide) (fun c => absurd c (by decide)) (fun _ => ?_)
  refine lv_aload_n S.1 S.2.1 dX10_distanceByMatchings_25 rfl (lv_at hl 0 rfl) ?_
  refine gx_get (C := RX10) (T := TX10) (N := 31) S hG fu_s i_X10_distanceByMatchings_X10 rfl 0 (by decide) (by decide +kernel) rfl dX10_distanceByMatchings_26 ?_
  refine lv_iload_n S.1 S.2.1 dX10_distanceByMatchings_29 rfl (lv_at hl 2 rfl) ?_
  refine gx_aldq (x := (N0 + 166)) S hG 6 rfl (fu_at (by omega) h1) rfl (fin_l (by decide)) (rfl) dX10_distanceByMatchings_30 ?_
  refine gx_getN (C := RX9) (T := TX9) (N := 5) S hG (fu_at (by omega) h2) i_X10_distanceByMatchings_X9 rfl 4 (by decide) (List.mem_of_getElem? (i := 4) rfl) rfl dX10_distanceByMatchings_31 ?_
  refine lv_bipush (v := 7) S.1 S.2.1 dX10_distanceByMatchings_34 (by decide) ?_
  refine lv_icmp_le (tgt := 47) S.1 S.2.1 dX10_distanceByMatchings_36 (by decide) (fun _ => ?_) (fun c => absurd (by decide) c)
  refine lv_aload_n S.1 S.2.1 dX10_distanceByMatchings_47 rfl (lv_at hl 0 rfl) ?_
  refine lv_aload_n S.1 S.2.1 dX10_distanceByMatchings_48 rfl (lv_at hl 0 rfl) ?_
  refine gx_get (C := RX10) (T := TX10) (N := 31) S hG fu_s i_X10_distanceByMatchings_X10 rfl 0 (by decide) (by decide +kernel) rfl dX10_distanceByMatchings_49 ?_
  refine lv_iload_n S.1 S.2.1 dX10_distanceByMatchings_52 rfl (lv_at hl 1 rfl) ?_
  refine gx_aldq (x := (N0 + 166)) S hG 6 rfl (fu_at (by omega) h1) rfl (fin_l (by decide)) (rfl) dX10_distanceByMatchings_53 ?_
  refine lv_aload_n S.1 S.2.1 dX10_distanceByMatchings_54 rfl (lv_at hl 0 rfl) ?_
  refine gx_get (C := RX10) (T := TX10) (N := 31) S hG fu_s i_X10_distanceByMatchings_X10 rfl 0 (by decide) (by decide +kernel) rfl dX10_distanceByMatchings_55 ?_
  refine lv_iload_n S.1 S.2.1 dX10_distanceByMatchings_58 rfl (lv_at hl 2 rfl) ?_
  refine gx_aldq (x := (N0 + 166)) S hG 6 rfl (fu_at (by omega) h1) rfl (fin_l (by decide)) (rfl) dX10_distanceByMatchings_59 ?_
  refine fx_cVi (As := [.ref (N0 + 166), .ref (N0 + 166)]) (rest := []) S hG (k1193_X10_fills (by omega) (fu_at (by omega) h2) (fu_at (by omega) h3) (fu_at (by omega) h4) fu_s (fu_at (by omega) h5) (fu_at (by omega) h6)) fu_s rfl (cwV 2 S.2.2.2.2 gX10_distanceByMatchings_X10_fills rfl rfl rfl (by decide +kernel) ⟨Nat.le_of_ble_eq_true rfl, Nat.le_of_ble_eq_true rfl⟩) rfl hl.1 rfl (Nat.le_of_ble_eq_true rfl) dX10_distanceByMatchings_60 ⟨Nat.le_of_ble_eq_true rfl, Nat.le_of_ble_eq_true rfl⟩ (fun rv_2 _ H locs hp hG => ?_)
  subst rv_2
  refine W.widen (k := 4) (n := 2) (by decide) (by decide) ?_
  have hG : fG N0 D vwCl (fty cI cC cL cD cII cTr cTm cIt cB) (fen ql) s (fblk (fu (fu F (N0 + 164) (.inr (12, [.ref (N0 + 165), .int 0, .ref (N0 + 181), .int 0, .int 0, .int 0, .int (-1), .ref (ql 24), .ref (N0 + 182), .ref (N0 + 187), .ref (N0 + 208), .ref (N0 + 209), .ref (N0 + 210), .ref (N0 + 211), .ref (N0 + 212), .int 0, .ref (N0 + 213), .ref (N0 + 218), .ref (N0 + 223), .ref (N0 + 224), .ref (N0 + 225), .ref (N0 + 226), .ref (N0 + 227), .int 0, .int 0, .ref (N0 + 228), .null, .int (-1), .int 0, .int 0, .int 0]))) (N0 + 188) (.inl (cI, 20, .inl (upd (fun _ => 0) 0 0)))) n [.inl (cI, 0, .inl (fun _ => 0)), .inl (cI, 0, .inl (fun _ => 0)), .inl (cII, 1, .inr (.inr (.inr (.inr (fun j => if j < 1 then some ((n + 3) + j) else none))))), .inl (cI, 1, .inl (fun _ => 0))]) (n + 4) H locs := hG.weak (fun a e h => by
    rcases fblk_cases 4 rfl h with ⟨k, rfl, hlt, hk⟩ | ⟨hout, h⟩
    · rcases (show k = 0 ∨ k = 1 ∨ k = 2 ∨ k = 3 by omega) with rfl | rfl | rfl | rfl
      · cases (show some (.inl (cI, 0, .inl (fun _ => 0))) = some e from hk); exact (fblk_at 0 (by omega) rfl)
      · cases (show some (.inl (cI, 0, .inl (fun _ => 0))) = some e from hk); exact (fblk_at 1 (by omega) rfl)
      · cases (show some (.inl (cII, 1, .inr (.inr (.inr (.inr (fun j => if j < 1 then some ((n + 3) + j) else none)))))) = some e from hk); exact (fblk_at 2 (by omega) rfl)
      · cases (show some (.inl (cI, 1, .inl (fun _ => 0))) = some e from hk); exact (fblk_at 3 (by omega) rfl)
    · rcases fu_cases h with ⟨rfl, he⟩ | ⟨hne0, h⟩
      · cases he; exact (fblk_sk 4 rfl (by omega) fu_s)
      · skip
        rcases fu_cases h with ⟨rfl, he⟩ | ⟨hne1, h⟩
        · cases he; exact (fblk_sk 4 rfl (by omega) (fu_at (by omega) fu_s))
        · exact (fblk_sk 4 rfl (by omega) (fu_at (by omega) (fu_at (by omega) h))))
  exact fx_iret S hr hlocks () hG (rfl) dX10_distanceByMatchings_63
theorem k1305_X6_costOfTried {n : Nat} (hn : N0 + 231 ≤ n) (h0 : F (N0 + 143) = some (.inr (7, [.ref (N0 + 144), .ref (N0 + 145), .ref (N0 + 146), .ref (N0 + 147), .ref (N0 + 148), .ref (N0 + 149), .int 1]))) (h1 : F (N0 + 150) = some (.inr (7, [.ref (N0 + 151), .ref (N0 + 152), .ref (N0 + 153), .ref (N0 + 154), .ref (N0 + 155), .ref (N0 + 156), .int 1]))) (h2 : F (N0 + 63) = some (.inr (8, [.ref (N0 + 64), .int 4]))) (h3 : F (N0 + 64) = some (.inl (cI, 7, .inl (upd (fun _ => 0) 0 0)))) (h4 : F (N0 + 144) = some (.inl (cC, 20, .inl (upd (fun _ => 0) 0 97)))) (h5 : F (N0 + 151) = some (.inl (cC, 20, .inl (upd (fun _ => 0) 0 97)))) (h6 : F (N0 + 146) = some (.inl (cI, 20, .inl (fun _ => 0)))) (h7 : F (N0 + 153) = some (.inl (cI, 20, .inl (fun _ => 0)))) : Met l yX6_costOfTried wsX6_costOfTried ({ frames := 1, cells := 0, slots := 0, locals := 24 }) (va_Pc [.ref (N0 + 63), .ref (N0 + 143), .ref (N0 + 150)] (fP N0 D vwCl (fty cI cC cL cD cII cTr cTm cIt cB) (fen ql) F n)) (fQi N0 D vwCl (fty cI cC cL cD cII cTr cTm cIt cB) (fun (r : Int32) (_ : Unit) => r = 0) (fun _ => F) (fun _ => n)) 0 0 (fA N0) := by
  refine fx_start 6 rfl rfl (Nat.le_of_ble_eq_true rfl) ?_ rfl
  intro p e s m below meth c ls S hr hlocks hin hG hl
  have hl : lv_has ls 6 [(0, .ref (N0 + 63)), (1, .ref (N0 + 143)), (2, .ref (N0 + 150))] := hl
  have lt_h0 := hG.1.lt h0
  have lt_h1 := hG.1.lt h1
  have lt_h2 := hG.1.lt h2
  have lt_h3 := hG.1.lt h3
  have lt_h4 := hG.1.lt h4
  have lt_h5 := hG.1.lt h5
  have lt_h6 := hG.1.lt h6
  have lt_h7 := hG.1.lt h7
  refine lv_iconst (v := 2) S.1 S.2.1 dX6_costOfTried_0 (by decide) ?_
  refine lv_aload_n S.1 S.2.1 dX6_costOfTried_1 rfl (lv_at hl 1 rfl) ?_
  refine gx_get (C := RX5) (T := TX5) (N := 7) S hG h0 i_X6_costOfTried_X5 rfl 6 (by decide) (by decide +kernel) rfl dX6_costOfTried_2 ?_
  refine lv_aload_n S.1 S.2.1 dX6_costOfTried_5 rfl (lv_at hl 2 rfl) ?_
  refine gx_get (C := RX5) (T := TX5) (N := 7) S hG h1 i_X6_costOfTried_X5 rfl 6 (by decide) (by decide +kernel) rfl dX6_costOfTried_6 ?_
  refine lv_iadd S.1 S.2.1 dX6_costOfTried_9 ?_
  refine fx_topi (y := 2) (by decide) ?_
  refine lv_imul S.1 S.2.1 dX6_costOfTried_10 ?_
  refine fx_topi (y := 4) (by decide) ?_
  refine lv_istore_n (lv' := [(3, .int 4), (0, .ref (N0 + 63)), (1, .ref (N0 + 143)), (2, .ref (N0 + 150))]) S.1 S.2.1 dX6_costOfTried_11 rfl hl (by decide) rfl (fun ls hl => ?_)
  refine lv_iconst (v := 0) S.1 S.2.1 dX6_costOfTried_12 (by decide) ?_
  refine lv_istore (lv' := [(4, .int 0), (3, .int 4), (0, .ref (N0 + 63)), (1, .ref (N0 + 143)), (2, .ref (N0 + 150))]) S.1 S.2.1 dX6_costOfTried_13 hl (by decide) rfl (fun ls hl => ?_)
  refine lv_iload S.1 S.2.1 dX6_costOfTried_15 (lv_at hl 0 rfl) ?_
  refine lv_aload_n S.1 S.2.1 dX6_costOfTried_17 rfl (lv_at hl 3 rfl) ?_
  refine gx_get (C := RX5) (T := TX5) (N := 7) S hG h0 i_X6_costOfTried_X5 rfl 6 (by decide) (by decide +kernel) rfl dX6_costOfTried_18 ?_
  refine lv_icmp_ge (tgt := 66) S.1 S.2.1 dX6_costOfTried_21 (by decide) (fun c => absurd c (by decide)) (fun _ => ?_)
  refine lv_iload S.1 S.2.1 dX6_costOfTried_24 (lv_at hl 0 rfl) ?_
  refine lv_bipush (v := 7) S.1 S.2.1 dX6_costOfTried_26 (by decide) ?_
  refine lv_icmp_ge (tgt := 66) S.1 S.2.1 dX6_costOfTried_28 (by decide) (fun c => absurd c (by decide)) (fun _ => ?_)
  refine lv_aload_n S.1 S.2.1 dX6_costOfTried_31 rfl (lv_at hl 2 rfl) ?_
  refine gx_get (C := RX6) (T := TX6) (N := 2) S hG h2 i_X6_costOfTried_X6 rfl 0 (by decide) (by decide +kernel) rfl dX6_costOfTried_32 ?_
  refine lv_iload S.1 S.2.1 dX6_costOfTried_35 (lv_at hl 0 rfl) ?_
  refine gx_iald (v := 0) S hG 0 h3 rfl (fin_l (by decide)) (by decide) dX6_costOfTried_37 ?_
  refine lv_istore (lv' := [(5, .int 0), (4, .int 0), (3, .int 4), (0, .ref (N0 + 63)), (1, .ref (N0 + 143)), (2, .ref (N0 + 150))]) S.1 S.2.1 dX6_costOfTried_38 hl (by decide) rfl (fun ls hl => ?_)
  refine lv_iload S.1 S.2.1 dX6_costOfTried_40 (lv_at hl 0 rfl) ?_
  refine lv_iconst (v := (-1)) S.1 S.2.1 dX6_costOfTried_42 (by decide) ?_
  refine lv_icmp_eq (tgt := 60) S.1 S.2.1 dX6_costOfTried_43 (by decide) (fun c => absurd c (by decide)) (fun _ => ?_)
  refine lv_iload_n S.1 S.2.1 dX6_costOfTried_46 rfl (lv_at hl 2 rfl) ?_
  refine lv_aload_n S.1 S.2.1 dX6_costOfTried_47 rfl (lv_at hl 4 rfl) ?_
  refine lv_iload S.1 S.2.1 dX6_costOfTried_48 (lv_at hl 1 rfl) ?_
  refine lv_aload_n S.1 S.2.1 dX6_costOfTried_50 rfl (lv_at hl 5 rfl) ?_
  refine lv_iload S.1 S.2.1 dX6_costOfTried_51 (lv_at hl 0 rfl) ?_
  refine fx_cSNi (host := "TreeDiffer") (As := [.ref (N0 + 143), .int 0, .ref (N0 + 150), .int 0]) (rest := [.int 4]) S hG (k1199_X7_changeCost (by omega) h0 h4 h1 h5 h6 h7) ⟨(va_cnB 4 S.2.2.2.2 gX6_costOfTried_X7_changeCost_n52 rfl rfl rfl (hG.nest (show _ ∈ fen2.2.2.1 from by decide)) (S.2.2.2.2 (.initialized RX7) (by decide +kernel)) (by decide +kernel) ⟨Nat.le_of_ble_eq_true rfl, Nat.le_of_ble_eq_true rfl⟩), S.2.2.2.2 (.static yX7_changeCost) (by decide +kernel), trivial⟩ rfl hl.1 rfl (Nat.le_of_ble_eq_true rfl) dX6_costOfTried_53 ⟨Nat.le_of_ble_eq_true rfl, Nat.le_of_ble_eq_true rfl⟩ (fun rv_1 _ H locs hp hG => ?_)
  subst rv_1
  refine lv_iconst (v := 4) S.1 S.2.1 dX6_costOfTried_56 (by decide) ?_
  refine lv_isub S.1 S.2.1 dX6_costOfTried_57 ?_
  refine fx_topi (y := (-4)) (by decide) ?_
  refine lv_iadd S.1 S.2.1 dX6_costOfTried_58 ?_
  refine fx_topi (y := 0) (by decide) ?_
  refine lv_istore_n (lv' := [(3, .int 0), (5, .int 0), (4, .int 0), (0, .ref (N0 + 63)), (1, .ref (N0 + 143)), (2, .ref (N0 + 150))]) S.1 S.2.1 dX6_costOfTried_59 rfl hl (by decide) rfl (fun ls hl => ?_)
  refine lv_iinc (v := 1) (lv' := [(4, .int 1), (3, .int 0), (5, .int 0), (0, .ref (N0 + 63)), (1, .ref (N0 + 143)), (2, .ref (N0 + 150))]) S.1 S.2.1 dX6_costOfTried_60 hl (k := 2) rfl (by decide) (by decide) rfl (fun ls hl => ?_)
  refine lv_goto (tgt := 15) S.1 S.2.1 dX6_costOfTried_63 (by decide) ?_
  refine lv_iload S.1 S.2.1 dX6_costOfTried_15 (lv_at hl 0 rfl) ?_
  refine lv_aload_n S.1 S.2.1 dX6_costOfTried_17 rfl (lv_at hl 4 rfl) ?_
  refine gx_get (C := RX5) (T := TX5) (N := 7) S hG h0 i_X6_costOfTried_X5 rfl 6 (by decide) (by decide +kernel) rfl dX6_costOfTried_18 ?_
  refine lv_icmp_ge (tgt := 66) S.1 S.2.1 dX6_costOfTried_21 (by decide) (fun _ => ?_) (fun c => absurd (by decide) c)
  refine lv_iload_n S.1 S.2.1 dX6_costOfTried_66 rfl (lv_at hl 1 rfl) ?_
  exact fx_iret S hr hlocks () hG (rfl) dX6_costOfTried_67
theorem k1306_X6_tryFrom {n : Nat} (hn : N0 + 231 ≤ n) (h0 : F (N0 + 143) = some (.inr (7, [.ref (N0 + 144), .ref (N0 + 145), .ref (N0 + 146), .ref (N0 + 147), .ref (N0 + 148), .ref (N0 + 149), .int 1]))) (h1 : F (N0 + 63) = some (.inr (8, [.ref (N0 + 64), .int 4]))) (h2 : F (N0 + 150) = some (.inr (7, [.ref (N0 + 151), .ref (N0 + 152), .ref (N0 + 153), .ref (N0 + 154), .ref (N0 + 155), .ref (N0 + 156), .int 1]))) (h3 : F (N0 + 64) = some (.inl (cI, 7, .inl (upd (fun _ => 0) 0 0)))) (h4 : F (N0 + 144) = some (.inl (cC, 20, .inl (upd (fun _ => 0) 0 97)))) (h5 : F (N0 + 151) = some (.inl (cC, 20, .inl (upd (fun _ => 0) 0 97)))) (h6 : F (N0 + 146) = some (.inl (cI, 20, .inl (fun _ => 0)))) (h7 : F (N0 + 153) = some (.inl (cI, 20, .inl (fun _ => 0)))) : Met l yX6_tryFrom wsX6_tryFrom ({ frames := 2, cells := 0, slots := 0, locals := 49 }) (va_Pc [.ref (N0 + 63), .ref (N0 + 143), .ref (N0 + 150), .int 1] (fP N0 D vwCl (fty cI cC cL cD cII cTr cTm cIt cB) (fen ql) F n)) (fQv N0 D vwCl (fty cI cC cL cD cII cTr cTm cIt cB) (fun (_ : Unit) => True) (fun _ => (fu F (N0 + 63) (.inr (8, [.ref (N0 + 64), .int 0])))) (fun _ => n)) 0 0 (fA N0) := by
  refine fx_start 5 rfl rfl (Nat.le_of_ble_eq_true rfl) ?_ rfl
  intro p e s m below meth c ls S hr hlocks hin hG hl
  have hl : lv_has ls 5 [(0, .ref (N0 + 63)), (1, .ref (N0 + 143)), (2, .ref (N0 + 150)), (3, .int 1)] := hl
  have lt_h0 := hG.1.lt h0
  have lt_h1 := hG.1.lt h1
  have lt_h2 := hG.1.lt h2
  have lt_h3 := hG.1.lt h3
  have lt_h4 := hG.1.lt h4
  have lt_h5 := hG.1.lt h5
  have lt_h6 := hG.1.lt h6
  have lt_h7 := hG.1.lt h7
  refine lv_iload_n S.1 S.2.1 dX6_tryFrom_0 rfl (lv_at hl 3 rfl) ?_
  refine lv_iconst (v := 1) S.1 S.2.1 dX6_tryFrom_1 (by decide) ?_
  refine lv_icmp_lt (tgt := 19) S.1 S.2.1 dX6_tryFrom_2 (by decide) (fun c => absurd c (by decide)) (fun _ => ?_)
  refine lv_iload_n S.1 S.2.1 dX6_tryFrom_5 rfl (lv_at hl 3 rfl) ?_
  refine lv_bipush (v := 7) S.1 S.2.1 dX6_tryFrom_6 (by decide) ?_
  refine lv_icmp_ge (tgt := 19) S.1 S.2.1 dX6_tryFrom_8 (by decide) (fun c => absurd c (by decide)) (fun _ => ?_)
  refine lv_iload_n S.1 S.2.1 dX6_tryFrom_11 rfl (lv_at hl 3 rfl) ?_
  refine lv_aload_n S.1 S.2.1 dX6_tryFrom_12 rfl (lv_at hl 1 rfl) ?_
  refine gx_get (C := RX5) (T := TX5) (N := 7) S hG h0 i_X6_tryFrom_X5 rfl 6 (by decide) (by decide +kernel) rfl dX6_tryFrom_13 ?_
  refine lv_icmp_lt (tgt := 37) S.1 S.2.1 dX6_tryFrom_16 (by decide) (fun c => absurd c (by decide)) (fun _ => ?_)
  refine lv_aload_n S.1 S.2.1 dX6_tryFrom_19 rfl (lv_at hl 0 rfl) ?_
  refine lv_aload_n S.1 S.2.1 dX6_tryFrom_20 rfl (lv_at hl 0 rfl) ?_
  refine gx_get (C := RX6) (T := TX6) (N := 2) S hG h1 i_X6_tryFrom_X6 rfl 1 (by decide) (by decide +kernel) rfl dX6_tryFrom_21 ?_
  refine lv_aload_n S.1 S.2.1 dX6_tryFrom_24 rfl (lv_at hl 0 rfl) ?_
  refine lv_aload_n S.1 S.2.1 dX6_tryFrom_25 rfl (lv_at hl 1 rfl) ?_
  refine lv_aload_n S.1 S.2.1 dX6_tryFrom_26 rfl (lv_at hl 2 rfl) ?_
  refine fx_cVi (As := [.ref (N0 + 143), .ref (N0 + 150)]) (rest := [.int 4, .ref (N0 + 63)]) S hG (k1305_X6_costOfTried (by omega) h0 h2 h1 h3 h4 h5 h6 h7) h1 rfl (cwV 2 S.2.2.2.2 gX6_tryFrom_X6_costOfTried rfl rfl rfl (by decide +kernel) ⟨Nat.le_of_ble_eq_true rfl, Nat.le_of_ble_eq_true rfl⟩) rfl hl.1 rfl (Nat.le_of_ble_eq_true rfl) dX6_tryFrom_27 ⟨Nat.le_of_ble_eq_true rfl, Nat.le_of_ble_eq_true rfl⟩ (fun rv_1 _ H locs hp hG => ?_)
  subst rv_1
  refine gx_mmin S hl.1 (by decide +kernel) (by decide +kernel) (by decide +kernel) (by decide +kernel) (Nat.le_of_ble_eq_true rfl) (Nat.le_of_ble_eq_true rfl) (by decide) (by decide) dX6_tryFrom_30 ?_
  refine fx_topi (y := 0) (by decide) ?_
  refine gx_put (C := RX6) (T := TX6) (N := 2) (ty := .int) (v := .int 0) (fs' := [.ref (N0 + 64), .int 0]) S hG h1 i_X6_tryFrom_X6 rfl 1 (by decide) tyX6 tyX6_ok nmX6 (by decide +kernel) rfl (by decide +kernel) rfl rfl (Nat.le_of_ble_eq_true rfl) rfl dX6_tryFrom_33 (fun H locs hG => ?_)
  exact fx_vret S hr hlocks () hG trivial dX6_tryFrom_36
theorem k1307_X6_leastCost {n : Nat} (hn : N0 + 231 ≤ n) (h0 : F (N0 + 63) = some (.inr (8, [.ref (N0 + 64), .int 0]))) (h1 : F (N0 + 64) = some (.inl (cI, 7, .inl (fun _ => 0)))) (h2 : F (N0 + 143) = some (.inr (7, [.ref (N0 + 144), .ref (N0 + 145), .ref (N0 + 146), .ref (N0 + 147), .ref (N0 + 148), .ref (N0 + 149), .int 1]))) (h3 : F (N0 + 150) = some (.inr (7, [.ref (N0 + 151), .ref (N0 + 152), .ref (N0 + 153), .ref (N0 + 154), .ref (N0 + 155), .ref (N0 + 156), .int 1]))) (h4 : F (N0 + 144) = some (.inl (cC, 20, .inl (upd (fun _ => 0) 0 97)))) (h5 : F (N0 + 151) = some (.inl (cC, 20, .inl (upd (fun _ => 0) 0 97)))) (h6 : F (N0 + 146) = some (.inl (cI, 20, .inl (fun _ => 0)))) (h7 : F (N0 + 153) = some (.inl (cI, 20, .inl (fun _ => 0)))) : Met l yX6_leastCost wsX6_leastCost ({ frames := 3, cells := 0, slots := 0, locals := 73 }) (va_Pc [.ref (N0 + 63), .ref (N0 + 143), .ref (N0 + 150)] (fP N0 D vwCl (fty cI cC cL cD cII cTr cTm cIt cB) (fen ql) F n)) (fQi N0 D vwCl (fty cI cC cL cD cII cTr cTm cIt cB) (fun (r : Int32) (_ : Unit) => r = 0) (fun _ => (fu (fu F (N0 + 64) (.inl (cI, 7, .inl (upd (fun _ => 0) 0 0)))) (N0 + 63) (.inr (8, [.ref (N0 + 64), .int 0])))) (fun _ => n)) 0 0 (fA N0) := by
  refine fx_start 3 rfl rfl (Nat.le_of_ble_eq_true rfl) ?_ rfl
  intro p e s m below meth c ls S hr hlocks hin hG hl
  have hl : lv_has ls 3 [(0, .ref (N0 + 63)), (1, .ref (N0 + 143)), (2, .ref (N0 + 150))] := hl
  have lt_h0 := hG.1.lt h0
  have lt_h1 := hG.1.lt h1
  have lt_h2 := hG.1.lt h2
  have lt_h3 := hG.1.lt h3
  have lt_h4 := hG.1.lt h4
  have lt_h5 := hG.1.lt h5
  have lt_h6 := hG.1.lt h6
  have lt_h7 := hG.1.lt h7
  refine lv_aload_n S.1 S.2.1 dX6_leastCost_0 rfl (lv_at hl 0 rfl) ?_
  refine gx_get (C := RX6) (T := TX6) (N := 2) S hG h0 i_X6_leastCost_X6 rfl 0 (by decide) (by decide +kernel) rfl dX6_leastCost_1 ?_
  refine lv_iconst (v := 0) S.1 S.2.1 dX6_leastCost_4 (by decide) ?_
  refine lv_iconst (v := 0) S.1 S.2.1 dX6_leastCost_5 (by decide) ?_
  refine gx_iast (f' := upd (fun _ => 0) 0 0) S hG 0 h1 rfl (fin_l (by decide)) dX6_leastCost_6 (rfl) (fun H locs hG => ?_)
  refine lv_aload_n S.1 S.2.1 dX6_leastCost_7 rfl (lv_at hl 0 rfl) ?_
  refine lv_iconst (v := 2) S.1 S.2.1 dX6_leastCost_8 (by decide) ?_
  refine lv_aload_n S.1 S.2.1 dX6_leastCost_9 rfl (lv_at hl 1 rfl) ?_
  refine gx_get (C := RX5) (T := TX5) (N := 7) S hG (fu_at (by omega) h2) i_X6_leastCost_X5 rfl 6 (by decide) (by decide +kernel) rfl dX6_leastCost_10 ?_
  refine lv_aload_n S.1 S.2.1 dX6_leastCost_13 rfl (lv_at hl 2 rfl) ?_
  refine gx_get (C := RX5) (T := TX5) (N := 7) S hG (fu_at (by omega) h3) i_X6_leastCost_X5 rfl 6 (by decide) (by decide +kernel) rfl dX6_leastCost_14 ?_
  refine lv_iadd S.1 S.2.1 dX6_leastCost_17 ?_
  refine fx_topi (y := 2) (by decide) ?_
  refine lv_imul S.1 S.2.1 dX6_leastCost_18 ?_
  refine fx_topi (y := 4) (by decide) ?_
  refine gx_put (C := RX6) (T := TX6) (N := 2) (ty := .int) (v := .int 4) (fs' := [.ref (N0 + 64), .int 4]) S hG (fu_at (by omega) h0) i_X6_leastCost_X6 rfl 1 (by decide) tyX6 tyX6_ok nmX6 (by decide +kernel) rfl (by decide +kernel) rfl rfl (Nat.le_of_ble_eq_true rfl) rfl dX6_leastCost_19 (fun H locs hG => ?_)
  refine lv_aload_n S.1 S.2.1 dX6_leastCost_22 rfl (lv_at hl 0 rfl) ?_
  refine lv_aload_n S.1 S.2.1 dX6_leastCost_23 rfl (lv_at hl 1 rfl) ?_
  refine lv_aload_n S.1 S.2.1 dX6_leastCost_24 rfl (lv_at hl 2 rfl) ?_
  refine lv_iconst (v := 1) S.1 S.2.1 dX6_leastCost_25 (by decide) ?_
  refine fx_cSv (As := [.ref (N0 + 63), .ref (N0 + 143), .ref (N0 + 150), .int 1]) (rest := []) S hG (k1306_X6_tryFrom (by omega) (fu_at (by omega) (fu_at (by omega) h2)) fu_s (fu_at (by omega) (fu_at (by omega) h3)) (fu_at (by omega) fu_s) (fu_at (by omega) (fu_at (by omega) h4)) (fu_at (by omega) (fu_at (by omega) h5)) (fu_at (by omega) (fu_at (by omega) h6)) (fu_at (by omega) (fu_at (by omega) h7))) (cwS 4 S.2.2.2.2 gX6_leastCost_X6_tryFrom rfl rfl rfl (by decide +kernel) ⟨Nat.le_of_ble_eq_true rfl, Nat.le_of_ble_eq_true rfl⟩) rfl hl.1 rfl (Nat.le_of_ble_eq_true rfl) dX6_leastCost_26 ⟨Nat.le_of_ble_eq_true rfl, Nat.le_of_ble_eq_true rfl⟩ (fun _ H locs hp hG => ?_)
  refine lv_aload_n S.1 S.2.1 dX6_leastCost_29 rfl (lv_at hl 0 rfl) ?_
  refine gx_get (C := RX6) (T := TX6) (N := 2) S hG fu_s i_X6_leastCost_X6 rfl 1 (by decide) (by decide +kernel) rfl dX6_leastCost_30 ?_
  have hG : fG N0 D vwCl (fty cI cC cL cD cII cTr cTm cIt cB) (fen ql) s (fu (fu F (N0 + 64) (.inl (cI, 7, .inl (upd (fun _ => 0) 0 0)))) (N0 + 63) (.inr (8, [.ref (N0 + 64), .int 0]))) n H locs := hG.weak (fun a e h => by
    rcases fu_cases h with ⟨rfl, he⟩ | ⟨hne0, h⟩
    · cases he; exact fu_s
    · skip
      rcases fu_cases h with ⟨rfl, he⟩ | ⟨hne1, h⟩
      · cases he; exact (fu_at (by omega) (fu_at (by omega) fu_s))
      · exact (fu_at (by omega) (fu_at (by omega) (fu_at (by omega) h))))
  exact fx_iret S hr hlocks () hG (rfl) dX6_leastCost_33
theorem k1308_X7_distanceByMatchings {n : Nat} (hn : N0 + 231 ≤ n) (h0 : F N0 = some (.inr (9, [.ref (N0 + 1), .ref (N0 + 2), .ref (N0 + 11), .ref (N0 + 13), .ref (N0 + 63), .ref (N0 + 65), .ref (N0 + 85), .int (-1), .int (-1), .int 32]))) (h1 : F (N0 + 1) = some (.inl (cTr, 3, .inr (.inr (.inr (.inr (va_up (va_up (va_up (fun _ => none) 0 (some (N0 + 143))) 1 (some (N0 + 150))) 2 (some (N0 + 157))))))))) (h2 : F (N0 + 143) = some (.inr (7, [.ref (N0 + 144), .ref (N0 + 145), .ref (N0 + 146), .ref (N0 + 147), .ref (N0 + 148), .ref (N0 + 149), .int 1]))) (h3 : F (N0 + 150) = some (.inr (7, [.ref (N0 + 151), .ref (N0 + 152), .ref (N0 + 153), .ref (N0 + 154), .ref (N0 + 155), .ref (N0 + 156), .int 1]))) (h4 : F (N0 + 63) = some (.inr (8, [.ref (N0 + 64), .int 0]))) (h5 : F (N0 + 64) = some (.inl (cI, 7, .inl (fun _ => 0)))) (h6 : F (N0 + 144) = some (.inl (cC, 20, .inl (upd (fun _ => 0) 0 97)))) (h7 : F (N0 + 151) = some (.inl (cC, 20, .inl (upd (fun _ => 0) 0 97)))) (h8 : F (N0 + 146) = some (.inl (cI, 20, .inl (fun _ => 0)))) (h9 : F (N0 + 153) = some (.inl (cI, 20, .inl (fun _ => 0)))) : Met l yX7_distanceByMatchings wsX7_distanceByMatchings ({ frames := 4, cells := 0, slots := 0, locals := 95 }) (va_Pc [.ref N0, .int 0, .int 1] (fP N0 D vwCl (fty cI cC cL cD cII cTr cTm cIt cB) (fen ql) F n)) (fQi N0 D vwCl (fty cI cC cL cD cII cTr cTm cIt cB) (fun (r : Int32) (_ : Unit) => r = 0) (fun _ => (fu (fu F (N0 + 64) (.inl (cI, 7, .inl (upd (fun _ => 0) 0 0)))) (N0 + 63) (.inr (8, [.ref (N0 + 64), .int 0])))) (fun _ => n)) 0 0 (fA N0) := by
  refine fx_start 5 rfl rfl (Nat.le_of_ble_eq_true rfl) ?_ rfl
  intro p e s m below meth c ls S hr hlocks hin hG hl
  have hl : lv_has ls 5 [(0, .ref N0), (1, .int 0), (2, .int 1)] := hl
  have lt_h0 := hG.1.lt h0
  have lt_h1 := hG.1.lt h1
  have lt_h2 := hG.1.lt h2
  have lt_h3 := hG.1.lt h3
  have lt_h4 := hG.1.lt h4
  have lt_h5 := hG.1.lt h5
  have lt_h6 := hG.1.lt h6
  have lt_h7 := hG.1.lt h7
  have lt_h8 := hG.1.lt h8
  have lt_h9 := hG.1.lt h9
  refine lv_aload_n S.1 S.2.1 dX7_distanceByMatchings_0 rfl (lv_at hl 0 rfl) ?_
  refine lv_iload_n S.1 S.2.1 dX7_distanceByMatchings_1 rfl (lv_at hl 1 rfl) ?_
  refine fx_cVr (As := [.int 0]) (rest := []) S hG (k26_X7_treeAt (by omega) h0 h1) h0 rfl (cwV 1 S.2.2.2.2 gX7_distanceByMatchings_X7_treeAt rfl rfl rfl (by decide +kernel) ⟨Nat.le_of_ble_eq_true rfl, Nat.le_of_ble_eq_true rfl⟩) rfl hl.1 rfl (Nat.le_of_ble_eq_true rfl) dX7_distanceByMatchings_2 ⟨Nat.le_of_ble_eq_true rfl, Nat.le_of_ble_eq_true rfl⟩ (fun rv_1 _ H locs hp hG => ?_)
  subst rv_1
  refine lv_astore_n (lv' := [(3, .ref (N0 + 143)), (0, .ref N0), (1, .int 0), (2, .int 1)]) S.1 S.2.1 dX7_distanceByMatchings_5 rfl hl (by decide) rfl (fun ls hl => ?_)
  refine lv_aload_n S.1 S.2.1 dX7_distanceByMatchings_6 rfl (lv_at hl 1 rfl) ?_
  refine lv_iload_n S.1 S.2.1 dX7_distanceByMatchings_7 rfl (lv_at hl 3 rfl) ?_
  refine fx_cVr (As := [.int 1]) (rest := []) S hG (k42_X7_treeAt (by omega) h0 h1) h0 rfl (cwV 1 S.2.2.2.2 gX7_distanceByMatchings_X7_treeAt rfl rfl rfl (by decide +kernel) ⟨Nat.le_of_ble_eq_true rfl, Nat.le_of_ble_eq_true rfl⟩) rfl hl.1 rfl (Nat.le_of_ble_eq_true rfl) dX7_distanceByMatchings_8 ⟨Nat.le_of_ble_eq_true rfl, Nat.le_of_ble_eq_true rfl⟩ (fun rv_2 _ H locs hp hG => ?_)
  subst rv_2
  refine lv_astore (lv' := [(4, .ref (N0 + 150)), (3, .ref (N0 + 143)), (0, .ref N0), (1, .int 0), (2, .int 1)]) S.1 S.2.1 dX7_distanceByMatchings_11 hl (by decide) rfl (fun ls hl => ?_)
  refine lv_aload_n S.1 S.2.1 dX7_distanceByMatchings_13 rfl (lv_at hl 1 rfl) ?_
  refine gx_get (C := RX5) (T := TX5) (N := 7) S hG h2 i_X7_distanceByMatchings_X5 rfl 6 (by decide) (by decide +kernel) rfl dX7_distanceByMatchings_14 ?_
  refine lv_bipush (v := 7) S.1 S.2.1 dX7_distanceByMatchings_17 (by decide) ?_
  refine lv_icmp_gt (tgt := 32) S.1 S.2.1 dX7_distanceByMatchings_19 (by decide) (fun c => absurd c (by decide)) (fun _ => ?_)
  refine lv_aload S.1 S.2.1 dX7_distanceByMatchings_22 (lv_at hl 0 rfl) ?_
  refine gx_get (C := RX5) (T := TX5) (N := 7) S hG h3 i_X7_distanceByMatchings_X5 rfl 6 (by decide) (by decide +kernel) rfl dX7_distanceByMatchings_24 ?_
  refine lv_bipush (v := 7) S.1 S.2.1 dX7_distanceByMatchings_27 (by decide) ?_
  refine lv_icmp_le (tgt := 42) S.1 S.2.1 dX7_distanceByMatchings_29 (by decide) (fun _ => ?_) (fun c => absurd (by decide) c)
  refine lv_aload_n S.1 S.2.1 dX7_distanceByMatchings_42 rfl (lv_at hl 2 rfl) ?_
  refine gx_get (C := RX7) (T := TX7) (N := 10) S hG h0 i_X7_distanceByMatchings_X7 rfl 4 (by decide) (by decide +kernel) rfl dX7_distanceByMatchings_43 ?_
  refine lv_aload_n S.1 S.2.1 dX7_distanceByMatchings_46 rfl (lv_at hl 1 rfl) ?_
  refine lv_aload S.1 S.2.1 dX7_distanceByMatchings_47 (lv_at hl 0 rfl) ?_
  refine fx_cVi (As := [.ref (N0 + 143), .ref (N0 + 150)]) (rest := []) S hG (k1307_X6_leastCost (by omega) h4 h5 h2 h3 h6 h7 h8 h9) h4 rfl (cwV 2 S.2.2.2.2 gX7_distanceByMatchings_X6_leastCost rfl rfl rfl (by decide +kernel) ⟨Nat.le_of_ble_eq_true rfl, Nat.le_of_ble_eq_true rfl⟩) rfl hl.1 rfl (Nat.le_of_ble_eq_true rfl) dX7_distanceByMatchings_49 ⟨Nat.le_of_ble_eq_true rfl, Nat.le_of_ble_eq_true rfl⟩ (fun rv_3 _ H locs hp hG => ?_)
  subst rv_3
  exact fx_iret S hr hlocks () hG (rfl) dX7_distanceByMatchings_52
theorem k1309_L_distanceByMatchings {n : Nat} (hn : N0 + 231 ≤ n) (h0 : F N0 = some (.inr (9, [.ref (N0 + 1), .ref (N0 + 2), .ref (N0 + 11), .ref (N0 + 13), .ref (N0 + 63), .ref (N0 + 65), .ref (N0 + 85), .int (-1), .int (-1), .int 32]))) (h1 : F (N0 + 1) = some (.inl (cTr, 3, .inr (.inr (.inr (.inr (va_up (va_up (va_up (fun _ => none) 0 (some (N0 + 143))) 1 (some (N0 + 150))) 2 (some (N0 + 157))))))))) (h2 : F (N0 + 143) = some (.inr (7, [.ref (N0 + 144), .ref (N0 + 145), .ref (N0 + 146), .ref (N0 + 147), .ref (N0 + 148), .ref (N0 + 149), .int 1]))) (h3 : F (N0 + 150) = some (.inr (7, [.ref (N0 + 151), .ref (N0 + 152), .ref (N0 + 153), .ref (N0 + 154), .ref (N0 + 155), .ref (N0 + 156), .int 1]))) (h4 : F (N0 + 63) = some (.inr (8, [.ref (N0 + 64), .int 0]))) (h5 : F (N0 + 64) = some (.inl (cI, 7, .inl (fun _ => 0)))) (h6 : F (N0 + 144) = some (.inl (cC, 20, .inl (upd (fun _ => 0) 0 97)))) (h7 : F (N0 + 151) = some (.inl (cC, 20, .inl (upd (fun _ => 0) 0 97)))) (h8 : F (N0 + 146) = some (.inl (cI, 20, .inl (fun _ => 0)))) (h9 : F (N0 + 153) = some (.inl (cI, 20, .inl (fun _ => 0)))) (h10 : F (N0 + 229) = some (.inl (cL, 1, .inr (.inl (fun _ => 0))))) : Met l yL_distanceByMatchings wsL_distanceByMatchings ({ frames := 5, cells := 0, slots := 0, locals := 119 }) (va_Pc [.ref N0, .int 0, .int 1, .ref (N0 + 229)] (fP N0 D vwCl (fty cI cC cL cD cII cTr cTm cIt cB) (fen ql) F n)) (fQi N0 D vwCl (fty cI cC cL cD cII cTr cTm cIt cB) (fun (r : Int32) (_ : Unit) => r = 0) (fun _ => (fu (fu (fu F (N0 + 64) (.inl (cI, 7, .inl (upd (fun _ => 0) 0 0)))) (N0 + 63) (.inr (8, [.ref (N0 + 64), .int 0]))) (N0 + 229) (.inl (cL, 1, .inr (.inl (vp_updL (fun _ => 0) 0 0)))))) (fun _ => n)) 0 0 (fA N0) := by
  refine fx_startW (hh := [(0, 10, 13, 19), (0, 10, 17, 47)]) 5 rfl rfl (Nat.le_of_ble_eq_true rfl) ?_ rfl
  intro p e s m below meth c ls S htab hr hlocks hG hl
  have hl : lv_has ls 5 [(0, .ref N0), (1, .int 0), (2, .int 1), (3, .ref (N0 + 229))] := hl
  have lt_h0 := hG.1.lt h0
  have lt_h1 := hG.1.lt h1
  have lt_h2 := hG.1.lt h2
  have lt_h3 := hG.1.lt h3
  have lt_h4 := hG.1.lt h4
  have lt_h5 := hG.1.lt h5
  have lt_h6 := hG.1.lt h6
  have lt_h7 := hG.1.lt h7
  have lt_h8 := hG.1.lt h8
  have lt_h9 := hG.1.lt h9
  have lt_h10 := hG.1.lt h10
  refine lv_aload_n S.1 S.2.1 dL_distanceByMatchings_0 rfl (lv_at hl 3 rfl) ?_
  refine lv_iconst (v := 0) S.1 S.2.1 dL_distanceByMatchings_1 (by decide) ?_
  refine lv_aload_n S.1 S.2.1 dL_distanceByMatchings_2 rfl (lv_at hl 0 rfl) ?_
  refine lv_iload_n S.1 S.2.1 dL_distanceByMatchings_3 rfl (lv_at hl 1 rfl) ?_
  refine lv_iload_n S.1 S.2.1 dL_distanceByMatchings_4 rfl (lv_at hl 2 rfl) ?_
  refine fx_cVi (As := [.int 0, .int 1]) (rest := [.int 0, .ref (N0 + 229)]) S hG (k1308_X7_distanceByMatchings (by omega) h0 h1 h2 h3 h4 h5 h6 h7 h8 h9) h0 rfl (cwV 2 S.2.2.2.2 gL_distanceByMatchings_X7_distanceByMatchings rfl rfl rfl (by decide +kernel) ⟨Nat.le_of_ble_eq_true rfl, Nat.le_of_ble_eq_true rfl⟩) rfl hl.1 rfl (Nat.le_of_ble_eq_true rfl) dL_distanceByMatchings_5 ⟨Nat.le_of_ble_eq_true rfl, Nat.le_of_ble_eq_true rfl⟩ (fun rv_1 _ H locs hp hG => ?_)
  subst rv_1
  refine lv_i2l (v := 0) S.1 S.2.1 dL_distanceByMatchings_8 (by decide) ?_
  refine gx_last (f' := vp_updL (fun _ => 0) 0 0) S hG 2 (fu_at (by omega) (fu_at (by omega) h10)) rfl (fin_l (by decide)) dL_distanceByMatchings_9 rfl (fun H locs hG => ?_)
  refine lv_goto (tgt := 21) S.1 S.2.1 dL_distanceByMatchings_10 (by decide) ?_
  refine lv_iconst (v := 0) S.1 S.2.1 dL_distanceByMatchings_21 (by decide) ?_
  exact fx_iret S hr hlocks () hG (rfl) dL_distanceByMatchings_22
theorem k1310_X10_distanceByMatchings {n : Nat} (hn : N0 + 231 ≤ n) (h0 : F (N0 + 164) = some (.inr (12, [.ref (N0 + 165), .int 0, .ref (N0 + 181), .int 0, .int 0, .int 0, .int (-1), .ref (ql 24), .ref (N0 + 182), .ref (N0 + 187), .ref (N0 + 208), .ref (N0 + 209), .ref (N0 + 210), .ref (N0 + 211), .ref (N0 + 212), .int 0, .ref (N0 + 213), .ref (N0 + 218), .ref (N0 + 223), .ref (N0 + 224), .ref (N0 + 225), .ref (N0 + 226), .ref (N0 + 227), .int 0, .int 0, .ref (N0 + 228), .null, .int (-1), .int 0, .int 0, .int 0]))) (h1 : F (N0 + 165) = some (.inl (cTm, 3, .inr (.inr (.inr (.inr (va_up (va_up (va_up (fun _ => none) 0 (some (N0 + 166))) 1 (some (N0 + 171))) 2 (some (N0 + 176))))))))) (h2 : F (N0 + 166) = some (.inr (11, [.ref (N0 + 167), .ref (N0 + 168), .ref (N0 + 169), .ref (N0 + 170), .int 1]))) (h3 : F (N0 + 171) = some (.inr (11, [.ref (N0 + 172), .ref (N0 + 173), .ref (N0 + 174), .ref (N0 + 175), .int 1]))) (h4 : F (N0 + 167) = some (.inl (cI, 20, .inl (upd (fun _ => 0) 0 97)))) (h5 : F (N0 + 172) = some (.inl (cI, 20, .inl (upd (fun _ => 0) 0 97)))) (h6 : F (N0 + 169) = some (.inl (cI, 20, .inl (upd (fun _ => 0) 0 0)))) (h7 : F (N0 + 174) = some (.inl (cI, 20, .inl (upd (fun _ => 0) 0 0)))) (h8 : F (N0 + 187) = some (.inl (cII, 20, .inr (.inr (.inr (.inr (fun j => if j < 20 then some ((N0 + 188) + j) else none))))))) (h9 : F (N0 + 188) = some (.inl (cI, 20, .inl (fun _ => 0)))) : Met l yX10_distanceByMatchings wsX10_distanceByMatchings ({ frames := 3, cells := 4, slots := 2, locals := 72 }) (va_Pc [.ref (N0 + 164), .int 0, .int 1] (fP N0 D vwCl (fty cI cC cL cD cII cTr cTm cIt cB) (fen ql) F n)) (fQi N0 D vwCl (fty cI cC cL cD cII cTr cTm cIt cB) (fun (r : Int32) (_ : Unit) => r = 0) (fun _ => (fblk (fu (fu F (N0 + 164) (.inr (12, [.ref (N0 + 165), .int 0, .ref (N0 + 181), .int 0, .int 0, .int 0, .int (-1), .ref (ql 24), .ref (N0 + 182), .ref (N0 + 187), .ref (N0 + 208), .ref (N0 + 209), .ref (N0 + 210), .ref (N0 + 211), .ref (N0 + 212), .int 0, .ref (N0 + 213), .ref (N0 + 218), .ref (N0 + 223), .ref (N0 + 224), .ref (N0 + 225), .ref (N0 + 226), .ref (N0 + 227), .int 0, .int 0, .ref (N0 + 228), .null, .int (-1), .int 0, .int 0, .int 0]))) (N0 + 188) (.inl (cI, 20, .inl (upd (fun _ => 0) 0 0)))) n [.inl (cI, 0, .inl (fun _ => 0)), .inl (cI, 0, .inl (fun _ => 0)), .inl (cII, 1, .inr (.inr (.inr (.inr (fun j => if j < 1 then some ((n + 3) + j) else none))))), .inl (cI, 1, .inl (fun _ => 0))])) (fun _ => (n + 4))) 4 2 (fA N0) := by
  refine fx_start 3 rfl rfl (Nat.le_of_ble_eq_true rfl) ?_ rfl
  intro p e s m below meth c ls S hr hlocks hin hG hl
  have hl : lv_has ls 3 [(0, .ref (N0 + 164)), (1, .int 0), (2, .int 1)] := hl
  have lt_h0 := hG.1.lt h0
  have lt_h1 := hG.1.lt h1
  have lt_h2 := hG.1.lt h2
  have lt_h3 := hG.1.lt h3
  have lt_h4 := hG.1.lt h4
  have lt_h5 := hG.1.lt h5
  have lt_h6 := hG.1.lt h6
  have lt_h7 := hG.1.lt h7
  have lt_h8 := hG.1.lt h8
  have lt_h9 := hG.1.lt h9
  refine lv_aload_n S.1 S.2.1 dX10_distanceByMatchings_0 rfl (lv_at hl 0 rfl) ?_
  refine lv_iload_n S.1 S.2.1 dX10_distanceByMatchings_1 rfl (lv_at hl 1 rfl) ?_
  refine lv_iload_n S.1 S.2.1 dX10_distanceByMatchings_2 rfl (lv_at hl 2 rfl) ?_
  refine fx_cVi (As := [.int 0, .int 1]) (rest := []) S hG (k467_X10_areNone (by omega) h0) h0 rfl (cwV 2 S.2.2.2.2 gX10_distanceByMatchings_X10_areNone rfl rfl rfl (by decide +kernel) ⟨Nat.le_of_ble_eq_true rfl, Nat.le_of_ble_eq_true rfl⟩) rfl hl.1 rfl (Nat.le_of_ble_eq_true rfl) dX10_distanceByMatchings_3 ⟨Nat.le_of_ble_eq_true rfl, Nat.le_of_ble_eq_true rfl⟩ (fun rv_1 _ H locs hp hG => ?_)
  subst rv_1
  refine lv_if_eq (tgt := 11) S.1 S.2.1 dX10_distanceByMatchings_6 (by decide) (fun _ => ?_) (fun c => absurd (by decide) c)
  refine lv_aload_n S.1 S.2.1 dX10_distanceByMatchings_11 rfl (lv_at hl 0 rfl) ?_
  refine gx_get (C := RX10) (T := TX10) (N := 31) S hG fu_s i_X10_distanceByMatchings_X10 rfl 0 (by decide) (by decide +kernel) rfl dX10_distanceByMatchings_12 ?_
  refine lv_iload_n S.1 S.2.1 dX10_distanceByMatchings_15 rfl (lv_at hl 1 rfl) ?_
  refine gx_aldq (x := (N0 + 166)) S hG 6 rfl (fu_at (by omega) h1) rfl (fin_l (by decide)) (rfl) dX10_distanceByMatchings_16 ?_
  refine gx_getN (C := RX9) (T := TX9) (N := 5) S hG (fu_at (by omega) h2) i_X10_distanceByMatchings_X9 rfl 4 (by decide) (List.mem_of_getElem? (i := 4) rfl) rfl dX10_distanceByMatchings_17 ?_
  refine lv_bipush (v := 7) S.1 S.2.1 dX10_distanceByMatchings_20 (by decide) ?_
  refine lv_icmp_gt (tgt := 39) S.1 S.2.1 dX10_distanceByMatchings_22 (by decide) (fun c => absurd c (by decide)) (fun _ => ?_)
  refine lv_aload_n S.1 S.2.1 dX10_distanceByMatchings_25 rfl (lv_at hl 0 rfl) ?_
  refine gx_get (C := RX10) (T := TX10) (N := 31) S hG fu_s i_X10_distanceByMatchings_X10 rfl 0 (by decide) (by decide +kernel) rfl dX10_distanceByMatchings_26 ?_
  refine lv_iload_n S.1 S.2.1 dX10_distanceByMatchings_29 rfl (lv_at hl 2 rfl) ?_
  refine gx_aldq (x := (N0 + 171)) S hG 6 rfl (fu_at (by omega) h1) rfl (fin_l (by decide)) (rfl) dX10_distanceByMatchings_30 ?_
  refine gx_getN (C := RX9) (T := TX9) (N := 5) S hG (fu_at (by omega) h3) i_X10_distanceByMatchings_X9 rfl 4 (by decide) (List.mem_of_getElem? (i := 4) rfl) rfl dX10_distanceByMatchings_31 ?_
  refine lv_bipush (v := 7) S.1 S.2.1 dX10_distanceByMatchings_34 (by decide) ?_
  refine lv_icmp_le (tgt := 47) S.1 S.2.1 dX10_distanceByMatchings_36 (by decide) (fun _ => ?_) (fun c => absurd (by decide) c)
  refine lv_aload_n S.1 S.2.1 dX10_distanceByMatchings_47 rfl (lv_at hl 0 rfl) ?_
  refine lv_aload_n S.1 S.2.1 dX10_distanceByMatchings_48 rfl (lv_at hl 0 rfl) ?_
  refine gx_get (C := RX10) (T := TX10) (N := 31) S hG fu_s i_X10_distanceByMatchings_X10 rfl 0 (by decide) (by decide +kernel) rfl dX10_distanceByMatchings_49 ?_
  refine lv_iload_n S.1 S.2.1 dX10_distanceByMatchings_52 rfl (lv_at hl 1 rfl) ?_
  refine gx_aldq (x := (N0 + 166)) S hG 6 rfl (fu_at (by omega) h1) rfl (fin_l (by decide)) (rfl) dX10_distanceByMatchings_53 ?_
  refine lv_aload_n S.1 S.2.1 dX10_distanceByMatchings_54 rfl (lv_at hl 0 rfl) ?_
  refine gx_get (C := RX10) (T := TX10) (N := 31) S hG fu_s i_X10_distanceByMatchings_X10 rfl 0 (by decide) (by decide +kernel) rfl dX10_distanceByMatchings_55 ?_
  refine lv_iload_n S.1 S.2.1 dX10_distanceByMatchings_58 rfl (lv_at hl 2 rfl) ?_
  refine gx_aldq (x := (N0 + 171)) S hG 6 rfl (fu_at (by omega) h1) rfl (fin_l (by decide)) (rfl) dX10_distanceByMatchings_59 ?_
  refine fx_cVi (As := [.ref (N0 + 166), .ref (N0 + 171)]) (rest := []) S hG (k1204_X10_fills (by omega) (fu_at (by omega) h2) (fu_at (by omega) h3) (fu_at (by omega) h4) (fu_at (by omega) h5) (fu_at (by omega) h6) (fu_at (by omega) h7) fu_s (fu_at (by omega) h8) (fu_at (by omega) h9)) fu_s rfl (cwV 2 S.2.2.2.2 gX10_distanceByMatchings_X10_fills rfl rfl rfl (by decide +kernel) ⟨Nat.le_of_ble_eq_true rfl, Nat.le_of_ble_eq_true rfl⟩) rfl hl.1 rfl (Nat.le_of_ble_eq_true rfl) dX10_distanceByMatchings_60 ⟨Nat.le_of_ble_eq_true rfl, Nat.le_of_ble_eq_true rfl⟩ (fun rv_2 _ H locs hp hG => ?_)
  subst rv_2
  refine W.widen (k := 4) (n := 2) (by decide) (by decide) ?_
  have hG : fG N0 D vwCl (fty cI cC cL cD cII cTr cTm cIt cB) (fen ql) s (fblk (fu (fu F (N0 + 164) (.inr (12, [.ref (N0 + 165), .int 0, .ref (N0 + 181), .int 0, .int 0, .int 0, .int (-1), .ref (ql 24), .ref (N0 + 182), .ref (N0 + 187), .ref (N0 + 208), .ref (N0 + 209), .ref (N0 + 210), .ref (N0 + 211), .ref (N0 + 212), .int 0, .ref (N0 + 213), .ref (N0 + 218), .ref (N0 + 223), .ref (N0 + 224), .ref (N0 + 225), .ref (N0 + 226), .ref (N0 + 227), .int 0, .int 0, .ref (N0 + 228), .null, .int (-1), .int 0, .int 0, .int 0]))) (N0 + 188) (.inl (cI, 20, .inl (upd (fun _ => 0) 0 0)))) n [.inl (cI, 0, .inl (fun _ => 0)), .inl (cI, 0, .inl (fun _ => 0)), .inl (cII, 1, .inr (.inr (.inr (.inr (fun j => if j < 1 then some ((n + 3) + j) else none))))), .inl (cI, 1, .inl (fun _ => 0))]) (n + 4) H locs := hG.weak (fun a e h => by
    rcases fblk_cases 4 rfl h with ⟨k, rfl, hlt, hk⟩ | ⟨hout, h⟩
    · rcases (show k = 0 ∨ k = 1 ∨ k = 2 ∨ k = 3 by omega) with rfl | rfl | rfl | rfl
      · cases (show some (.inl (cI, 0, .inl (fun _ => 0))) = some e from hk); exact (fblk_at 0 (by omega) rfl)
      · cases (show some (.inl (cI, 0, .inl (fun _ => 0))) = some e from hk); exact (fblk_at 1 (by omega) rfl)
      · cases (show some (.inl (cII, 1, .inr (.inr (.inr (.inr (fun j => if j < 1 then some ((n + 3) + j) else none)))))) = some e from hk); exact (fblk_at 2 (by omega) rfl)
      · cases (show some (.inl (cI, 1, .inl (fun _ => 0))) = some e from hk); exact (fblk_at 3 (by omega) rfl)
    · rcases fu_cases h with ⟨rfl, he⟩ | ⟨hne0, h⟩
      · cases he; exact (fblk_sk 4 rfl (by omega) fu_s)
      · skip
        rcases fu_cases h with ⟨rfl, he⟩ | ⟨hne1, h⟩
        · cases he; exact (fblk_sk 4 rfl (by omega) (fu_at (by omega) fu_s))
        · exact (fblk_sk 4 rfl (by omega) (fu_at (by omega) (fu_at (by omega) h))))
  exact fx_iret S hr hlocks () hG (rfl) dX10_distanceByMatchings_63
theorem k1311_X6_costOfTried {n : Nat} (hn : N0 + 231 ≤ n) (h0 : F (N0 + 143) = some (.inr (7, [.ref (N0 + 144), .ref (N0 + 145), .ref (N0 + 146), .ref (N0 + 147), .ref (N0 + 148), .ref (N0 + 149), .int 1]))) (h1 : F (N0 + 157) = some (.inr (7, [.ref (N0 + 158), .ref (N0 + 159), .ref (N0 + 160), .ref (N0 + 161), .ref (N0 + 162), .ref (N0 + 163), .int 1]))) (h2 : F (N0 + 63) = some (.inr (8, [.ref (N0 + 64), .int 4]))) (h3 : F (N0 + 64) = some (.inl (cI, 7, .inl (upd (fun _ => 0) 0 0)))) (h4 : F (N0 + 144) = some (.inl (cC, 20, .inl (upd (fun _ => 0) 0 97)))) (h5 : F (N0 + 158) = some (.inl (cC, 20, .inl (upd (fun _ => 0) 0 97)))) (h6 : F (N0 + 146) = some (.inl (cI, 20, .inl (fun _ => 0)))) (h7 : F (N0 + 160) = some (.inl (cI, 20, .inl (fun _ => 0)))) : Met l yX6_costOfTried wsX6_costOfTried ({ frames := 1, cells := 0, slots := 0, locals := 24 }) (va_Pc [.ref (N0 + 63), .ref (N0 + 143), .ref (N0 + 157)] (fP N0 D vwCl (fty cI cC cL cD cII cTr cTm cIt cB) (fen ql) F n)) (fQi N0 D vwCl (fty cI cC cL cD cII cTr cTm cIt cB) (fun (r : Int32) (_ : Unit) => r = 0) (fun _ => F) (fun _ => n)) 0 0 (fA N0) := by
  refine fx_start 6 rfl rfl (Nat.le_of_ble_eq_true rfl) ?_ rfl
  intro p e s m below meth c ls S hr hlocks hin hG hl
  have hl : lv_has ls 6 [(0, .ref (N0 + 63)), (1, .ref (N0 + 143)), (2, .ref (N0 + 157))] := hl
  have lt_h0 := hG.1.lt h0
  have lt_h1 := hG.1.lt h1
  have lt_h2 := hG.1.lt h2
  have lt_h3 := hG.1.lt h3
  have lt_h4 := hG.1.lt h4
  have lt_h5 := hG.1.lt h5
  have lt_h6 := hG.1.lt h6
  have lt_h7 := hG.1.lt h7
  refine lv_iconst (v := 2) S.1 S.2.1 dX6_costOfTried_0 (by decide) ?_
  refine lv_aload_n S.1 S.2.1 dX6_costOfTried_1 rfl (lv_at hl 1 rfl) ?_
  refine gx_get (C := RX5) (T := TX5) (N := 7) S hG h0 i_X6_costOfTried_X5 rfl 6 (by decide) (by decide +kernel) rfl dX6_costOfTried_2 ?_
  refine lv_aload_n S.1 S.2.1 dX6_costOfTried_5 rfl (lv_at hl 2 rfl) ?_
  refine gx_get (C := RX5) (T := TX5) (N := 7) S hG h1 i_X6_costOfTried_X5 rfl 6 (by decide) (by decide +kernel) rfl dX6_costOfTried_6 ?_
  refine lv_iadd S.1 S.2.1 dX6_costOfTried_9 ?_
  refine fx_topi (y := 2) (by decide) ?_
  refine lv_imul S.1 S.2.1 dX6_costOfTried_10 ?_
  refine fx_topi (y := 4) (by decide) ?_
  refine lv_istore_n (lv' := [(3, .int 4), (0, .ref (N0 + 63)), (1, .ref (N0 + 143)), (2, .ref (N0 + 157))]) S.1 S.2.1 dX6_costOfTried_11 rfl hl (by decide) rfl (fun ls hl => ?_)
  refine lv_iconst (v := 0) S.1 S.2.1 dX6_costOfTried_12 (by decide) ?_
  refine lv_istore (lv' := [(4, .int 0), (3, .int 4), (0, .ref (N0 + 63)), (1, .ref (N0 + 143)), (2, .ref (N0 + 157))]) S.1 S.2.1 dX6_costOfTried_13 hl (by decide) rfl (fun ls hl => ?_)
  refine lv_iload S.1 S.2.1 dX6_costOfTried_15 (lv_at hl 0 rfl) ?_
  refine lv_aload_n S.1 S.2.1 dX6_costOfTried_17 rfl (lv_at hl 3 rfl) ?_
  refine gx_get (C := RX5) (T := TX5) (N := 7) S hG h0 i_X6_costOfTried_X5 rfl 6 (by decide) (by decide +kernel) rfl dX6_costOfTried_18 ?_
  refine lv_icmp_ge (tgt := 66) S.1 S.2.1 dX6_costOfTried_21 (by decide) (fun c => absurd c (by decide)) (fun _ => ?_)
  refine lv_iload S.1 S.2.1 dX6_costOfTried_24 (lv_at hl 0 rfl) ?_
  refine lv_bipush (v := 7) S.1 S.2.1 dX6_costOfTried_26 (by decide) ?_
  refine lv_icmp_ge (tgt := 66) S.1 S.2.1 dX6_costOfTried_28 (by decide) (fun c => absurd c (by decide)) (fun _ => ?_)
  refine lv_aload_n S.1 S.2.1 dX6_costOfTried_31 rfl (lv_at hl 2 rfl) ?_
  refine gx_get (C := RX6) (T := TX6) (N := 2) S hG h2 i_X6_costOfTried_X6 rfl 0 (by decide) (by decide +kernel) rfl dX6_costOfTried_32 ?_
  refine lv_iload S.1 S.2.1 dX6_costOfTried_35 (lv_at hl 0 rfl) ?_
  refine gx_iald (v := 0) S hG 0 h3 rfl (fin_l (by decide)) (by decide) dX6_costOfTried_37 ?_
  refine lv_istore (lv' := [(5, .int 0), (4, .int 0), (3, .int 4), (0, .ref (N0 + 63)), (1, .ref (N0 + 143)), (2, .ref (N0 + 157))]) S.1 S.2.1 dX6_costOfTried_38 hl (by decide) rfl (fun ls hl => ?_)
  refine lv_iload S.1 S.2.1 dX6_costOfTried_40 (lv_at hl 0 rfl) ?_
  refine lv_iconst (v := (-1)) S.1 S.2.1 dX6_costOfTried_42 (by decide) ?_
  refine lv_icmp_eq (tgt := 60) S.1 S.2.1 dX6_costOfTried_43 (by decide) (fun c => absurd c (by decide)) (fun _ => ?_)
  refine lv_iload_n S.1 S.2.1 dX6_costOfTried_46 rfl (lv_at hl 2 rfl) ?_
  refine lv_aload_n S.1 S.2.1 dX6_costOfTried_47 rfl (lv_at hl 4 rfl) ?_
  refine lv_iload S.1 S.2.1 dX6_costOfTried_48 (lv_at hl 1 rfl) ?_
  refine lv_aload_n S.1 S.2.1 dX6_costOfTried_50 rfl (lv_at hl 5 rfl) ?_
  refine lv_iload S.1 S.2.1 dX6_costOfTried_51 (lv_at hl 0 rfl) ?_
  refine fx_cSNi (host := "TreeDiffer") (As := [.ref (N0 + 143), .int 0, .ref (N0 + 157), .int 0]) (rest := [.int 4]) S hG (k1210_X7_changeCost (by omega) h0 h4 h1 h5 h6 h7) ⟨(va_cnB 4 S.2.2.2.2 gX6_costOfTried_X7_changeCost_n52 rfl rfl rfl (hG.nest (show _ ∈ fen2.2.2.1 from by decide)) (S.2.2.2.2 (.initialized RX7) (by decide +kernel)) (by decide +kernel) ⟨Nat.le_of_ble_eq_true rfl, Nat.le_of_ble_eq_true rfl⟩), S.2.2.2.2 (.static yX7_changeCost) (by decide +kernel), trivial⟩ rfl hl.1 rfl (Nat.le_of_ble_eq_true rfl) dX6_costOfTried_53 ⟨Nat.le_of_ble_eq_true rfl, Nat.le_of_ble_eq_true rfl⟩ (fun rv_1 _ H locs hp hG => ?_)
  subst rv_1
  refine lv_iconst (v := 4) S.1 S.2.1 dX6_costOfTried_56 (by decide) ?_
  refine lv_isub S.1 S.2.1 dX6_costOfTried_57 ?_
  refine fx_topi (y := (-4)) (by decide) ?_
  refine lv_iadd S.1 S.2.1 dX6_costOfTried_58 ?_
  refine fx_topi (y := 0) (by decide) ?_
  refine lv_istore_n (lv' := [(3, .int 0), (5, .int 0), (4, .int 0), (0, .ref (N0 + 63)), (1, .ref (N0 + 143)), (2, .ref (N0 + 157))]) S.1 S.2.1 dX6_costOfTried_59 rfl hl (by decide) rfl (fun ls hl => ?_)
  refine lv_iinc (v := 1) (lv' := [(4, .int 1), (3, .int 0), (5, .int 0), (0, .ref (N0 + 63)), (1, .ref (N0 + 143)), (2, .ref (N0 + 157))]) S.1 S.2.1 dX6_costOfTried_60 hl (k := 2) rfl (by decide) (by decide) rfl (fun ls hl => ?_)
  refine lv_goto (tgt := 15) S.1 S.2.1 dX6_costOfTried_63 (by decide) ?_
  refine lv_iload S.1 S.2.1 dX6_costOfTried_15 (lv_at hl 0 rfl) ?_
  refine lv_aload_n S.1 S.2.1 dX6_costOfTried_17 rfl (lv_at hl 4 rfl) ?_
  refine gx_get (C := RX5) (T := TX5) (N := 7) S hG h0 i_X6_costOfTried_X5 rfl 6 (by decide) (by decide +kernel) rfl dX6_costOfTried_18 ?_
  refine lv_icmp_ge (tgt := 66) S.1 S.2.1 dX6_costOfTried_21 (by decide) (fun _ => ?_) (fun c => absurd (by decide) c)
  refine lv_iload_n S.1 S.2.1 dX6_costOfTried_66 rfl (lv_at hl 1 rfl) ?_
  exact fx_iret S hr hlocks () hG (rfl) dX6_costOfTried_67
theorem k1312_X6_tryFrom {n : Nat} (hn : N0 + 231 ≤ n) (h0 : F (N0 + 143) = some (.inr (7, [.ref (N0 + 144), .ref (N0 + 145), .ref (N0 + 146), .ref (N0 + 147), .ref (N0 + 148), .ref (N0 + 149), .int 1]))) (h1 : F (N0 + 63) = some (.inr (8, [.ref (N0 + 64), .int 4]))) (h2 : F (N0 + 157) = some (.inr (7, [.ref (N0 + 158), .ref (N0 + 159), .ref (N0 + 160), .ref (N0 + 161), .ref (N0 + 162), .ref (N0 + 163), .int 1]))) (h3 : F (N0 + 64) = some (.inl (cI, 7, .inl (upd (fun _ => 0) 0 0)))) (h4 : F (N0 + 144) = some (.inl (cC, 20, .inl (upd (fun _ => 0) 0 97)))) (h5 : F (N0 + 158) = some (.inl (cC, 20, .inl (upd (fun _ => 0) 0 97)))) (h6 : F (N0 + 146) = some (.inl (cI, 20, .inl (fun _ => 0)))) (h7 : F (N0 + 160) = some (.inl (cI, 20, .inl (fun _ => 0)))) : Met l yX6_tryFrom wsX6_tryFrom ({ frames := 2, cells := 0, slots := 0, locals := 49 }) (va_Pc [.ref (N0 + 63), .ref (N0 + 143), .ref (N0 + 157), .int 1] (fP N0 D vwCl (fty cI cC cL cD cII cTr cTm cIt cB) (fen ql) F n)) (fQv N0 D vwCl (fty cI cC cL cD cII cTr cTm cIt cB) (fun (_ : Unit) => True) (fun _ => (fu F (N0 + 63) (.inr (8, [.ref (N0 + 64), .int 0])))) (fun _ => n)) 0 0 (fA N0) := by
  refine fx_start 5 rfl rfl (Nat.le_of_ble_eq_true rfl) ?_ rfl
  intro p e s m below meth c ls S hr hlocks hin hG hl
  have hl : lv_has ls 5 [(0, .ref (N0 + 63)), (1, .ref (N0 + 143)), (2, .ref (N0 + 157)), (3, .int 1)] := hl
  have lt_h0 := hG.1.lt h0
  have lt_h1 := hG.1.lt h1
  have lt_h2 := hG.1.lt h2
  have lt_h3 := hG.1.lt h3
  have lt_h4 := hG.1.lt h4
  have lt_h5 := hG.1.lt h5
  have lt_h6 := hG.1.lt h6
  have lt_h7 := hG.1.lt h7
  refine lv_iload_n S.1 S.2.1 dX6_tryFrom_0 rfl (lv_at hl 3 rfl) ?_
  refine lv_iconst (v := 1) S.1 S.2.1 dX6_tryFrom_1 (by decide) ?_
  refine lv_icmp_lt (tgt := 19) S.1 S.2.1 dX6_tryFrom_2 (by decide) (fun c => absurd c (by decide)) (fun _ => ?_)
  refine lv_iload_n S.1 S.2.1 dX6_tryFrom_5 rfl (lv_at hl 3 rfl) ?_
  refine lv_bipush (v := 7) S.1 S.2.1 dX6_tryFrom_6 (by decide) ?_
  refine lv_icmp_ge (tgt := 19) S.1 S.2.1 dX6_tryFrom_8 (by decide) (fun c => absurd c (by decide)) (fun _ => ?_)
  refine lv_iload_n S.1 S.2.1 dX6_tryFrom_11 rfl (lv_at hl 3 rfl) ?_
  refine lv_aload_n S.1 S.2.1 dX6_tryFrom_12 rfl (lv_at hl 1 rfl) ?_
  refine gx_get (C := RX5) (T := TX5) (N := 7) S hG h0 i_X6_tryFrom_X5 rfl 6 (by decide) (by decide +kernel) rfl dX6_tryFrom_13 ?_
  refine lv_icmp_lt (tgt := 37) S.1 S.2.1 dX6_tryFrom_16 (by decide) (fun c => absurd c (by decide)) (fun _ => ?_)
  refine lv_aload_n S.1 S.2.1 dX6_tryFrom_19 rfl (lv_at hl 0 rfl) ?_
  refine lv_aload_n S.1 S.2.1 dX6_tryFrom_20 rfl (lv_at hl 0 rfl) ?_
  refine gx_get (C := RX6) (T := TX6) (N := 2) S hG h1 i_X6_tryFrom_X6 rfl 1 (by decide) (by decide +kernel) rfl dX6_tryFrom_21 ?_
  refine lv_aload_n S.1 S.2.1 dX6_tryFrom_24 rfl (lv_at hl 0 rfl) ?_
  refine lv_aload_n S.1 S.2.1 dX6_tryFrom_25 rfl (lv_at hl 1 rfl) ?_
  refine lv_aload_n S.1 S.2.1 dX6_tryFrom_26 rfl (lv_at hl 2 rfl) ?_
  refine fx_cVi (As := [.ref (N0 + 143), .ref (N0 + 157)]) (rest := [.int 4, .ref (N0 + 63)]) S hG (k1311_X6_costOfTried (by omega) h0 h2 h1 h3 h4 h5 h6 h7) h1 rfl (cwV 2 S.2.2.2.2 gX6_tryFrom_X6_costOfTried rfl rfl rfl (by decide +kernel) ⟨Nat.le_of_ble_eq_true rfl, Nat.le_of_ble_eq_true rfl⟩) rfl hl.1 rfl (Nat.le_of_ble_eq_true rfl) dX6_tryFrom_27 ⟨Nat.le_of_ble_eq_true rfl, Nat.le_of_ble_eq_true rfl⟩ (fun rv_1 _ H locs hp hG => ?_)
  subst rv_1
  refine gx_mmin S hl.1 (by decide +kernel) (by decide +kernel) (by decide +kernel) (by decide +kernel) (Nat.le_of_ble_eq_true rfl) (Nat.le_of_ble_eq_true rfl) (by decide) (by decide) dX6_tryFrom_30 ?_
  refine fx_topi (y := 0) (by decide) ?_
  refine gx_put (C := RX6) (T := TX6) (N := 2) (ty := .int) (v := .int 0) (fs' := [.ref (N0 + 64), .int 0]) S hG h1 i_X6_tryFrom_X6 rfl 1 (by decide) tyX6 tyX6_ok nmX6 (by decide +kernel) rfl (by decide +kernel) rfl rfl (Nat.le_of_ble_eq_true rfl) rfl dX6_tryFrom_33 (fun H locs hG => ?_)
  exact fx_vret S hr hlocks () hG trivial dX6_tryFrom_36
theorem k1313_X6_leastCost {n : Nat} (hn : N0 + 231 ≤ n) (h0 : F (N0 + 63) = some (.inr (8, [.ref (N0 + 64), .int 0]))) (h1 : F (N0 + 64) = some (.inl (cI, 7, .inl (fun _ => 0)))) (h2 : F (N0 + 143) = some (.inr (7, [.ref (N0 + 144), .ref (N0 + 145), .ref (N0 + 146), .ref (N0 + 147), .ref (N0 + 148), .ref (N0 + 149), .int 1]))) (h3 : F (N0 + 157) = some (.inr (7, [.ref (N0 + 158), .ref (N0 + 159), .ref (N0 + 160), .ref (N0 + 161), .ref (N0 + 162), .ref (N0 + 163), .int 1]))) (h4 : F (N0 + 144) = some (.inl (cC, 20, .inl (upd (fun _ => 0) 0 97)))) (h5 : F (N0 + 158) = some (.inl (cC, 20, .inl (upd (fun _ => 0) 0 97)))) (h6 : F (N0 + 146) = some (.inl (cI, 20, .inl (fun _ => 0)))) (h7 : F (N0 + 160) = some (.inl (cI, 20, .inl (fun _ => 0)))) : Met l yX6_leastCost wsX6_leastCost ({ frames := 3, cells := 0, slots := 0, locals := 73 }) (va_Pc [.ref (N0 + 63), .ref (N0 + 143), .ref (N0 + 157)] (fP N0 D vwCl (fty cI cC cL cD cII cTr cTm cIt cB) (fen ql) F n)) (fQi N0 D vwCl (fty cI cC cL cD cII cTr cTm cIt cB) (fun (r : Int32) (_ : Unit) => r = 0) (fun _ => (fu (fu F (N0 + 64) (.inl (cI, 7, .inl (upd (fun _ => 0) 0 0)))) (N0 + 63) (.inr (8, [.ref (N0 + 64), .int 0])))) (fun _ => n)) 0 0 (fA N0) := by
  refine fx_start 3 rfl rfl (Nat.le_of_ble_eq_true rfl) ?_ rfl
  intro p e s m below meth c ls S hr hlocks hin hG hl
  have hl : lv_has ls 3 [(0, .ref (N0 + 63)), (1, .ref (N0 + 143)), (2, .ref (N0 + 157))] := hl
  have lt_h0 := hG.1.lt h0
  have lt_h1 := hG.1.lt h1
  have lt_h2 := hG.1.lt h2
  have lt_h3 := hG.1.lt h3
  have lt_h4 := hG.1.lt h4
  have lt_h5 := hG.1.lt h5
  have lt_h6 := hG.1.lt h6
  have lt_h7 := hG.1.lt h7
  refine lv_aload_n S.1 S.2.1 dX6_leastCost_0 rfl (lv_at hl 0 rfl) ?_
  refine gx_get (C := RX6) (T := TX6) (N := 2) S hG h0 i_X6_leastCost_X6 rfl 0 (by decide) (by decide +kernel) rfl dX6_leastCost_1 ?_
  refine lv_iconst (v := 0) S.1 S.2.1 dX6_leastCost_4 (by decide) ?_
  refine lv_iconst (v := 0) S.1 S.2.1 dX6_leastCost_5 (by decide) ?_
  refine gx_iast (f' := upd (fun _ => 0) 0 0) S hG 0 h1 rfl (fin_l (by decide)) dX6_leastCost_6 (rfl) (fun H locs hG => ?_)
  refine lv_aload_n S.1 S.2.1 dX6_leastCost_7 rfl (lv_at hl 0 rfl) ?_
  refine lv_iconst (v := 2) S.1 S.2.1 dX6_leastCost_8 (by decide) ?_
  refine lv_aload_n S.1 S.2.1 dX6_leastCost_9 rfl (lv_at hl 1 rfl) ?_
  refine gx_get (C := RX5) (T := TX5) (N := 7) S hG (fu_at (by omega) h2) i_X6_leastCost_X5 rfl 6 (by decide) (by decide +kernel) rfl dX6_leastCost_10 ?_
  refine lv_aload_n S.1 S.2.1 dX6_leastCost_13 rfl (lv_at hl 2 rfl) ?_
  refine gx_get (C := RX5) (T := TX5) (N := 7) S hG (fu_at (by omega) h3) i_X6_leastCost_X5 rfl 6 (by decide) (by decide +kernel) rfl dX6_leastCost_14 ?_
  refine lv_iadd S.1 S.2.1 dX6_leastCost_17 ?_
  refine fx_topi (y := 2) (by decide) ?_
  refine lv_imul S.1 S.2.1 dX6_leastCost_18 ?_
  refine fx_topi (y := 4) (by decide) ?_
  refine gx_put (C := RX6) (T := TX6) (N := 2) (ty := .int) (v := .int 4) (fs' := [.ref (N0 + 64), .int 4]) S hG (fu_at (by omega) h0) i_X6_leastCost_X6 rfl 1 (by decide) tyX6 tyX6_ok nmX6 (by decide +kernel) rfl (by decide +kernel) rfl rfl (Nat.le_of_ble_eq_true rfl) rfl dX6_leastCost_19 (fun H locs hG => ?_)
  refine lv_aload_n S.1 S.2.1 dX6_leastCost_22 rfl (lv_at hl 0 rfl) ?_
  refine lv_aload_n S.1 S.2.1 dX6_leastCost_23 rfl (lv_at hl 1 rfl) ?_
  refine lv_aload_n S.1 S.2.1 dX6_leastCost_24 rfl (lv_at hl 2 rfl) ?_
  refine lv_iconst (v := 1) S.1 S.2.1 dX6_leastCost_25 (by decide) ?_
  refine fx_cSv (As := [.ref (N0 + 63), .ref (N0 + 143), .ref (N0 + 157), .int 1]) (rest := []) S hG (k1312_X6_tryFrom (by omega) (fu_at (by omega) (fu_at (by omega) h2)) fu_s (fu_at (by omega) (fu_at (by omega) h3)) (fu_at (by omega) fu_s) (fu_at (by omega) (fu_at (by omega) h4)) (fu_at (by omega) (fu_at (by omega) h5)) (fu_at (by omega) (fu_at (by omega) h6)) (fu_at (by omega) (fu_at (by omega) h7))) (cwS 4 S.2.2.2.2 gX6_leastCost_X6_tryFrom rfl rfl rfl (by decide +kernel) ⟨Nat.le_of_ble_eq_true rfl, Nat.le_of_ble_eq_true rfl⟩) rfl hl.1 rfl (Nat.le_of_ble_eq_true rfl) dX6_leastCost_26 ⟨Nat.le_of_ble_eq_true rfl, Nat.le_of_ble_eq_true rfl⟩ (fun _ H locs hp hG => ?_)
  refine lv_aload_n S.1 S.2.1 dX6_leastCost_29 rfl (lv_at hl 0 rfl) ?_
  refine gx_get (C := RX6) (T := TX6) (N := 2) S hG fu_s i_X6_leastCost_X6 rfl 1 (by decide) (by decide +kernel) rfl dX6_leastCost_30 ?_
  have hG : fG N0 D vwCl (fty cI cC cL cD cII cTr cTm cIt cB) (fen ql) s (fu (fu F (N0 + 64) (.inl (cI, 7, .inl (upd (fun _ => 0) 0 0)))) (N0 + 63) (.inr (8, [.ref (N0 + 64), .int 0]))) n H locs := hG.weak (fun a e h => by
    rcases fu_cases h with ⟨rfl, he⟩ | ⟨hne0, h⟩
    · cases he; exact fu_s
    · skip
      rcases fu_cases h with ⟨rfl, he⟩ | ⟨hne1, h⟩
      · cases he; exact (fu_at (by omega) (fu_at (by omega) fu_s))
      · exact (fu_at (by omega) (fu_at (by omega) (fu_at (by omega) h))))
  exact fx_iret S hr hlocks () hG (rfl) dX6_leastCost_33
theorem k1314_X7_distanceByMatchings {n : Nat} (hn : N0 + 231 ≤ n) (h0 : F N0 = some (.inr (9, [.ref (N0 + 1), .ref (N0 + 2), .ref (N0 + 11), .ref (N0 + 13), .ref (N0 + 63), .ref (N0 + 65), .ref (N0 + 85), .int (-1), .int (-1), .int 32]))) (h1 : F (N0 + 1) = some (.inl (cTr, 3, .inr (.inr (.inr (.inr (va_up (va_up (va_up (fun _ => none) 0 (some (N0 + 143))) 1 (some (N0 + 150))) 2 (some (N0 + 157))))))))) (h2 : F (N0 + 143) = some (.inr (7, [.ref (N0 + 144), .ref (N0 + 145), .ref (N0 + 146), .ref (N0 + 147), .ref (N0 + 148), .ref (N0 + 149), .int 1]))) (h3 : F (N0 + 157) = some (.inr (7, [.ref (N0 + 158), .ref (N0 + 159), .ref (N0 + 160), .ref (N0 + 161), .ref (N0 + 162), .ref (N0 + 163), .int 1]))) (h4 : F (N0 + 63) = some (.inr (8, [.ref (N0 + 64), .int 0]))) (h5 : F (N0 + 64) = some (.inl (cI, 7, .inl (fun _ => 0)))) (h6 : F (N0 + 144) = some (.inl (cC, 20, .inl (upd (fun _ => 0) 0 97)))) (h7 : F (N0 + 158) = some (.inl (cC, 20, .inl (upd (fun _ => 0) 0 97)))) (h8 : F (N0 + 146) = some (.inl (cI, 20, .inl (fun _ => 0)))) (h9 : F (N0 + 160) = some (.inl (cI, 20, .inl (fun _ => 0)))) : Met l yX7_distanceByMatchings wsX7_distanceByMatchings ({ frames := 4, cells := 0, slots := 0, locals := 95 }) (va_Pc [.ref N0, .int 0, .int 2] (fP N0 D vwCl (fty cI cC cL cD cII cTr cTm cIt cB) (fen ql) F n)) (fQi N0 D vwCl (fty cI cC cL cD cII cTr cTm cIt cB) (fun (r : Int32) (_ : Unit) => r = 0) (fun _ => (fu (fu F (N0 + 64) (.inl (cI, 7, .inl (upd (fun _ => 0) 0 0)))) (N0 + 63) (.inr (8, [.ref (N0 + 64), .int 0])))) (fun _ => n)) 0 0 (fA N0) := by
  refine fx_start 5 rfl rfl (Nat.le_of_ble_eq_true rfl) ?_ rfl
  intro p e s m below meth c ls S hr hlocks hin hG hl
  have hl : lv_has ls 5 [(0, .ref N0), (1, .int 0), (2, .int 2)] := hl
  have lt_h0 := hG.1.lt h0
  have lt_h1 := hG.1.lt h1
  have lt_h2 := hG.1.lt h2
  have lt_h3 := hG.1.lt h3
  have lt_h4 := hG.1.lt h4
  have lt_h5 := hG.1.lt h5
  have lt_h6 := hG.1.lt h6
  have lt_h7 := hG.1.lt h7
  have lt_h8 := hG.1.lt h8
  have lt_h9 := hG.1.lt h9
  refine lv_aload_n S.1 S.2.1 dX7_distanceByMatchings_0 rfl (lv_at hl 0 rfl) ?_
  refine lv_iload_n S.1 S.2.1 dX7_distanceByMatchings_1 rfl (lv_at hl 1 rfl) ?_
  refine fx_cVr (As := [.int 0]) (rest := []) S hG (k26_X7_treeAt (by omega) h0 h1) h0 rfl (cwV 1 S.2.2.2.2 gX7_distanceByMatchings_X7_treeAt rfl rfl rfl (by decide +kernel) ⟨Nat.le_of_ble_eq_true rfl, Nat.le_of_ble_eq_true rfl⟩) rfl hl.1 rfl (Nat.le_of_ble_eq_true rfl) dX7_distanceByMatchings_2 ⟨Nat.le_of_ble_eq_true rfl, Nat.le_of_ble_eq_true rfl⟩ (fun rv_1 _ H locs hp hG => ?_)
  subst rv_1
  refine lv_astore_n (lv' := [(3, .ref (N0 + 143)), (0, .ref N0), (1, .int 0), (2, .int 2)]) S.1 S.2.1 dX7_distanceByMatchings_5 rfl hl (by decide) rfl (fun ls hl => ?_)
  refine lv_aload_n S.1 S.2.1 dX7_distanceByMatchings_6 rfl (lv_at hl 1 rfl) ?_
  refine lv_iload_n S.1 S.2.1 dX7_distanceByMatchings_7 rfl (lv_at hl 3 rfl) ?_
  refine fx_cVr (As := [.int 2]) (rest := []) S hG (k48_X7_treeAt (by omega) h0 h1) h0 rfl (cwV 1 S.2.2.2.2 gX7_distanceByMatchings_X7_treeAt rfl rfl rfl (by decide +kernel) ⟨Nat.le_of_ble_eq_true rfl, Nat.le_of_ble_eq_true rfl⟩) rfl hl.1 rfl (Nat.le_of_ble_eq_true rfl) dX7_distanceByMatchings_8 ⟨Nat.le_of_ble_eq_true rfl, Nat.le_of_ble_eq_true rfl⟩ (fun rv_2 _ H locs hp hG => ?_)
  subst rv_2
  refine lv_astore (lv' := [(4, .ref (N0 + 157)), (3, .ref (N0 + 143)), (0, .ref N0), (1, .int 0), (2, .int 2)]) S.1 S.2.1 dX7_distanceByMatchings_11 hl (by decide) rfl (fun ls hl => ?_)
  refine lv_aload_n S.1 S.2.1 dX7_distanceByMatchings_13 rfl (lv_at hl 1 rfl) ?_
  refine gx_get (C := RX5) (T := TX5) (N := 7) S hG h2 i_X7_distanceByMatchings_X5 rfl 6 (by decide) (by decide +kernel) rfl dX7_distanceByMatchings_14 ?_
  refine lv_bipush (v := 7) S.1 S.2.1 dX7_distanceByMatchings_17 (by decide) ?_
  refine lv_icmp_gt (tgt := 32) S.1 S.2.1 dX7_distanceByMatchings_19 (by decide) (fun c => absurd c (by decide)) (fun _ => ?_)
  refine lv_aload S.1 S.2.1 dX7_distanceByMatchings_22 (lv_at hl 0 rfl) ?_
  refine gx_get (C := RX5) (T := TX5) (N := 7) S hG h3 i_X7_distanceByMatchings_X5 rfl 6 (by decide) (by decide +kernel) rfl dX7_distanceByMatchings_24 ?_
  refine lv_bipush (v := 7) S.1 S.2.1 dX7_distanceByMatchings_27 (by decide) ?_
  refine lv_icmp_le (tgt := 42) S.1 S.2.1 dX7_distanceByMatchings_29 (by decide) (fun _ => ?_) (fun c => absurd (by decide) c)
  refine lv_aload_n S.1 S.2.1 dX7_distanceByMatchings_42 rfl (lv_at hl 2 rfl) ?_
  refine gx_get (C := RX7) (T := TX7) (N := 10) S hG h0 i_X7_distanceByMatchings_X7 rfl 4 (by decide) (by decide +kernel) rfl dX7_distanceByMatchings_43 ?_
  refine lv_aload_n S.1 S.2.1 dX7_distanceByMatchings_46 rfl (lv_at hl 1 rfl) ?_
  refine lv_aload S.1 S.2.1 dX7_distanceByMatchings_47 (lv_at hl 0 rfl) ?_
  refine fx_cVi (As := [.ref (N0 + 143), .ref (N0 + 157)]) (rest := []) S hG (k1313_X6_leastCost (by omega) h4 h5 h2 h3 h6 h7 h8 h9) h4 rfl (cwV 2 S.2.2.2.2 gX7_distanceByMatchings_X6_leastCost rfl rfl rfl (by decide +kernel) ⟨Nat.le_of_ble_eq_true rfl, Nat.le_of_ble_eq_true rfl⟩) rfl hl.1 rfl (Nat.le_of_ble_eq_true rfl) dX7_distanceByMatchings_49 ⟨Nat.le_of_ble_eq_true rfl, Nat.le_of_ble_eq_true rfl⟩ (fun rv_3 _ H locs hp hG => ?_)
  subst rv_3
  exact fx_iret S hr hlocks () hG (rfl) dX7_distanceByMatchings_52
theorem k1315_L_distanceByMatchings {n : Nat} (hn : N0 + 231 ≤ n) (h0 : F N0 = some (.inr (9, [.ref (N0 + 1), .ref (N0 + 2), .ref (N0 + 11), .ref (N0 + 13), .ref (N0 + 63), .ref (N0 + 65), .ref (N0 + 85), .int (-1), .int (-1), .int 32]))) (h1 : F (N0 + 1) = some (.inl (cTr, 3, .inr (.inr (.inr (.inr (va_up (va_up (va_up (fun _ => none) 0 (some (N0 + 143))) 1 (some (N0 + 150))) 2 (some (N0 + 157))))))))) (h2 : F (N0 + 143) = some (.inr (7, [.ref (N0 + 144), .ref (N0 + 145), .ref (N0 + 146), .ref (N0 + 147), .ref (N0 + 148), .ref (N0 + 149), .int 1]))) (h3 : F (N0 + 157) = some (.inr (7, [.ref (N0 + 158), .ref (N0 + 159), .ref (N0 + 160), .ref (N0 + 161), .ref (N0 + 162), .ref (N0 + 163), .int 1]))) (h4 : F (N0 + 63) = some (.inr (8, [.ref (N0 + 64), .int 0]))) (h5 : F (N0 + 64) = some (.inl (cI, 7, .inl (fun _ => 0)))) (h6 : F (N0 + 144) = some (.inl (cC, 20, .inl (upd (fun _ => 0) 0 97)))) (h7 : F (N0 + 158) = some (.inl (cC, 20, .inl (upd (fun _ => 0) 0 97)))) (h8 : F (N0 + 146) = some (.inl (cI, 20, .inl (fun _ => 0)))) (h9 : F (N0 + 160) = some (.inl (cI, 20, .inl (fun _ => 0)))) (h10 : F (N0 + 229) = some (.inl (cL, 1, .inr (.inl (fun _ => 0))))) : Met l yL_distanceByMatchings wsL_distanceByMatchings ({ frames := 5, cells := 0, slots := 0, locals := 119 }) (va_Pc [.ref N0, .int 0, .int 2, .ref (N0 + 229)] (fP N0 D vwCl (fty cI cC cL cD cII cTr cTm cIt cB) (fen ql) F n)) (fQi N0 D vwCl (fty cI cC cL cD cII cTr cTm cIt cB) (fun (r : Int32) (_ : Unit) => r = 0) (fun _ => (fu (fu (fu F (N0 + 64) (.inl (cI, 7, .inl (upd (fun _ => 0) 0 0)))) (N0 + 63) (.inr (8, [.ref (N0 + 64), .int 0]))) (N0 + 229) (.inl (cL, 1, .inr (.inl (vp_updL (fun _ => 0) 0 0)))))) (fun _ => n)) 0 0 (fA N0) := by
  refine fx_startW (hh := [(0, 10, 13, 19), (0, 10, 17, 47)]) 5 rfl rfl (Nat.le_of_ble_eq_true rfl) ?_ rfl
  intro p e s m below meth c ls S htab hr hlocks hG hl
  have hl : lv_has ls 5 [(0, .ref N0), (1, .int 0), (2, .int 2), (3, .ref (N0 + 229))] := hl
  have lt_h0 := hG.1.lt h0
  have lt_h1 := hG.1.lt h1
  have lt_h2 := hG.1.lt h2
  have lt_h3 := hG.1.lt h3
  have lt_h4 := hG.1.lt h4
  have lt_h5 := hG.1.lt h5
  have lt_h6 := hG.1.lt h6
  have lt_h7 := hG.1.lt h7
  have lt_h8 := hG.1.lt h8
  have lt_h9 := hG.1.lt h9
  have lt_h10 := hG.1.lt h10
  refine lv_aload_n S.1 S.2.1 dL_distanceByMatchings_0 rfl (lv_at hl 3 rfl) ?_
  refine lv_iconst (v := 0) S.1 S.2.1 dL_distanceByMatchings_1 (by decide) ?_
  refine lv_aload_n S.1 S.2.1 dL_distanceByMatchings_2 rfl (lv_at hl 0 rfl) ?_
  refine lv_iload_n S.1 S.2.1 dL_distanceByMatchings_3 rfl (lv_at hl 1 rfl) ?_
  refine lv_iload_n S.1 S.2.1 dL_distanceByMatchings_4 rfl (lv_at hl 2 rfl) ?_
  refine fx_cVi (As := [.int 0, .int 2]) (rest := [.int 0, .ref (N0 + 229)]) S hG (k1314_X7_distanceByMatchings (by omega) h0 h1 h2 h3 h4 h5 h6 h7 h8 h9) h0 rfl (cwV 2 S.2.2.2.2 gL_distanceByMatchings_X7_distanceByMatchings rfl rfl rfl (by decide +kernel) ⟨Nat.le_of_ble_eq_true rfl, Nat.le_of_ble_eq_true rfl⟩) rfl hl.1 rfl (Nat.le_of_ble_eq_true rfl) dL_distanceByMatchings_5 ⟨Nat.le_of_ble_eq_true rfl, Nat.le_of_ble_eq_true rfl⟩ (fun rv_1 _ H locs hp hG => ?_)
  subst rv_1
  refine lv_i2l (v := 0) S.1 S.2.1 dL_distanceByMatchings_8 (by decide) ?_
  refine gx_last (f' := vp_updL (fun _ => 0) 0 0) S hG 2 (fu_at (by omega) (fu_at (by omega) h10)) rfl (fin_l (by decide)) dL_distanceByMatchings_9 rfl (fun H locs hG => ?_)
  refine lv_goto (tgt := 21) S.1 S.2.1 dL_distanceByMatchings_10 (by decide) ?_
  refine lv_iconst (v := 0) S.1 S.2.1 dL_distanceByMatchings_21 (by decide) ?_
  exact fx_iret S hr hlocks () hG (rfl) dL_distanceByMatchings_22
theorem k1316_X10_distanceByMatchings {n : Nat} (hn : N0 + 231 ≤ n) (h0 : F (N0 + 164) = some (.inr (12, [.ref (N0 + 165), .int 0, .ref (N0 + 181), .int 0, .int 0, .int 0, .int (-1), .ref (ql 24), .ref (N0 + 182), .ref (N0 + 187), .ref (N0 + 208), .ref (N0 + 209), .ref (N0 + 210), .ref (N0 + 211), .ref (N0 + 212), .int 0, .ref (N0 + 213), .ref (N0 + 218), .ref (N0 + 223), .ref (N0 + 224), .ref (N0 + 225), .ref (N0 + 226), .ref (N0 + 227), .int 0, .int 0, .ref (N0 + 228), .null, .int (-1), .int 0, .int 0, .int 0]))) (h1 : F (N0 + 165) = some (.inl (cTm, 3, .inr (.inr (.inr (.inr (va_up (va_up (va_up (fun _ => none) 0 (some (N0 + 166))) 1 (some (N0 + 171))) 2 (some (N0 + 176))))))))) (h2 : F (N0 + 166) = some (.inr (11, [.ref (N0 + 167), .ref (N0 + 168), .ref (N0 + 169), .ref (N0 + 170), .int 1]))) (h3 : F (N0 + 176) = some (.inr (11, [.ref (N0 + 177), .ref (N0 + 178), .ref (N0 + 179), .ref (N0 + 180), .int 1]))) (h4 : F (N0 + 167) = some (.inl (cI, 20, .inl (upd (fun _ => 0) 0 97)))) (h5 : F (N0 + 177) = some (.inl (cI, 20, .inl (upd (fun _ => 0) 0 97)))) (h6 : F (N0 + 169) = some (.inl (cI, 20, .inl (upd (fun _ => 0) 0 0)))) (h7 : F (N0 + 179) = some (.inl (cI, 20, .inl (upd (fun _ => 0) 0 0)))) (h8 : F (N0 + 187) = some (.inl (cII, 20, .inr (.inr (.inr (.inr (fun j => if j < 20 then some ((N0 + 188) + j) else none))))))) (h9 : F (N0 + 188) = some (.inl (cI, 20, .inl (fun _ => 0)))) : Met l yX10_distanceByMatchings wsX10_distanceByMatchings ({ frames := 3, cells := 4, slots := 2, locals := 72 }) (va_Pc [.ref (N0 + 164), .int 0, .int 2] (fP N0 D vwCl (fty cI cC cL cD cII cTr cTm cIt cB) (fen ql) F n)) (fQi N0 D vwCl (fty cI cC cL cD cII cTr cTm cIt cB) (fun (r : Int32) (_ : Unit) => r = 0) (fun _ => (fblk (fu (fu F (N0 + 164) (.inr (12, [.ref (N0 + 165), .int 0, .ref (N0 + 181), .int 0, .int 0, .int 0, .int (-1), .ref (ql 24), .ref (N0 + 182), .ref (N0 + 187), .ref (N0 + 208), .ref (N0 + 209), .ref (N0 + 210), .ref (N0 + 211), .ref (N0 + 212), .int 0, .ref (N0 + 213), .ref (N0 + 218), .ref (N0 + 223), .ref (N0 + 224), .ref (N0 + 225), .ref (N0 + 226), .ref (N0 + 227), .int 0, .int 0, .ref (N0 + 228), .null, .int (-1), .int 0, .int 0, .int 0]))) (N0 + 188) (.inl (cI, 20, .inl (upd (fun _ => 0) 0 0)))) n [.inl (cI, 0, .inl (fun _ => 0)), .inl (cI, 0, .inl (fun _ => 0)), .inl (cII, 1, .inr (.inr (.inr (.inr (fun j => if j < 1 then some ((n + 3) + j) else none))))), .inl (cI, 1, .inl (fun _ => 0))])) (fun _ => (n + 4))) 4 2 (fA N0) := by
  refine fx_start 3 rfl rfl (Nat.le_of_ble_eq_true rfl) ?_ rfl
  intro p e s m below meth c ls S hr hlocks hin hG hl
  have hl : lv_has ls 3 [(0, .ref (N0 + 164)), (1, .int 0), (2, .int 2)] := hl
  have lt_h0 := hG.1.lt h0
  have lt_h1 := hG.1.lt h1
  have lt_h2 := hG.1.lt h2
  have lt_h3 := hG.1.lt h3
  have lt_h4 := hG.1.lt h4
  have lt_h5 := hG.1.lt h5
  have lt_h6 := hG.1.lt h6
  have lt_h7 := hG.1.lt h7
  have lt_h8 := hG.1.lt h8
  have lt_h9 := hG.1.lt h9
  refine lv_aload_n S.1 S.2.1 dX10_distanceByMatchings_0 rfl (lv_at hl 0 rfl) ?_
  refine lv_iload_n S.1 S.2.1 dX10_distanceByMatchings_1 rfl (lv_at hl 1 rfl) ?_
  refine lv_iload_n S.1 S.2.1 dX10_distanceByMatchings_2 rfl (lv_at hl 2 rfl) ?_
  refine fx_cVi (As := [.int 0, .int 2]) (rest := []) S hG (k474_X10_areNone (by omega) h0) h0 rfl (cwV 2 S.2.2.2.2 gX10_distanceByMatchings_X10_areNone rfl rfl rfl (by decide +kernel) ⟨Nat.le_of_ble_eq_true rfl, Nat.le_of_ble_eq_true rfl⟩) rfl hl.1 rfl (Nat.le_of_ble_eq_true rfl) dX10_distanceByMatchings_3 ⟨Nat.le_of_ble_eq_true rfl, Nat.le_of_ble_eq_true rfl⟩ (fun rv_1 _ H locs hp hG => ?_)
  subst rv_1
  refine lv_if_eq (tgt := 11) S.1 S.2.1 dX10_distanceByMatchings_6 (by decide) (fun _ => ?_) (fun c => absurd (by decide) c)
  refine lv_aload_n S.1 S.2.1 dX10_distanceByMatchings_11 rfl (lv_at hl 0 rfl) ?_
  refine gx_get (C := RX10) (T := TX10) (N := 31) S hG fu_s i_X10_distanceByMatchings_X10 rfl 0 (by decide) (by decide +kernel) rfl dX10_distanceByMatchings_12 ?_
  refine lv_iload_n S.1 S.2.1 dX10_distanceByMatchings_15 rfl (lv_at hl 1 rfl) ?_
  refine gx_aldq (x := (N0 + 166)) S hG 6 rfl (fu_at (by omega) h1) rfl (fin_l (by decide)) (rfl) dX10_distanceByMatchings_16 ?_
  refine gx_getN (C := RX9) (T := TX9) (N := 5) S hG (fu_at (by omega) h2) i_X10_distanceByMatchings_X9 rfl 4 (by decide) (List.mem_of_getElem? (i := 4) rfl) rfl dX10_distanceByMatchings_17 ?_
  refine lv_bipush (v := 7) S.1 S.2.1 dX10_distanceByMatchings_20 (by decide) ?_
  refine lv_icmp_gt (tgt := 39) S.1 S.2.1 dX10_distanceByMatchings_22 (by decide) (fun c => absurd c (by decide)) (fun _ => ?_)
  refine lv_aload_n S.1 S.2.1 dX10_distanceByMatchings_25 rfl (lv_at hl 0 rfl) ?_
  refine gx_get (C := RX10) (T := TX10) (N := 31) S hG fu_s i_X10_distanceByMatchings_X10 rfl 0 (by decide) (by decide +kernel) rfl dX10_distanceByMatchings_26 ?_
  refine lv_iload_n S.1 S.2.1 dX10_distanceByMatchings_29 rfl (lv_at hl 2 rfl) ?_
  refine gx_aldq (x := (N0 + 176)) S hG 6 rfl (fu_at (by omega) h1) rfl (fin_l (by decide)) (rfl) dX10_distanceByMatchings_30 ?_
  refine gx_getN (C := RX9) (T := TX9) (N := 5) S hG (fu_at (by omega) h3) i_X10_distanceByMatchings_X9 rfl 4 (by decide) (List.mem_of_getElem? (i := 4) rfl) rfl dX10_distanceByMatchings_31 ?_
  refine lv_bipush (v := 7) S.1 S.2.1 dX10_distanceByMatchings_34 (by decide) ?_
  refine lv_icmp_le (tgt := 47) S.1 S.2.1 dX10_distanceByMatchings_36 (by decide) (fun _ => ?_) (fun c => absurd (by decide) c)
  refine lv_aload_n S.1 S.2.1 dX10_distanceByMatchings_47 rfl (lv_at hl 0 rfl) ?_
  refine lv_aload_n S.1 S.2.1 dX10_distanceByMatchings_48 rfl (lv_at hl 0 rfl) ?_
  refine gx_get (C := RX10) (T := TX10) (N := 31) S hG fu_s i_X10_distanceByMatchings_X10 rfl 0 (by decide) (by decide +kernel) rfl dX10_distanceByMatchings_49 ?_
  refine lv_iload_n S.1 S.2.1 dX10_distanceByMatchings_52 rfl (lv_at hl 1 rfl) ?_
  refine gx_aldq (x := (N0 + 166)) S hG 6 rfl (fu_at (by omega) h1) rfl (fin_l (by decide)) (rfl) dX10_distanceByMatchings_53 ?_
  refine lv_aload_n S.1 S.2.1 dX10_distanceByMatchings_54 rfl (lv_at hl 0 rfl) ?_
  refine gx_get (C := RX10) (T := TX10) (N := 31) S hG fu_s i_X10_distanceByMatchings_X10 rfl 0 (by decide) (by decide +kernel) rfl dX10_distanceByMatchings_55 ?_
  refine lv_iload_n S.1 S.2.1 dX10_distanceByMatchings_58 rfl (lv_at hl 2 rfl) ?_
  refine gx_aldq (x := (N0 + 176)) S hG 6 rfl (fu_at (by omega) h1) rfl (fin_l (by decide)) (rfl) dX10_distanceByMatchings_59 ?_
  refine fx_cVi (As := [.ref (N0 + 166), .ref (N0 + 176)]) (rest := []) S hG (k1215_X10_fills (by omega) (fu_at (by omega) h2) (fu_at (by omega) h3) (fu_at (by omega) h4) (fu_at (by omega) h5) (fu_at (by omega) h6) (fu_at (by omega) h7) fu_s (fu_at (by omega) h8) (fu_at (by omega) h9)) fu_s rfl (cwV 2 S.2.2.2.2 gX10_distanceByMatchings_X10_fills rfl rfl rfl (by decide +kernel) ⟨Nat.le_of_ble_eq_true rfl, Nat.le_of_ble_eq_true rfl⟩) rfl hl.1 rfl (Nat.le_of_ble_eq_true rfl) dX10_distanceByMatchings_60 ⟨Nat.le_of_ble_eq_true rfl, Nat.le_of_ble_eq_true rfl⟩ (fun rv_2 _ H locs hp hG => ?_)
  subst rv_2
  refine W.widen (k := 4) (n := 2) (by decide) (by decide) ?_
  have hG : fG N0 D vwCl (fty cI cC cL cD cII cTr cTm cIt cB) (fen ql) s (fblk (fu (fu F (N0 + 164) (.inr (12, [.ref (N0 + 165), .int 0, .ref (N0 + 181), .int 0, .int 0, .int 0, .int (-1), .ref (ql 24), .ref (N0 + 182), .ref (N0 + 187), .ref (N0 + 208), .ref (N0 + 209), .ref (N0 + 210), .ref (N0 + 211), .ref (N0 + 212), .int 0, .ref (N0 + 213), .ref (N0 + 218), .ref (N0 + 223), .ref (N0 + 224), .ref (N0 + 225), .ref (N0 + 226), .ref (N0 + 227), .int 0, .int 0, .ref (N0 + 228), .null, .int (-1), .int 0, .int 0, .int 0]))) (N0 + 188) (.inl (cI, 20, .inl (upd (fun _ => 0) 0 0)))) n [.inl (cI, 0, .inl (fun _ => 0)), .inl (cI, 0, .inl (fun _ => 0)), .inl (cII, 1, .inr (.inr (.inr (.inr (fun j => if j < 1 then some ((n + 3) + j) else none))))), .inl (cI, 1, .inl (fun _ => 0))]) (n + 4) H locs := hG.weak (fun a e h => by
    rcases fblk_cases 4 rfl h with ⟨k, rfl, hlt, hk⟩ | ⟨hout, h⟩
    · rcases (show k = 0 ∨ k = 1 ∨ k = 2 ∨ k = 3 by omega) with rfl | rfl | rfl | rfl
      · cases (show some (.inl (cI, 0, .inl (fun _ => 0))) = some e from hk); exact (fblk_at 0 (by omega) rfl)
      · cases (show some (.inl (cI, 0, .inl (fun _ => 0))) = some e from hk); exact (fblk_at 1 (by omega) rfl)
      · cases (show some (.inl (cII, 1, .inr (.inr (.inr (.inr (fun j => if j < 1 then some ((n + 3) + j) else none)))))) = some e from hk); exact (fblk_at 2 (by omega) rfl)
      · cases (show some (.inl (cI, 1, .inl (fun _ => 0))) = some e from hk); exact (fblk_at 3 (by omega) rfl)
    · rcases fu_cases h with ⟨rfl, he⟩ | ⟨hne0, h⟩
      · cases he; exact (fblk_sk 4 rfl (by omega) fu_s)
      · skip
        rcases fu_cases h with ⟨rfl, he⟩ | ⟨hne1, h⟩
        · cases he; exact (fblk_sk 4 rfl (by omega) (fu_at (by omega) fu_s))
        · exact (fblk_sk 4 rfl (by omega) (fu_at (by omega) (fu_at (by omega) h))))
  exact fx_iret S hr hlocks () hG (rfl) dX10_distanceByMatchings_63
theorem k1317_X7_distanceByMatchings {n : Nat} {a2 : Int32} (g_a2_ge_3 : 3 ≤ a2) (hst : l.stackTraces = false) (hn : N0 + 231 ≤ n) (h0 : F N0 = some (.inr (9, [.ref (N0 + 1), .ref (N0 + 2), .ref (N0 + 11), .ref (N0 + 13), .ref (N0 + 63), .ref (N0 + 65), .ref (N0 + 85), .int (-1), .int (-1), .int 32]))) (h1 : F (N0 + 1) = some (.inl (cTr, 3, .inr (.inr (.inr (.inr (va_up (va_up (va_up (fun _ => none) 0 (some (N0 + 143))) 1 (some (N0 + 150))) 2 (some (N0 + 157))))))))) : vx_Met l yX7_distanceByMatchings wsX7_distanceByMatchings ({ frames := 7, cells := 1, slots := 6, locals := 103 }) (va_Pc [.ref N0, .int 0, .int a2] (fP N0 D vwCl (fty cI cC cL cD cII cTr cTm cIt cB) (fen ql) F n)) (fNo N0 D vwCl (fty cI cC cL cD cII cTr cTm cIt cB) F n) (fXC N0 D vwCl (fty cI cC cL cD cII cTr cTm cIt cB) "java/lang/IndexOutOfBoundsException" F n) 1 6 (fA N0) := by
  refine fx_startX 5 rfl rfl (Nat.le_of_ble_eq_true rfl) ?_ rfl
  intro p e s m below meth c ls S htab hlocks hG hl
  have hl : lv_has ls 5 [(0, .ref N0), (1, .int 0), (2, .int a2)] := hl
  have lt_h0 := hG.1.lt h0
  have lt_h1 := hG.1.lt h1
  refine lv_aload_n S.1 S.2.1 dX7_distanceByMatchings_0 rfl (lv_at hl 0 rfl) ?_
  refine lv_iload_n S.1 S.2.1 dX7_distanceByMatchings_1 rfl (lv_at hl 1 rfl) ?_
  refine fx_cVr (As := [.int 0]) (rest := []) S hG (k26_X7_treeAt (by omega) h0 h1) h0 rfl (cwV 1 S.2.2.2.2 gX7_distanceByMatchings_X7_treeAt rfl rfl rfl (by decide +kernel) ⟨Nat.le_of_ble_eq_true rfl, Nat.le_of_ble_eq_true rfl⟩) rfl hl.1 rfl (Nat.le_of_ble_eq_true rfl) dX7_distanceByMatchings_2 ⟨Nat.le_of_ble_eq_true rfl, Nat.le_of_ble_eq_true rfl⟩ (fun rv_1 _ H locs hp hG => ?_)
  subst rv_1
  refine lv_astore_n (lv' := [(3, .ref (N0 + 143)), (0, .ref N0), (1, .int 0), (2, .int a2)]) S.1 S.2.1 dX7_distanceByMatchings_5 rfl hl (by decide) rfl (fun ls hl => ?_)
  refine lv_aload_n S.1 S.2.1 dX7_distanceByMatchings_6 rfl (lv_at hl 1 rfl) ?_
  refine lv_iload_n S.1 S.2.1 dX7_distanceByMatchings_7 rfl (lv_at hl 3 rfl) ?_
  refine fx_xV (As := [.int a2]) (rest := []) S hG (k478_X7_treeAt g_a2_ge_3 hst (by omega)) h0 rfl (cwV 1 S.2.2.2.2 gX7_distanceByMatchings_X7_treeAt rfl rfl rfl (by decide +kernel) ⟨Nat.le_of_ble_eq_true rfl, Nat.le_of_ble_eq_true rfl⟩) rfl hl.1 rfl (Nat.le_of_ble_eq_true rfl) dX7_distanceByMatchings_8 ⟨Nat.le_of_ble_eq_true rfl, Nat.le_of_ble_eq_true rfl⟩ (fun ceq_2 q_2 H locs n_3 hn_3 hG h1q_2 h2q_2 h3q_2 => ?_)
  exact fx_out htab hlocks hG (by omega) h1q_2 h2q_2 h3q_2 (by decide) (by decide)
theorem k1318_L_distanceByMatchings {n : Nat} {a2 : Int32} (g_a2_ge_3 : 3 ≤ a2) (hst : l.stackTraces = false) (hn : N0 + 231 ≤ n) (h0 : F N0 = some (.inr (9, [.ref (N0 + 1), .ref (N0 + 2), .ref (N0 + 11), .ref (N0 + 13), .ref (N0 + 63), .ref (N0 + 65), .ref (N0 + 85), .int (-1), .int (-1), .int 32]))) (h1 : F (N0 + 1) = some (.inl (cTr, 3, .inr (.inr (.inr (.inr (va_up (va_up (va_up (fun _ => none) 0 (some (N0 + 143))) 1 (some (N0 + 150))) 2 (some (N0 + 157))))))))) : Met l yL_distanceByMatchings wsL_distanceByMatchings ({ frames := 8, cells := 1, slots := 6, locals := 127 }) (va_Pc [.ref N0, .int 0, .int a2, .ref (N0 + 229)] (fP N0 D vwCl (fty cI cC cL cD cII cTr cTm cIt cB) (fen ql) F n)) (fQi N0 D vwCl (fty cI cC cL cD cII cTr cTm cIt cB) (fun (r : Int32) (u : Nat) => r = 1 ∧ n ≤ u) (fun _ => F) (fun u => u)) 1 6 (fA N0) := by
  refine fx_startW (hh := [(0, 10, 13, 19), (0, 10, 17, 47)]) 5 rfl rfl (Nat.le_of_ble_eq_true rfl) ?_ rfl
  intro p e s m below meth c ls S htab hr hlocks hG hl
  have hl : lv_has ls 5 [(0, .ref N0), (1, .int 0), (2, .int a2), (3, .ref (N0 + 229))] := hl
  have lt_h0 := hG.1.lt h0
  have lt_h1 := hG.1.lt h1
  refine lv_aload_n S.1 S.2.1 dL_distanceByMatchings_0 rfl (lv_at hl 3 rfl) ?_
  refine lv_iconst (v := 0) S.1 S.2.1 dL_distanceByMatchings_1 (by decide) ?_
  refine lv_aload_n S.1 S.2.1 dL_distanceByMatchings_2 rfl (lv_at hl 0 rfl) ?_
  refine lv_iload_n S.1 S.2.1 dL_distanceByMatchings_3 rfl (lv_at hl 1 rfl) ?_
  refine lv_iload_n S.1 S.2.1 dL_distanceByMatchings_4 rfl (lv_at hl 2 rfl) ?_
  refine fx_xV (As := [.int 0, .int a2]) (rest := [.int 0, .ref (N0 + 229)]) S hG (k1317_X7_distanceByMatchings g_a2_ge_3 hst (by omega) h0 h1) h0 rfl (cwV 2 S.2.2.2.2 gL_distanceByMatchings_X7_distanceByMatchings rfl rfl rfl (by decide +kernel) ⟨Nat.le_of_ble_eq_true rfl, Nat.le_of_ble_eq_true rfl⟩) rfl hl.1 rfl (Nat.le_of_ble_eq_true rfl) dL_distanceByMatchings_5 ⟨Nat.le_of_ble_eq_true rfl, Nat.le_of_ble_eq_true rfl⟩ (fun ceq_1 q_1 H locs n_2 hn_2 hG h1q_1 h2q_1 h3q_1 => ?_)
  refine fx_catch (hh := [(0, 10, 13, 19), (0, 10, 17, 47)]) S htab hG h1q_1 h2q_1 h3q_1 [] ⟨0, 10, 13, 19⟩ [⟨0, 10, 17, 47⟩] rfl [] (fun z hz => absurd hz List.not_mem_nil) (by decide) (by decide) (by decide +kernel) (List.mem_of_getElem? (i := 2) rfl) ?_
  refine lv_astore (lv' := [(4, .ref q_1), (0, .ref N0), (1, .int 0), (2, .int a2), (3, .ref (N0 + 229))]) S.1 S.2.1 dL_distanceByMatchings_13 hl (by decide) rfl (fun ls hl => ?_)
  refine lv_iconst (v := 1) S.1 S.2.1 dL_distanceByMatchings_15 (by decide) ?_
  exact fx_iret S hr hlocks n_2 hG (⟨rfl, hn_2⟩) dL_distanceByMatchings_16
theorem k1319_X10_distanceByMatchings {n : Nat} {a2 : Int32} (g_a2_ge_3 : 3 ≤ a2) (hn : N0 + 231 ≤ n) (h0 : F (N0 + 164) = some (.inr (12, [.ref (N0 + 165), .int 0, .ref (N0 + 181), .int 0, .int 0, .int 0, .int (-1), .ref (ql 24), .ref (N0 + 182), .ref (N0 + 187), .ref (N0 + 208), .ref (N0 + 209), .ref (N0 + 210), .ref (N0 + 211), .ref (N0 + 212), .int 0, .ref (N0 + 213), .ref (N0 + 218), .ref (N0 + 223), .ref (N0 + 224), .ref (N0 + 225), .ref (N0 + 226), .ref (N0 + 227), .int 0, .int 0, .ref (N0 + 228), .null, .int (-1), .int 0, .int 0, .int 0]))) : Met l yX10_distanceByMatchings wsX10_distanceByMatchings ({ frames := 3, cells := 0, slots := 0, locals := 64 }) (va_Pc [.ref (N0 + 164), .int 0, .int a2] (fP N0 D vwCl (fty cI cC cL cD cII cTr cTm cIt cB) (fen ql) F n)) (fQi N0 D vwCl (fty cI cC cL cD cII cTr cTm cIt cB) (fun (r : Int32) (_ : Unit) => r = 0) (fun _ => (fu F (N0 + 164) (.inr (12, [.ref (N0 + 165), .int 1, .ref (N0 + 181), .int 0, .int 0, .int 0, .int (-1), .ref (ql 24), .ref (N0 + 182), .ref (N0 + 187), .ref (N0 + 208), .ref (N0 + 209), .ref (N0 + 210), .ref (N0 + 211), .ref (N0 + 212), .int 0, .ref (N0 + 213), .ref (N0 + 218), .ref (N0 + 223), .ref (N0 + 224), .ref (N0 + 225), .ref (N0 + 226), .ref (N0 + 227), .int 0, .int 0, .ref (N0 + 228), .null, .int (-1), .int 0, .int 0, .int 0])))) (fun _ => n)) 0 0 (fA N0) := by
  refine fx_start 3 rfl rfl (Nat.le_of_ble_eq_true rfl) ?_ rfl
  intro p e s m below meth c ls S hr hlocks hin hG hl
  have hl : lv_has ls 3 [(0, .ref (N0 + 164)), (1, .int 0), (2, .int a2)] := hl
  have lt_h0 := hG.1.lt h0
  refine lv_aload_n S.1 S.2.1 dX10_distanceByMatchings_0 rfl (lv_at hl 0 rfl) ?_
  refine lv_iload_n S.1 S.2.1 dX10_distanceByMatchings_1 rfl (lv_at hl 1 rfl) ?_
  refine lv_iload_n S.1 S.2.1 dX10_distanceByMatchings_2 rfl (lv_at hl 2 rfl) ?_
  refine fx_cVi (As := [.int 0, .int a2]) (rest := []) S hG (k483_X10_areNone g_a2_ge_3 (by omega) h0) h0 rfl (cwV 2 S.2.2.2.2 gX10_distanceByMatchings_X10_areNone rfl rfl rfl (by decide +kernel) ⟨Nat.le_of_ble_eq_true rfl, Nat.le_of_ble_eq_true rfl⟩) rfl hl.1 rfl (Nat.le_of_ble_eq_true rfl) dX10_distanceByMatchings_3 ⟨Nat.le_of_ble_eq_true rfl, Nat.le_of_ble_eq_true rfl⟩ (fun rv_1 _ H locs hp hG => ?_)
  subst rv_1
  refine lv_if_eq (tgt := 11) S.1 S.2.1 dX10_distanceByMatchings_6 (by decide) (fun c => absurd c (by decide)) (fun _ => ?_)
  refine lv_iconst (v := 0) S.1 S.2.1 dX10_distanceByMatchings_9 (by decide) ?_
  exact fx_iret S hr hlocks () hG (rfl) dX10_distanceByMatchings_10
theorem k1320_X7_distanceByMatchings {n : Nat} {a2 : Int32} (g_a2_le_m1 : a2 ≤ (-1)) (hst : l.stackTraces = false) (hn : N0 + 231 ≤ n) (h0 : F N0 = some (.inr (9, [.ref (N0 + 1), .ref (N0 + 2), .ref (N0 + 11), .ref (N0 + 13), .ref (N0 + 63), .ref (N0 + 65), .ref (N0 + 85), .int (-1), .int (-1), .int 32]))) (h1 : F (N0 + 1) = some (.inl (cTr, 3, .inr (.inr (.inr (.inr (va_up (va_up (va_up (fun _ => none) 0 (some (N0 + 143))) 1 (some (N0 + 150))) 2 (some (N0 + 157))))))))) : vx_Met l yX7_distanceByMatchings wsX7_distanceByMatchings ({ frames := 7, cells := 1, slots := 6, locals := 103 }) (va_Pc [.ref N0, .int 1, .int a2] (fP N0 D vwCl (fty cI cC cL cD cII cTr cTm cIt cB) (fen ql) F n)) (fNo N0 D vwCl (fty cI cC cL cD cII cTr cTm cIt cB) F n) (fXC N0 D vwCl (fty cI cC cL cD cII cTr cTm cIt cB) "java/lang/IndexOutOfBoundsException" F n) 1 6 (fA N0) := by
  refine fx_startX 5 rfl rfl (Nat.le_of_ble_eq_true rfl) ?_ rfl
  intro p e s m below meth c ls S htab hlocks hG hl
  have hl : lv_has ls 5 [(0, .ref N0), (1, .int 1), (2, .int a2)] := hl
  have lt_h0 := hG.1.lt h0
  have lt_h1 := hG.1.lt h1
  refine lv_aload_n S.1 S.2.1 dX7_distanceByMatchings_0 rfl (lv_at hl 0 rfl) ?_
  refine lv_iload_n S.1 S.2.1 dX7_distanceByMatchings_1 rfl (lv_at hl 1 rfl) ?_
  refine fx_cVr (As := [.int 1]) (rest := []) S hG (k42_X7_treeAt (by omega) h0 h1) h0 rfl (cwV 1 S.2.2.2.2 gX7_distanceByMatchings_X7_treeAt rfl rfl rfl (by decide +kernel) ⟨Nat.le_of_ble_eq_true rfl, Nat.le_of_ble_eq_true rfl⟩) rfl hl.1 rfl (Nat.le_of_ble_eq_true rfl) dX7_distanceByMatchings_2 ⟨Nat.le_of_ble_eq_true rfl, Nat.le_of_ble_eq_true rfl⟩ (fun rv_1 _ H locs hp hG => ?_)
  subst rv_1
  refine lv_astore_n (lv' := [(3, .ref (N0 + 150)), (0, .ref N0), (1, .int 1), (2, .int a2)]) S.1 S.2.1 dX7_distanceByMatchings_5 rfl hl (by decide) rfl (fun ls hl => ?_)
  refine lv_aload_n S.1 S.2.1 dX7_distanceByMatchings_6 rfl (lv_at hl 1 rfl) ?_
  refine lv_iload_n S.1 S.2.1 dX7_distanceByMatchings_7 rfl (lv_at hl 3 rfl) ?_
  refine fx_xV (As := [.int a2]) (rest := []) S hG (k450_X7_treeAt g_a2_le_m1 hst (by omega)) h0 rfl (cwV 1 S.2.2.2.2 gX7_distanceByMatchings_X7_treeAt rfl rfl rfl (by decide +kernel) ⟨Nat.le_of_ble_eq_true rfl, Nat.le_of_ble_eq_true rfl⟩) rfl hl.1 rfl (Nat.le_of_ble_eq_true rfl) dX7_distanceByMatchings_8 ⟨Nat.le_of_ble_eq_true rfl, Nat.le_of_ble_eq_true rfl⟩ (fun ceq_2 q_2 H locs n_3 hn_3 hG h1q_2 h2q_2 h3q_2 => ?_)
  exact fx_out htab hlocks hG (by omega) h1q_2 h2q_2 h3q_2 (by decide) (by decide)
theorem k1321_L_distanceByMatchings {n : Nat} {a2 : Int32} (g_a2_le_m1 : a2 ≤ (-1)) (hst : l.stackTraces = false) (hn : N0 + 231 ≤ n) (h0 : F N0 = some (.inr (9, [.ref (N0 + 1), .ref (N0 + 2), .ref (N0 + 11), .ref (N0 + 13), .ref (N0 + 63), .ref (N0 + 65), .ref (N0 + 85), .int (-1), .int (-1), .int 32]))) (h1 : F (N0 + 1) = some (.inl (cTr, 3, .inr (.inr (.inr (.inr (va_up (va_up (va_up (fun _ => none) 0 (some (N0 + 143))) 1 (some (N0 + 150))) 2 (some (N0 + 157))))))))) : Met l yL_distanceByMatchings wsL_distanceByMatchings ({ frames := 8, cells := 1, slots := 6, locals := 127 }) (va_Pc [.ref N0, .int 1, .int a2, .ref (N0 + 229)] (fP N0 D vwCl (fty cI cC cL cD cII cTr cTm cIt cB) (fen ql) F n)) (fQi N0 D vwCl (fty cI cC cL cD cII cTr cTm cIt cB) (fun (r : Int32) (u : Nat) => r = 1 ∧ n ≤ u) (fun _ => F) (fun u => u)) 1 6 (fA N0) := by
  refine fx_startW (hh := [(0, 10, 13, 19), (0, 10, 17, 47)]) 5 rfl rfl (Nat.le_of_ble_eq_true rfl) ?_ rfl
  intro p e s m below meth c ls S htab hr hlocks hG hl
  have hl : lv_has ls 5 [(0, .ref N0), (1, .int 1), (2, .int a2), (3, .ref (N0 + 229))] := hl
  have lt_h0 := hG.1.lt h0
  have lt_h1 := hG.1.lt h1
  refine lv_aload_n S.1 S.2.1 dL_distanceByMatchings_0 rfl (lv_at hl 3 rfl) ?_
  refine lv_iconst (v := 0) S.1 S.2.1 dL_distanceByMatchings_1 (by decide) ?_
  refine lv_aload_n S.1 S.2.1 dL_distanceByMatchings_2 rfl (lv_at hl 0 rfl) ?_
  refine lv_iload_n S.1 S.2.1 dL_distanceByMatchings_3 rfl (lv_at hl 1 rfl) ?_
  refine lv_iload_n S.1 S.2.1 dL_distanceByMatchings_4 rfl (lv_at hl 2 rfl) ?_
  refine fx_xV (As := [.int 1, .int a2]) (rest := [.int 0, .ref (N0 + 229)]) S hG (k1320_X7_distanceByMatchings g_a2_le_m1 hst (by omega) h0 h1) h0 rfl (cwV 2 S.2.2.2.2 gL_distanceByMatchings_X7_distanceByMatchings rfl rfl rfl (by decide +kernel) ⟨Nat.le_of_ble_eq_true rfl, Nat.le_of_ble_eq_true rfl⟩) rfl hl.1 rfl (Nat.le_of_ble_eq_true rfl) dL_distanceByMatchings_5 ⟨Nat.le_of_ble_eq_true rfl, Nat.le_of_ble_eq_true rfl⟩ (fun ceq_1 q_1 H locs n_2 hn_2 hG h1q_1 h2q_1 h3q_1 => ?_)
  refine fx_catch (hh := [(0, 10, 13, 19), (0, 10, 17, 47)]) S htab hG h1q_1 h2q_1 h3q_1 [] ⟨0, 10, 13, 19⟩ [⟨0, 10, 17, 47⟩] rfl [] (fun z hz => absurd hz List.not_mem_nil) (by decide) (by decide) (by decide +kernel) (List.mem_of_getElem? (i := 2) rfl) ?_
  refine lv_astore (lv' := [(4, .ref q_1), (0, .ref N0), (1, .int 1), (2, .int a2), (3, .ref (N0 + 229))]) S.1 S.2.1 dL_distanceByMatchings_13 hl (by decide) rfl (fun ls hl => ?_)
  refine lv_iconst (v := 1) S.1 S.2.1 dL_distanceByMatchings_15 (by decide) ?_
  exact fx_iret S hr hlocks n_2 hG (⟨rfl, hn_2⟩) dL_distanceByMatchings_16
theorem k1322_X10_distanceByMatchings {n : Nat} {a2 : Int32} (g_a2_le_m1 : a2 ≤ (-1)) (hn : N0 + 231 ≤ n) (h0 : F (N0 + 164) = some (.inr (12, [.ref (N0 + 165), .int 0, .ref (N0 + 181), .int 0, .int 0, .int 0, .int (-1), .ref (ql 24), .ref (N0 + 182), .ref (N0 + 187), .ref (N0 + 208), .ref (N0 + 209), .ref (N0 + 210), .ref (N0 + 211), .ref (N0 + 212), .int 0, .ref (N0 + 213), .ref (N0 + 218), .ref (N0 + 223), .ref (N0 + 224), .ref (N0 + 225), .ref (N0 + 226), .ref (N0 + 227), .int 0, .int 0, .ref (N0 + 228), .null, .int (-1), .int 0, .int 0, .int 0]))) : Met l yX10_distanceByMatchings wsX10_distanceByMatchings ({ frames := 3, cells := 0, slots := 0, locals := 64 }) (va_Pc [.ref (N0 + 164), .int 1, .int a2] (fP N0 D vwCl (fty cI cC cL cD cII cTr cTm cIt cB) (fen ql) F n)) (fQi N0 D vwCl (fty cI cC cL cD cII cTr cTm cIt cB) (fun (r : Int32) (_ : Unit) => r = 0) (fun _ => (fu F (N0 + 164) (.inr (12, [.ref (N0 + 165), .int 1, .ref (N0 + 181), .int 0, .int 0, .int 0, .int (-1), .ref (ql 24), .ref (N0 + 182), .ref (N0 + 187), .ref (N0 + 208), .ref (N0 + 209), .ref (N0 + 210), .ref (N0 + 211), .ref (N0 + 212), .int 0, .ref (N0 + 213), .ref (N0 + 218), .ref (N0 + 223), .ref (N0 + 224), .ref (N0 + 225), .ref (N0 + 226), .ref (N0 + 227), .int 0, .int 0, .ref (N0 + 228), .null, .int (-1), .int 0, .int 0, .int 0])))) (fun _ => n)) 0 0 (fA N0) := by
  refine fx_start 3 rfl rfl (Nat.le_of_ble_eq_true rfl) ?_ rfl
  intro p e s m below meth c ls S hr hlocks hin hG hl
  have hl : lv_has ls 3 [(0, .ref (N0 + 164)), (1, .int 1), (2, .int a2)] := hl
  have lt_h0 := hG.1.lt h0
  refine lv_aload_n S.1 S.2.1 dX10_distanceByMatchings_0 rfl (lv_at hl 0 rfl) ?_
  refine lv_iload_n S.1 S.2.1 dX10_distanceByMatchings_1 rfl (lv_at hl 1 rfl) ?_
  refine lv_iload_n S.1 S.2.1 dX10_distanceByMatchings_2 rfl (lv_at hl 2 rfl) ?_
  refine fx_cVi (As := [.int 1, .int a2]) (rest := []) S hG (k487_X10_areNone g_a2_le_m1 (by omega) h0) h0 rfl (cwV 2 S.2.2.2.2 gX10_distanceByMatchings_X10_areNone rfl rfl rfl (by decide +kernel) ⟨Nat.le_of_ble_eq_true rfl, Nat.le_of_ble_eq_true rfl⟩) rfl hl.1 rfl (Nat.le_of_ble_eq_true rfl) dX10_distanceByMatchings_3 ⟨Nat.le_of_ble_eq_true rfl, Nat.le_of_ble_eq_true rfl⟩ (fun rv_1 _ H locs hp hG => ?_)
  subst rv_1
  refine lv_if_eq (tgt := 11) S.1 S.2.1 dX10_distanceByMatchings_6 (by decide) (fun c => absurd c (by decide)) (fun _ => ?_)
  refine lv_iconst (v := 0) S.1 S.2.1 dX10_distanceByMatchings_9 (by decide) ?_
  exact fx_iret S hr hlocks () hG (rfl) dX10_distanceByMatchings_10
theorem k1323_X6_costOfTried {n : Nat} (hn : N0 + 231 ≤ n) (h0 : F (N0 + 150) = some (.inr (7, [.ref (N0 + 151), .ref (N0 + 152), .ref (N0 + 153), .ref (N0 + 154), .ref (N0 + 155), .ref (N0 + 156), .int 1]))) (h1 : F (N0 + 143) = some (.inr (7, [.ref (N0 + 144), .ref (N0 + 145), .ref (N0 + 146), .ref (N0 + 147), .ref (N0 + 148), .ref (N0 + 149), .int 1]))) (h2 : F (N0 + 63) = some (.inr (8, [.ref (N0 + 64), .int 4]))) (h3 : F (N0 + 64) = some (.inl (cI, 7, .inl (upd (fun _ => 0) 0 0)))) (h4 : F (N0 + 151) = some (.inl (cC, 20, .inl (upd (fun _ => 0) 0 97)))) (h5 : F (N0 + 144) = some (.inl (cC, 20, .inl (upd (fun _ => 0) 0 97)))) (h6 : F (N0 + 153) = some (.inl (cI, 20, .inl (fun _ => 0)))) (h7 : F (N0 + 146) = some (.inl (cI, 20, .inl (fun _ => 0)))) : Met l yX6_costOfTried wsX6_costOfTried ({ frames := 1, cells := 0, slots := 0, locals := 24 }) (va_Pc [.ref (N0 + 63), .ref (N0 + 150), .ref (N0 + 143)] (fP N0 D vwCl (fty cI cC cL cD cII cTr cTm cIt cB) (fen ql) F n)) (fQi N0 D vwCl (fty cI cC cL cD cII cTr cTm cIt cB) (fun (r : Int32) (_ : Unit) => r = 0) (fun _ => F) (fun _ => n)) 0 0 (fA N0) := by
  refine fx_start 6 rfl rfl (Nat.le_of_ble_eq_true rfl) ?_ rfl
  intro p e s m below meth c ls S hr hlocks hin hG hl
  have hl : lv_has ls 6 [(0, .ref (N0 + 63)), (1, .ref (N0 + 150)), (2, .ref (N0 + 143))] := hl
  have lt_h0 := hG.1.lt h0
  have lt_h1 := hG.1.lt h1
  have lt_h2 := hG.1.lt h2
  have lt_h3 := hG.1.lt h3
  have lt_h4 := hG.1.lt h4
  have lt_h5 := hG.1.lt h5
  have lt_h6 := hG.1.lt h6
  have lt_h7 := hG.1.lt h7
  refine lv_iconst (v := 2) S.1 S.2.1 dX6_costOfTried_0 (by decide) ?_
  refine lv_aload_n S.1 S.2.1 dX6_costOfTried_1 rfl (lv_at hl 1 rfl) ?_
  refine gx_get (C := RX5) (T := TX5) (N := 7) S hG h0 i_X6_costOfTried_X5 rfl 6 (by decide) (by decide +kernel) rfl dX6_costOfTried_2 ?_
  refine lv_aload_n S.1 S.2.1 dX6_costOfTried_5 rfl (lv_at hl 2 rfl) ?_
  refine gx_get (C := RX5) (T := TX5) (N := 7) S hG h1 i_X6_costOfTried_X5 rfl 6 (by decide) (by decide +kernel) rfl dX6_costOfTried_6 ?_
  refine lv_iadd S.1 S.2.1 dX6_costOfTried_9 ?_
  refine fx_topi (y := 2) (by decide) ?_
  refine lv_imul S.1 S.2.1 dX6_costOfTried_10 ?_
  refine fx_topi (y := 4) (by decide) ?_
  refine lv_istore_n (lv' := [(3, .int 4), (0, .ref (N0 + 63)), (1, .ref (N0 + 150)), (2, .ref (N0 + 143))]) S.1 S.2.1 dX6_costOfTried_11 rfl hl (by decide) rfl (fun ls hl => ?_)
  refine lv_iconst (v := 0) S.1 S.2.1 dX6_costOfTried_12 (by decide) ?_
  refine lv_istore (lv' := [(4, .int 0), (3, .int 4), (0, .ref (N0 + 63)), (1, .ref (N0 + 150)), (2, .ref (N0 + 143))]) S.1 S.2.1 dX6_costOfTried_13 hl (by decide) rfl (fun ls hl => ?_)
  refine lv_iload S.1 S.2.1 dX6_costOfTried_15 (lv_at hl 0 rfl) ?_
  refine lv_aload_n S.1 S.2.1 dX6_costOfTried_17 rfl (lv_at hl 3 rfl) ?_
  refine gx_get (C := RX5) (T := TX5) (N := 7) S hG h0 i_X6_costOfTried_X5 rfl 6 (by decide) (by decide +kernel) rfl dX6_costOfTried_18 ?_
  refine lv_icmp_ge (tgt := 66) S.1 S.2.1 dX6_costOfTried_21 (by decide) (fun c => absurd c (by decide)) (fun _ => ?_)
  refine lv_iload S.1 S.2.1 dX6_costOfTried_24 (lv_at hl 0 rfl) ?_
  refine lv_bipush (v := 7) S.1 S.2.1 dX6_costOfTried_26 (by decide) ?_
  refine lv_icmp_ge (tgt := 66) S.1 S.2.1 dX6_costOfTried_28 (by decide) (fun c => absurd c (by decide)) (fun _ => ?_)
  refine lv_aload_n S.1 S.2.1 dX6_costOfTried_31 rfl (lv_at hl 2 rfl) ?_
  refine gx_get (C := RX6) (T := TX6) (N := 2) S hG h2 i_X6_costOfTried_X6 rfl 0 (by decide) (by decide +kernel) rfl dX6_costOfTried_32 ?_
  refine lv_iload S.1 S.2.1 dX6_costOfTried_35 (lv_at hl 0 rfl) ?_
  refine gx_iald (v := 0) S hG 0 h3 rfl (fin_l (by decide)) (by decide) dX6_costOfTried_37 ?_
  refine lv_istore (lv' := [(5, .int 0), (4, .int 0), (3, .int 4), (0, .ref (N0 + 63)), (1, .ref (N0 + 150)), (2, .ref (N0 + 143))]) S.1 S.2.1 dX6_costOfTried_38 hl (by decide) rfl (fun ls hl => ?_)
  refine lv_iload S.1 S.2.1 dX6_costOfTried_40 (lv_at hl 0 rfl) ?_
  refine lv_iconst (v := (-1)) S.1 S.2.1 dX6_costOfTried_42 (by decide) ?_
  refine lv_icmp_eq (tgt := 60) S.1 S.2.1 dX6_costOfTried_43 (by decide) (fun c => absurd c (by decide)) (fun _ => ?_)
  refine lv_iload_n S.1 S.2.1 dX6_costOfTried_46 rfl (lv_at hl 2 rfl) ?_
  refine lv_aload_n S.1 S.2.1 dX6_costOfTried_47 rfl (lv_at hl 4 rfl) ?_
  refine lv_iload S.1 S.2.1 dX6_costOfTried_48 (lv_at hl 1 rfl) ?_
  refine lv_aload_n S.1 S.2.1 dX6_costOfTried_50 rfl (lv_at hl 5 rfl) ?_
  refine lv_iload S.1 S.2.1 dX6_costOfTried_51 (lv_at hl 0 rfl) ?_
  refine fx_cSNi (host := "TreeDiffer") (As := [.ref (N0 + 150), .int 0, .ref (N0 + 143), .int 0]) (rest := [.int 4]) S hG (k1227_X7_changeCost (by omega) h0 h4 h1 h5 h6 h7) ⟨(va_cnB 4 S.2.2.2.2 gX6_costOfTried_X7_changeCost_n52 rfl rfl rfl (hG.nest (show _ ∈ fen2.2.2.1 from by decide)) (S.2.2.2.2 (.initialized RX7) (by decide +kernel)) (by decide +kernel) ⟨Nat.le_of_ble_eq_true rfl, Nat.le_of_ble_eq_true rfl⟩), S.2.2.2.2 (.static yX7_changeCost) (by decide +kernel), trivial⟩ rfl hl.1 rfl (Nat.le_of_ble_eq_true rfl) dX6_costOfTried_53 ⟨Nat.le_of_ble_eq_true rfl, Nat.le_of_ble_eq_true rfl⟩ (fun rv_1 _ H locs hp hG => ?_)
  subst rv_1
  refine lv_iconst (v := 4) S.1 S.2.1 dX6_costOfTried_56 (by decide) ?_
  refine lv_isub S.1 S.2.1 dX6_costOfTried_57 ?_
  refine fx_topi (y := (-4)) (by decide) ?_
  refine lv_iadd S.1 S.2.1 dX6_costOfTried_58 ?_
  refine fx_topi (y := 0) (by decide) ?_
  refine lv_istore_n (lv' := [(3, .int 0), (5, .int 0), (4, .int 0), (0, .ref (N0 + 63)), (1, .ref (N0 + 150)), (2, .ref (N0 + 143))]) S.1 S.2.1 dX6_costOfTried_59 rfl hl (by decide) rfl (fun ls hl => ?_)
  refine lv_iinc (v := 1) (lv' := [(4, .int 1), (3, .int 0), (5, .int 0), (0, .ref (N0 + 63)), (1, .ref (N0 + 150)), (2, .ref (N0 + 143))]) S.1 S.2.1 dX6_costOfTried_60 hl (k := 2) rfl (by decide) (by decide) rfl (fun ls hl => ?_)
  refine lv_goto (tgt := 15) S.1 S.2.1 dX6_costOfTried_63 (by decide) ?_
  refine lv_iload S.1 S.2.1 dX6_costOfTried_15 (lv_at hl 0 rfl) ?_
  refine lv_aload_n S.1 S.2.1 dX6_costOfTried_17 rfl (lv_at hl 4 rfl) ?_
  refine gx_get (C := RX5) (T := TX5) (N := 7) S hG h0 i_X6_costOfTried_X5 rfl 6 (by decide) (by decide +kernel) rfl dX6_costOfTried_18 ?_
  refine lv_icmp_ge (tgt := 66) S.1 S.2.1 dX6_costOfTried_21 (by decide) (fun _ => ?_) (fun c => absurd (by decide) c)
  refine lv_iload_n S.1 S.2.1 dX6_costOfTried_66 rfl (lv_at hl 1 rfl) ?_
  exact fx_iret S hr hlocks () hG (rfl) dX6_costOfTried_67
theorem k1324_X6_tryFrom {n : Nat} (hn : N0 + 231 ≤ n) (h0 : F (N0 + 150) = some (.inr (7, [.ref (N0 + 151), .ref (N0 + 152), .ref (N0 + 153), .ref (N0 + 154), .ref (N0 + 155), .ref (N0 + 156), .int 1]))) (h1 : F (N0 + 63) = some (.inr (8, [.ref (N0 + 64), .int 4]))) (h2 : F (N0 + 143) = some (.inr (7, [.ref (N0 + 144), .ref (N0 + 145), .ref (N0 + 146), .ref (N0 + 147), .ref (N0 + 148), .ref (N0 + 149), .int 1]))) (h3 : F (N0 + 64) = some (.inl (cI, 7, .inl (upd (fun _ => 0) 0 0)))) (h4 : F (N0 + 151) = some (.inl (cC, 20, .inl (upd (fun _ => 0) 0 97)))) (h5 : F (N0 + 144) = some (.inl (cC, 20, .inl (upd (fun _ => 0) 0 97)))) (h6 : F (N0 + 153) = some (.inl (cI, 20, .inl (fun _ => 0)))) (h7 : F (N0 + 146) = some (.inl (cI, 20, .inl (fun _ => 0)))) : Met l yX6_tryFrom wsX6_tryFrom ({ frames := 2, cells := 0, slots := 0, locals := 49 }) (va_Pc [.ref (N0 + 63), .ref (N0 + 150), .ref (N0 + 143), .int 1] (fP N0 D vwCl (fty cI cC cL cD cII cTr cTm cIt cB) (fen ql) F n)) (fQv N0 D vwCl (fty cI cC cL cD cII cTr cTm cIt cB) (fun (_ : Unit) => True) (fun _ => (fu F (N0 + 63) (.inr (8, [.ref (N0 + 64), .int 0])))) (fun _ => n)) 0 0 (fA N0) := by
  refine fx_start 5 rfl rfl (Nat.le_of_ble_eq_true rfl) ?_ rfl
  intro p e s m below meth c ls S hr hlocks hin hG hl
  have hl : lv_has ls 5 [(0, .ref (N0 + 63)), (1, .ref (N0 + 150)), (2, .ref (N0 + 143)), (3, .int 1)] := hl
  have lt_h0 := hG.1.lt h0
  have lt_h1 := hG.1.lt h1
  have lt_h2 := hG.1.lt h2
  have lt_h3 := hG.1.lt h3
  have lt_h4 := hG.1.lt h4
  have lt_h5 := hG.1.lt h5
  have lt_h6 := hG.1.lt h6
  have lt_h7 := hG.1.lt h7
  refine lv_iload_n S.1 S.2.1 dX6_tryFrom_0 rfl (lv_at hl 3 rfl) ?_
  refine lv_iconst (v := 1) S.1 S.2.1 dX6_tryFrom_1 (by decide) ?_
  refine lv_icmp_lt (tgt := 19) S.1 S.2.1 dX6_tryFrom_2 (by decide) (fun c => absurd c (by decide)) (fun _ => ?_)
  refine lv_iload_n S.1 S.2.1 dX6_tryFrom_5 rfl (lv_at hl 3 rfl) ?_
  refine lv_bipush (v := 7) S.1 S.2.1 dX6_tryFrom_6 (by decide) ?_
  refine lv_icmp_ge (tgt := 19) S.1 S.2.1 dX6_tryFrom_8 (by decide) (fun c => absurd c (by decide)) (fun _ => ?_)
  refine lv_iload_n S.1 S.2.1 dX6_tryFrom_11 rfl (lv_at hl 3 rfl) ?_
  refine lv_aload_n S.1 S.2.1 dX6_tryFrom_12 rfl (lv_at hl 1 rfl) ?_
  refine gx_get (C := RX5) (T := TX5) (N := 7) S hG h0 i_X6_tryFrom_X5 rfl 6 (by decide) (by decide +kernel) rfl dX6_tryFrom_13 ?_
  refine lv_icmp_lt (tgt := 37) S.1 S.2.1 dX6_tryFrom_16 (by decide) (fun c => absurd c (by decide)) (fun _ => ?_)
  refine lv_aload_n S.1 S.2.1 dX6_tryFrom_19 rfl (lv_at hl 0 rfl) ?_
  refine lv_aload_n S.1 S.2.1 dX6_tryFrom_20 rfl (lv_at hl 0 rfl) ?_
  refine gx_get (C := RX6) (T := TX6) (N := 2) S hG h1 i_X6_tryFrom_X6 rfl 1 (by decide) (by decide +kernel) rfl dX6_tryFrom_21 ?_
  refine lv_aload_n S.1 S.2.1 dX6_tryFrom_24 rfl (lv_at hl 0 rfl) ?_
  refine lv_aload_n S.1 S.2.1 dX6_tryFrom_25 rfl (lv_at hl 1 rfl) ?_
  refine lv_aload_n S.1 S.2.1 dX6_tryFrom_26 rfl (lv_at hl 2 rfl) ?_
  refine fx_cVi (As := [.ref (N0 + 150), .ref (N0 + 143)]) (rest := [.int 4, .ref (N0 + 63)]) S hG (k1323_X6_costOfTried (by omega) h0 h2 h1 h3 h4 h5 h6 h7) h1 rfl (cwV 2 S.2.2.2.2 gX6_tryFrom_X6_costOfTried rfl rfl rfl (by decide +kernel) ⟨Nat.le_of_ble_eq_true rfl, Nat.le_of_ble_eq_true rfl⟩) rfl hl.1 rfl (Nat.le_of_ble_eq_true rfl) dX6_tryFrom_27 ⟨Nat.le_of_ble_eq_true rfl, Nat.le_of_ble_eq_true rfl⟩ (fun rv_1 _ H locs hp hG => ?_)
  subst rv_1
  refine gx_mmin S hl.1 (by decide +kernel) (by decide +kernel) (by decide +kernel) (by decide +kernel) (Nat.le_of_ble_eq_true rfl) (Nat.le_of_ble_eq_true rfl) (by decide) (by decide) dX6_tryFrom_30 ?_
  refine fx_topi (y := 0) (by decide) ?_
  refine gx_put (C := RX6) (T := TX6) (N := 2) (ty := .int) (v := .int 0) (fs' := [.ref (N0 + 64), .int 0]) S hG h1 i_X6_tryFrom_X6 rfl 1 (by decide) tyX6 tyX6_ok nmX6 (by decide +kernel) rfl (by decide +kernel) rfl rfl (Nat.le_of_ble_eq_true rfl) rfl dX6_tryFrom_33 (fun H locs hG => ?_)
  exact fx_vret S hr hlocks () hG trivial dX6_tryFrom_36
theorem k1325_X6_leastCost {n : Nat} (hn : N0 + 231 ≤ n) (h0 : F (N0 + 63) = some (.inr (8, [.ref (N0 + 64), .int 0]))) (h1 : F (N0 + 64) = some (.inl (cI, 7, .inl (fun _ => 0)))) (h2 : F (N0 + 150) = some (.inr (7, [.ref (N0 + 151), .ref (N0 + 152), .ref (N0 + 153), .ref (N0 + 154), .ref (N0 + 155), .ref (N0 + 156), .int 1]))) (h3 : F (N0 + 143) = some (.inr (7, [.ref (N0 + 144), .ref (N0 + 145), .ref (N0 + 146), .ref (N0 + 147), .ref (N0 + 148), .ref (N0 + 149), .int 1]))) (h4 : F (N0 + 151) = some (.inl (cC, 20, .inl (upd (fun _ => 0) 0 97)))) (h5 : F (N0 + 144) = some (.inl (cC, 20, .inl (upd (fun _ => 0) 0 97)))) (h6 : F (N0 + 153) = some (.inl (cI, 20, .inl (fun _ => 0)))) (h7 : F (N0 + 146) = some (.inl (cI, 20, .inl (fun _ => 0)))) : Met l yX6_leastCost wsX6_leastCost ({ frames := 3, cells := 0, slots := 0, locals := 73 }) (va_Pc [.ref (N0 + 63), .ref (N0 + 150), .ref (N0 + 143)] (fP N0 D vwCl (fty cI cC cL cD cII cTr cTm cIt cB) (fen ql) F n)) (fQi N0 D vwCl (fty cI cC cL cD cII cTr cTm cIt cB) (fun (r : Int32) (_ : Unit) => r = 0) (fun _ => (fu (fu F (N0 + 64) (.inl (cI, 7, .inl (upd (fun _ => 0) 0 0)))) (N0 + 63) (.inr (8, [.ref (N0 + 64), .int 0])))) (fun _ => n)) 0 0 (fA N0) := by
  refine fx_start 3 rfl rfl (Nat.le_of_ble_eq_true rfl) ?_ rfl
  intro p e s m below meth c ls S hr hlocks hin hG hl
  have hl : lv_has ls 3 [(0, .ref (N0 + 63)), (1, .ref (N0 + 150)), (2, .ref (N0 + 143))] := hl
  have lt_h0 := hG.1.lt h0
  have lt_h1 := hG.1.lt h1
  have lt_h2 := hG.1.lt h2
  have lt_h3 := hG.1.lt h3
  have lt_h4 := hG.1.lt h4
  have lt_h5 := hG.1.lt h5
  have lt_h6 := hG.1.lt h6
  have lt_h7 := hG.1.lt h7
  refine lv_aload_n S.1 S.2.1 dX6_leastCost_0 rfl (lv_at hl 0 rfl) ?_
  refine gx_get (C := RX6) (T := TX6) (N := 2) S hG h0 i_X6_leastCost_X6 rfl 0 (by decide) (by decide +kernel) rfl dX6_leastCost_1 ?_
  refine lv_iconst (v := 0) S.1 S.2.1 dX6_leastCost_4 (by decide) ?_
  refine lv_iconst (v := 0) S.1 S.2.1 dX6_leastCost_5 (by decide) ?_
  refine gx_iast (f' := upd (fun _ => 0) 0 0) S hG 0 h1 rfl (fin_l (by decide)) dX6_leastCost_6 (rfl) (fun H locs hG => ?_)
  refine lv_aload_n S.1 S.2.1 dX6_leastCost_7 rfl (lv_at hl 0 rfl) ?_
  refine lv_iconst (v := 2) S.1 S.2.1 dX6_leastCost_8 (by decide) ?_
  refine lv_aload_n S.1 S.2.1 dX6_leastCost_9 rfl (lv_at hl 1 rfl) ?_
  refine gx_get (C := RX5) (T := TX5) (N := 7) S hG (fu_at (by omega) h2) i_X6_leastCost_X5 rfl 6 (by decide) (by decide +kernel) rfl dX6_leastCost_10 ?_
  refine lv_aload_n S.1 S.2.1 dX6_leastCost_13 rfl (lv_at hl 2 rfl) ?_
  refine gx_get (C := RX5) (T := TX5) (N := 7) S hG (fu_at (by omega) h3) i_X6_leastCost_X5 rfl 6 (by decide) (by decide +kernel) rfl dX6_leastCost_14 ?_
  refine lv_iadd S.1 S.2.1 dX6_leastCost_17 ?_
  refine fx_topi (y := 2) (by decide) ?_
  refine lv_imul S.1 S.2.1 dX6_leastCost_18 ?_
  refine fx_topi (y := 4) (by decide) ?_
  refine gx_put (C := RX6) (T := TX6) (N := 2) (ty := .int) (v := .int 4) (fs' := [.ref (N0 + 64), .int 4]) S hG (fu_at (by omega) h0) i_X6_leastCost_X6 rfl 1 (by decide) tyX6 tyX6_ok nmX6 (by decide +kernel) rfl (by decide +kernel) rfl rfl (Nat.le_of_ble_eq_true rfl) rfl dX6_leastCost_19 (fun H locs hG => ?_)
  refine lv_aload_n S.1 S.2.1 dX6_leastCost_22 rfl (lv_at hl 0 rfl) ?_
  refine lv_aload_n S.1 S.2.1 dX6_leastCost_23 rfl (lv_at hl 1 rfl) ?_
  refine lv_aload_n S.1 S.2.1 dX6_leastCost_24 rfl (lv_at hl 2 rfl) ?_
  refine lv_iconst (v := 1) S.1 S.2.1 dX6_leastCost_25 (by decide) ?_
  refine fx_cSv (As := [.ref (N0 + 63), .ref (N0 + 150), .ref (N0 + 143), .int 1]) (rest := []) S hG (k1324_X6_tryFrom (by omega) (fu_at (by omega) (fu_at (by omega) h2)) fu_s (fu_at (by omega) (fu_at (by omega) h3)) (fu_at (by omega) fu_s) (fu_at (by omega) (fu_at (by omega) h4)) (fu_at (by omega) (fu_at (by omega) h5)) (fu_at (by omega) (fu_at (by omega) h6)) (fu_at (by omega) (fu_at (by omega) h7))) (cwS 4 S.2.2.2.2 gX6_leastCost_X6_tryFrom rfl rfl rfl (by decide +kernel) ⟨Nat.le_of_ble_eq_true rfl, Nat.le_of_ble_eq_true rfl⟩) rfl hl.1 rfl (Nat.le_of_ble_eq_true rfl) dX6_leastCost_26 ⟨Nat.le_of_ble_eq_true rfl, Nat.le_of_ble_eq_true rfl⟩ (fun _ H locs hp hG => ?_)
  refine lv_aload_n S.1 S.2.1 dX6_leastCost_29 rfl (lv_at hl 0 rfl) ?_
  refine gx_get (C := RX6) (T := TX6) (N := 2) S hG fu_s i_X6_leastCost_X6 rfl 1 (by decide) (by decide +kernel) rfl dX6_leastCost_30 ?_
  have hG : fG N0 D vwCl (fty cI cC cL cD cII cTr cTm cIt cB) (fen ql) s (fu (fu F (N0 + 64) (.inl (cI, 7, .inl (upd (fun _ => 0) 0 0)))) (N0 + 63) (.inr (8, [.ref (N0 + 64), .int 0]))) n H locs := hG.weak (fun a e h => by
    rcases fu_cases h with ⟨rfl, he⟩ | ⟨hne0, h⟩
    · cases he; exact fu_s
    · skip
      rcases fu_cases h with ⟨rfl, he⟩ | ⟨hne1, h⟩
      · cases he; exact (fu_at (by omega) (fu_at (by omega) fu_s))
      · exact (fu_at (by omega) (fu_at (by omega) (fu_at (by omega) h))))
  exact fx_iret S hr hlocks () hG (rfl) dX6_leastCost_33
theorem k1326_X7_distanceByMatchings {n : Nat} (hn : N0 + 231 ≤ n) (h0 : F N0 = some (.inr (9, [.ref (N0 + 1), .ref (N0 + 2), .ref (N0 + 11), .ref (N0 + 13), .ref (N0 + 63), .ref (N0 + 65), .ref (N0 + 85), .int (-1), .int (-1), .int 32]))) (h1 : F (N0 + 1) = some (.inl (cTr, 3, .inr (.inr (.inr (.inr (va_up (va_up (va_up (fun _ => none) 0 (some (N0 + 143))) 1 (some (N0 + 150))) 2 (some (N0 + 157))))))))) (h2 : F (N0 + 150) = some (.inr (7, [.ref (N0 + 151), .ref (N0 + 152), .ref (N0 + 153), .ref (N0 + 154), .ref (N0 + 155), .ref (N0 + 156), .int 1]))) (h3 : F (N0 + 143) = some (.inr (7, [.ref (N0 + 144), .ref (N0 + 145), .ref (N0 + 146), .ref (N0 + 147), .ref (N0 + 148), .ref (N0 + 149), .int 1]))) (h4 : F (N0 + 63) = some (.inr (8, [.ref (N0 + 64), .int 0]))) (h5 : F (N0 + 64) = some (.inl (cI, 7, .inl (fun _ => 0)))) (h6 : F (N0 + 151) = some (.inl (cC, 20, .inl (upd (fun _ => 0) 0 97)))) (h7 : F (N0 + 144) = some (.inl (cC, 20, .inl (upd (fun _ => 0) 0 97)))) (h8 : F (N0 + 153) = some (.inl (cI, 20, .inl (fun _ => 0)))) (h9 : F (N0 + 146) = some (.inl (cI, 20, .inl (fun _ => 0)))) : Met l yX7_distanceByMatchings wsX7_distanceByMatchings ({ frames := 4, cells := 0, slots := 0, locals := 95 }) (va_Pc [.ref N0, .int 1, .int 0] (fP N0 D vwCl (fty cI cC cL cD cII cTr cTm cIt cB) (fen ql) F n)) (fQi N0 D vwCl (fty cI cC cL cD cII cTr cTm cIt cB) (fun (r : Int32) (_ : Unit) => r = 0) (fun _ => (fu (fu F (N0 + 64) (.inl (cI, 7, .inl (upd (fun _ => 0) 0 0)))) (N0 + 63) (.inr (8, [.ref (N0 + 64), .int 0])))) (fun _ => n)) 0 0 (fA N0) := by
  refine fx_start 5 rfl rfl (Nat.le_of_ble_eq_true rfl) ?_ rfl
  intro p e s m below meth c ls S hr hlocks hin hG hl
  have hl : lv_has ls 5 [(0, .ref N0), (1, .int 1), (2, .int 0)] := hl
  have lt_h0 := hG.1.lt h0
  have lt_h1 := hG.1.lt h1
  have lt_h2 := hG.1.lt h2
  have lt_h3 := hG.1.lt h3
  have lt_h4 := hG.1.lt h4
  have lt_h5 := hG.1.lt h5
  have lt_h6 := hG.1.lt h6
  have lt_h7 := hG.1.lt h7
  have lt_h8 := hG.1.lt h8
  have lt_h9 := hG.1.lt h9
  refine lv_aload_n S.1 S.2.1 dX7_distanceByMatchings_0 rfl (lv_at hl 0 rfl) ?_
  refine lv_iload_n S.1 S.2.1 dX7_distanceByMatchings_1 rfl (lv_at hl 1 rfl) ?_
  refine fx_cVr (As := [.int 1]) (rest := []) S hG (k42_X7_treeAt (by omega) h0 h1) h0 rfl (cwV 1 S.2.2.2.2 gX7_distanceByMatchings_X7_treeAt rfl rfl rfl (by decide +kernel) ⟨Nat.le_of_ble_eq_true rfl, Nat.le_of_ble_eq_true rfl⟩) rfl hl.1 rfl (Nat.le_of_ble_eq_true rfl) dX7_distanceByMatchings_2 ⟨Nat.le_of_ble_eq_true rfl, Nat.le_of_ble_eq_true rfl⟩ (fun rv_1 _ H locs hp hG => ?_)
  subst rv_1
  refine lv_astore_n (lv' := [(3, .ref (N0 + 150)), (0, .ref N0), (1, .int 1), (2, .int 0)]) S.1 S.2.1 dX7_distanceByMatchings_5 rfl hl (by decide) rfl (fun ls hl => ?_)
  refine lv_aload_n S.1 S.2.1 dX7_distanceByMatchings_6 rfl (lv_at hl 1 rfl) ?_
  refine lv_iload_n S.1 S.2.1 dX7_distanceByMatchings_7 rfl (lv_at hl 3 rfl) ?_
  refine fx_cVr (As := [.int 0]) (rest := []) S hG (k26_X7_treeAt (by omega) h0 h1) h0 rfl (cwV 1 S.2.2.2.2 gX7_distanceByMatchings_X7_treeAt rfl rfl rfl (by decide +kernel) ⟨Nat.le_of_ble_eq_true rfl, Nat.le_of_ble_eq_true rfl⟩) rfl hl.1 rfl (Nat.le_of_ble_eq_true rfl) dX7_distanceByMatchings_8 ⟨Nat.le_of_ble_eq_true rfl, Nat.le_of_ble_eq_true rfl⟩ (fun rv_2 _ H locs hp hG => ?_)
  subst rv_2
  refine lv_astore (lv' := [(4, .ref (N0 + 143)), (3, .ref (N0 + 150)), (0, .ref N0), (1, .int 1), (2, .int 0)]) S.1 S.2.1 dX7_distanceByMatchings_11 hl (by decide) rfl (fun ls hl => ?_)
  refine lv_aload_n S.1 S.2.1 dX7_distanceByMatchings_13 rfl (lv_at hl 1 rfl) ?_
  refine gx_get (C := RX5) (T := TX5) (N := 7) S hG h2 i_X7_distanceByMatchings_X5 rfl 6 (by decide) (by decide +kernel) rfl dX7_distanceByMatchings_14 ?_
  refine lv_bipush (v := 7) S.1 S.2.1 dX7_distanceByMatchings_17 (by decide) ?_
  refine lv_icmp_gt (tgt := 32) S.1 S.2.1 dX7_distanceByMatchings_19 (by decide) (fun c => absurd c (by decide)) (fun _ => ?_)
  refine lv_aload S.1 S.2.1 dX7_distanceByMatchings_22 (lv_at hl 0 rfl) ?_
  refine gx_get (C := RX5) (T := TX5) (N := 7) S hG h3 i_X7_distanceByMatchings_X5 rfl 6 (by decide) (by decide +kernel) rfl dX7_distanceByMatchings_24 ?_
  refine lv_bipush (v := 7) S.1 S.2.1 dX7_distanceByMatchings_27 (by decide) ?_
  refine lv_icmp_le (tgt := 42) S.1 S.2.1 dX7_distanceByMatchings_29 (by decide) (fun _ => ?_) (fun c => absurd (by decide) c)
  refine lv_aload_n S.1 S.2.1 dX7_distanceByMatchings_42 rfl (lv_at hl 2 rfl) ?_
  refine gx_get (C := RX7) (T := TX7) (N := 10) S hG h0 i_X7_distanceByMatchings_X7 rfl 4 (by decide) (by decide +kernel) rfl dX7_distanceByMatchings_43 ?_
  refine lv_aload_n S.1 S.2.1 dX7_distanceByMatchings_46 rfl (lv_at hl 1 rfl) ?_
  refine lv_aload S.1 S.2.1 dX7_distanceByMatchings_47 (lv_at hl 0 rfl) ?_
  refine fx_cVi (As := [.ref (N0 + 150), .ref (N0 + 143)]) (rest := []) S hG (k1325_X6_leastCost (by omega) h4 h5 h2 h3 h6 h7 h8 h9) h4 rfl (cwV 2 S.2.2.2.2 gX7_distanceByMatchings_X6_leastCost rfl rfl rfl (by decide +kernel) ⟨Nat.le_of_ble_eq_true rfl, Nat.le_of_ble_eq_true rfl⟩) rfl hl.1 rfl (Nat.le_of_ble_eq_true rfl) dX7_distanceByMatchings_49 ⟨Nat.le_of_ble_eq_true rfl, Nat.le_of_ble_eq_true rfl⟩ (fun rv_3 _ H locs hp hG => ?_)
  subst rv_3
  exact fx_iret S hr hlocks () hG (rfl) dX7_distanceByMatchings_52
theorem k1327_L_distanceByMatchings {n : Nat} (hn : N0 + 231 ≤ n) (h0 : F N0 = some (.inr (9, [.ref (N0 + 1), .ref (N0 + 2), .ref (N0 + 11), .ref (N0 + 13), .ref (N0 + 63), .ref (N0 + 65), .ref (N0 + 85), .int (-1), .int (-1), .int 32]))) (h1 : F (N0 + 1) = some (.inl (cTr, 3, .inr (.inr (.inr (.inr (va_up (va_up (va_up (fun _ => none) 0 (some (N0 + 143))) 1 (some (N0 + 150))) 2 (some (N0 + 157))))))))) (h2 : F (N0 + 150) = some (.inr (7, [.ref (N0 + 151), .ref (N0 + 152), .ref (N0 + 153), .ref (N0 + 154), .ref (N0 + 155), .ref (N0 + 156), .int 1]))) (h3 : F (N0 + 143) = some (.inr (7, [.ref (N0 + 144), .ref (N0 + 145), .ref (N0 + 146), .ref (N0 + 147), .ref (N0 + 148), .ref (N0 + 149), .int 1]))) (h4 : F (N0 + 63) = some (.inr (8, [.ref (N0 + 64), .int 0]))) (h5 : F (N0 + 64) = some (.inl (cI, 7, .inl (fun _ => 0)))) (h6 : F (N0 + 151) = some (.inl (cC, 20, .inl (upd (fun _ => 0) 0 97)))) (h7 : F (N0 + 144) = some (.inl (cC, 20, .inl (upd (fun _ => 0) 0 97)))) (h8 : F (N0 + 153) = some (.inl (cI, 20, .inl (fun _ => 0)))) (h9 : F (N0 + 146) = some (.inl (cI, 20, .inl (fun _ => 0)))) (h10 : F (N0 + 229) = some (.inl (cL, 1, .inr (.inl (fun _ => 0))))) : Met l yL_distanceByMatchings wsL_distanceByMatchings ({ frames := 5, cells := 0, slots := 0, locals := 119 }) (va_Pc [.ref N0, .int 1, .int 0, .ref (N0 + 229)] (fP N0 D vwCl (fty cI cC cL cD cII cTr cTm cIt cB) (fen ql) F n)) (fQi N0 D vwCl (fty cI cC cL cD cII cTr cTm cIt cB) (fun (r : Int32) (_ : Unit) => r = 0) (fun _ => (fu (fu (fu F (N0 + 64) (.inl (cI, 7, .inl (upd (fun _ => 0) 0 0)))) (N0 + 63) (.inr (8, [.ref (N0 + 64), .int 0]))) (N0 + 229) (.inl (cL, 1, .inr (.inl (vp_updL (fun _ => 0) 0 0)))))) (fun _ => n)) 0 0 (fA N0) := by
  refine fx_startW (hh := [(0, 10, 13, 19), (0, 10, 17, 47)]) 5 rfl rfl (Nat.le_of_ble_eq_true rfl) ?_ rfl
  intro p e s m below meth c ls S htab hr hlocks hG hl
  have hl : lv_has ls 5 [(0, .ref N0), (1, .int 1), (2, .int 0), (3, .ref (N0 + 229))] := hl
  have lt_h0 := hG.1.lt h0
  have lt_h1 := hG.1.lt h1
  have lt_h2 := hG.1.lt h2
  have lt_h3 := hG.1.lt h3
  have lt_h4 := hG.1.lt h4
  have lt_h5 := hG.1.lt h5
  have lt_h6 := hG.1.lt h6
  have lt_h7 := hG.1.lt h7
  have lt_h8 := hG.1.lt h8
  have lt_h9 := hG.1.lt h9
  have lt_h10 := hG.1.lt h10
  refine lv_aload_n S.1 S.2.1 dL_distanceByMatchings_0 rfl (lv_at hl 3 rfl) ?_
  refine lv_iconst (v := 0) S.1 S.2.1 dL_distanceByMatchings_1 (by decide) ?_
  refine lv_aload_n S.1 S.2.1 dL_distanceByMatchings_2 rfl (lv_at hl 0 rfl) ?_
  refine lv_iload_n S.1 S.2.1 dL_distanceByMatchings_3 rfl (lv_at hl 1 rfl) ?_
  refine lv_iload_n S.1 S.2.1 dL_distanceByMatchings_4 rfl (lv_at hl 2 rfl) ?_
  refine fx_cVi (As := [.int 1, .int 0]) (rest := [.int 0, .ref (N0 + 229)]) S hG (k1326_X7_distanceByMatchings (by omega) h0 h1 h2 h3 h4 h5 h6 h7 h8 h9) h0 rfl (cwV 2 S.2.2.2.2 gL_distanceByMatchings_X7_distanceByMatchings rfl rfl rfl (by decide +kernel) ⟨Nat.le_of_ble_eq_true rfl, Nat.le_of_ble_eq_true rfl⟩) rfl hl.1 rfl (Nat.le_of_ble_eq_true rfl) dL_distanceByMatchings_5 ⟨Nat.le_of_ble_eq_true rfl, Nat.le_of_ble_eq_true rfl⟩ (fun rv_1 _ H locs hp hG => ?_)
  subst rv_1
  refine lv_i2l (v := 0) S.1 S.2.1 dL_distanceByMatchings_8 (by decide) ?_
  refine gx_last (f' := vp_updL (fun _ => 0) 0 0) S hG 2 (fu_at (by omega) (fu_at (by omega) h10)) rfl (fin_l (by decide)) dL_distanceByMatchings_9 rfl (fun H locs hG => ?_)
  refine lv_goto (tgt := 21) S.1 S.2.1 dL_distanceByMatchings_10 (by decide) ?_
  refine lv_iconst (v := 0) S.1 S.2.1 dL_distanceByMatchings_21 (by decide) ?_
  exact fx_iret S hr hlocks () hG (rfl) dL_distanceByMatchings_22
theorem k1328_X10_distanceByMatchings {n : Nat} (hn : N0 + 231 ≤ n) (h0 : F (N0 + 164) = some (.inr (12, [.ref (N0 + 165), .int 0, .ref (N0 + 181), .int 0, .int 0, .int 0, .int (-1), .ref (ql 24), .ref (N0 + 182), .ref (N0 + 187), .ref (N0 + 208), .ref (N0 + 209), .ref (N0 + 210), .ref (N0 + 211), .ref (N0 + 212), .int 0, .ref (N0 + 213), .ref (N0 + 218), .ref (N0 + 223), .ref (N0 + 224), .ref (N0 + 225), .ref (N0 + 226), .ref (N0 + 227), .int 0, .int 0, .ref (N0 + 228), .null, .int (-1), .int 0, .int 0, .int 0]))) (h1 : F (N0 + 165) = some (.inl (cTm, 3, .inr (.inr (.inr (.inr (va_up (va_up (va_up (fun _ => none) 0 (some (N0 + 166))) 1 (some (N0 + 171))) 2 (some (N0 + 176))))))))) (h2 : F (N0 + 171) = some (.inr (11, [.ref (N0 + 172), .ref (N0 + 173), .ref (N0 + 174), .ref (N0 + 175), .int 1]))) (h3 : F (N0 + 166) = some (.inr (11, [.ref (N0 + 167), .ref (N0 + 168), .ref (N0 + 169), .ref (N0 + 170), .int 1]))) (h4 : F (N0 + 172) = some (.inl (cI, 20, .inl (upd (fun _ => 0) 0 97)))) (h5 : F (N0 + 167) = some (.inl (cI, 20, .inl (upd (fun _ => 0) 0 97)))) (h6 : F (N0 + 174) = some (.inl (cI, 20, .inl (upd (fun _ => 0) 0 0)))) (h7 : F (N0 + 169) = some (.inl (cI, 20, .inl (upd (fun _ => 0) 0 0)))) (h8 : F (N0 + 187) = some (.inl (cII, 20, .inr (.inr (.inr (.inr (fun j => if j < 20 then some ((N0 + 188) + j) else none))))))) (h9 : F (N0 + 188) = some (.inl (cI, 20, .inl (fun _ => 0)))) : Met l yX10_distanceByMatchings wsX10_distanceByMatchings ({ frames := 3, cells := 4, slots := 2, locals := 72 }) (va_Pc [.ref (N0 + 164), .int 1, .int 0] (fP N0 D vwCl (fty cI cC cL cD cII cTr cTm cIt cB) (fen ql) F n)) (fQi N0 D vwCl (fty cI cC cL cD cII cTr cTm cIt cB) (fun (r : Int32) (_ : Unit) => r = 0) (fun _ => (fblk (fu (fu F (N0 + 164) (.inr (12, [.ref (N0 + 165), .int 0, .ref (N0 + 181), .int 0, .int 0, .int 0, .int (-1), .ref (ql 24), .ref (N0 + 182), .ref (N0 + 187), .ref (N0 + 208), .ref (N0 + 209), .ref (N0 + 210), .ref (N0 + 211), .ref (N0 + 212), .int 0, .ref (N0 + 213), .ref (N0 + 218), .ref (N0 + 223), .ref (N0 + 224), .ref (N0 + 225), .ref (N0 + 226), .ref (N0 + 227), .int 0, .int 0, .ref (N0 + 228), .null, .int (-1), .int 0, .int 0, .int 0]))) (N0 + 188) (.inl (cI, 20, .inl (upd (fun _ => 0) 0 0)))) n [.inl (cI, 0, .inl (fun _ => 0)), .inl (cI, 0, .inl (fun _ => 0)), .inl (cII, 1, .inr (.inr (.inr (.inr (fun j => if j < 1 then some ((n + 3) + j) else none))))), .inl (cI, 1, .inl (fun _ => 0))])) (fun _ => (n + 4))) 4 2 (fA N0) := by
  refine fx_start 3 rfl rfl (Nat.le_of_ble_eq_true rfl) ?_ rfl
  intro p e s m below meth c ls S hr hlocks hin hG hl
  have hl : lv_has ls 3 [(0, .ref (N0 + 164)), (1, .int 1), (2, .int 0)] := hl
  have lt_h0 := hG.1.lt h0
  have lt_h1 := hG.1.lt h1
  have lt_h2 := hG.1.lt h2
  have lt_h3 := hG.1.lt h3
  have lt_h4 := hG.1.lt h4
  have lt_h5 := hG.1.lt h5
  have lt_h6 := hG.1.lt h6
  have lt_h7 := hG.1.lt h7
  have lt_h8 := hG.1.lt h8
  have lt_h9 := hG.1.lt h9
  refine lv_aload_n S.1 S.2.1 dX10_distanceByMatchings_0 rfl (lv_at hl 0 rfl) ?_
  refine lv_iload_n S.1 S.2.1 dX10_distanceByMatchings_1 rfl (lv_at hl 1 rfl) ?_
  refine lv_iload_n S.1 S.2.1 dX10_distanceByMatchings_2 rfl (lv_at hl 2 rfl) ?_
  refine fx_cVi (As := [.int 1, .int 0]) (rest := []) S hG (k492_X10_areNone (by omega) h0) h0 rfl (cwV 2 S.2.2.2.2 gX10_distanceByMatchings_X10_areNone rfl rfl rfl (by decide +kernel) ⟨Nat.le_of_ble_eq_true rfl, Nat.le_of_ble_eq_true rfl⟩) rfl hl.1 rfl (Nat.le_of_ble_eq_true rfl) dX10_distanceByMatchings_3 ⟨Nat.le_of_ble_eq_true rfl, Nat.le_of_ble_eq_true rfl⟩ (fun rv_1 _ H locs hp hG => ?_)
  subst rv_1
  refine lv_if_eq (tgt := 11) S.1 S.2.1 dX10_distanceByMatchings_6 (by decide) (fun _ => ?_) (fun c => absurd (by decide) c)
  refine lv_aload_n S.1 S.2.1 dX10_distanceByMatchings_11 rfl (lv_at hl 0 rfl) ?_
  refine gx_get (C := RX10) (T := TX10) (N := 31) S hG fu_s i_X10_distanceByMatchings_X10 rfl 0 (by decide) (by decide +kernel) rfl dX10_distanceByMatchings_12 ?_
  refine lv_iload_n S.1 S.2.1 dX10_distanceByMatchings_15 rfl (lv_at hl 1 rfl) ?_
  refine gx_aldq (x := (N0 + 171)) S hG 6 rfl (fu_at (by omega) h1) rfl (fin_l (by decide)) (rfl) dX10_distanceByMatchings_16 ?_
  refine gx_getN (C := RX9) (T := TX9) (N := 5) S hG (fu_at (by omega) h2) i_X10_distanceByMatchings_X9 rfl 4 (by decide) (List.mem_of_getElem? (i := 4) rfl) rfl dX10_distanceByMatchings_17 ?_
  refine lv_bipush (v := 7) S.1 S.2.1 dX10_distanceByMatchings_20 (by decide) ?_
  refine lv_icmp_gt (tgt := 39) S.1 S.2.1 dX10_distanceByMatchings_22 (by decide) (fun c => absurd c (by decide)) (fun _ => ?_)
  refine lv_aload_n S.1 S.2.1 dX10_distanceByMatchings_25 rfl (lv_at hl 0 rfl) ?_
  refine gx_get (C := RX10) (T := TX10) (N := 31) S hG fu_s i_X10_distanceByMatchings_X10 rfl 0 (by decide) (by decide +kernel) rfl dX10_distanceByMatchings_26 ?_
  refine lv_iload_n S.1 S.2.1 dX10_distanceByMatchings_29 rfl (lv_at hl 2 rfl) ?_
  refine gx_aldq (x := (N0 + 166)) S hG 6 rfl (fu_at (by omega) h1) rfl (fin_l (by decide)) (rfl) dX10_distanceByMatchings_30 ?_
  refine gx_getN (C := RX9) (T := TX9) (N := 5) S hG (fu_at (by omega) h3) i_X10_distanceByMatchings_X9 rfl 4 (by decide) (List.mem_of_getElem? (i := 4) rfl) rfl dX10_distanceByMatchings_31 ?_
  refine lv_bipush (v := 7) S.1 S.2.1 dX10_distanceByMatchings_34 (by decide) ?_
  refine lv_icmp_le (tgt := 47) S.1 S.2.1 dX10_distanceByMatchings_36 (by decide) (fun _ => ?_) (fun c => absurd (by decide) c)
  refine lv_aload_n S.1 S.2.1 dX10_distanceByMatchings_47 rfl (lv_at hl 0 rfl) ?_
  refine lv_aload_n S.1 S.2.1 dX10_distanceByMatchings_48 rfl (lv_at hl 0 rfl) ?_
  refine gx_get (C := RX10) (T := TX10) (N := 31) S hG fu_s i_X10_distanceByMatchings_X10 rfl 0 (by decide) (by decide +kernel) rfl dX10_distanceByMatchings_49 ?_
  refine lv_iload_n S.1 S.2.1 dX10_distanceByMatchings_52 rfl (lv_at hl 1 rfl) ?_
  refine gx_aldq (x := (N0 + 171)) S hG 6 rfl (fu_at (by omega) h1) rfl (fin_l (by decide)) (rfl) dX10_distanceByMatchings_53 ?_
  refine lv_aload_n S.1 S.2.1 dX10_distanceByMatchings_54 rfl (lv_at hl 0 rfl) ?_
  refine gx_get (C := RX10) (T := TX10) (N := 31) S hG fu_s i_X10_distanceByMatchings_X10 rfl 0 (by decide) (by decide +kernel) rfl dX10_distanceByMatchings_55 ?_
  refine lv_iload_n S.1 S.2.1 dX10_distanceByMatchings_58 rfl (lv_at hl 2 rfl) ?_
  refine gx_aldq (x := (N0 + 166)) S hG 6 rfl (fu_at (by omega) h1) rfl (fin_l (by decide)) (rfl) dX10_distanceByMatchings_59 ?_
  refine fx_cVi (As := [.ref (N0 + 171), .ref (N0 + 166)]) (rest := []) S hG (k1232_X10_fills (by omega) (fu_at (by omega) h2) (fu_at (by omega) h3) (fu_at (by omega) h4) (fu_at (by omega) h5) (fu_at (by omega) h6) (fu_at (by omega) h7) fu_s (fu_at (by omega) h8) (fu_at (by omega) h9)) fu_s rfl (cwV 2 S.2.2.2.2 gX10_distanceByMatchings_X10_fills rfl rfl rfl (by decide +kernel) ⟨Nat.le_of_ble_eq_true rfl, Nat.le_of_ble_eq_true rfl⟩) rfl hl.1 rfl (Nat.le_of_ble_eq_true rfl) dX10_distanceByMatchings_60 ⟨Nat.le_of_ble_eq_true rfl, Nat.le_of_ble_eq_true rfl⟩ (fun rv_2 _ H locs hp hG => ?_)
  subst rv_2
  refine W.widen (k := 4) (n := 2) (by decide) (by decide) ?_
  have hG : fG N0 D vwCl (fty cI cC cL cD cII cTr cTm cIt cB) (fen ql) s (fblk (fu (fu F (N0 + 164) (.inr (12, [.ref (N0 + 165), .int 0, .ref (N0 + 181), .int 0, .int 0, .int 0, .int (-1), .ref (ql 24), .ref (N0 + 182), .ref (N0 + 187), .ref (N0 + 208), .ref (N0 + 209), .ref (N0 + 210), .ref (N0 + 211), .ref (N0 + 212), .int 0, .ref (N0 + 213), .ref (N0 + 218), .ref (N0 + 223), .ref (N0 + 224), .ref (N0 + 225), .ref (N0 + 226), .ref (N0 + 227), .int 0, .int 0, .ref (N0 + 228), .null, .int (-1), .int 0, .int 0, .int 0]))) (N0 + 188) (.inl (cI, 20, .inl (upd (fun _ => 0) 0 0)))) n [.inl (cI, 0, .inl (fun _ => 0)), .inl (cI, 0, .inl (fun _ => 0)), .inl (cII, 1, .inr (.inr (.inr (.inr (fun j => if j < 1 then some ((n + 3) + j) else none))))), .inl (cI, 1, .inl (fun _ => 0))]) (n + 4) H locs := hG.weak (fun a e h => by
    rcases fblk_cases 4 rfl h with ⟨k, rfl, hlt, hk⟩ | ⟨hout, h⟩
    · rcases (show k = 0 ∨ k = 1 ∨ k = 2 ∨ k = 3 by omega) with rfl | rfl | rfl | rfl
      · cases (show some (.inl (cI, 0, .inl (fun _ => 0))) = some e from hk); exact (fblk_at 0 (by omega) rfl)
      · cases (show some (.inl (cI, 0, .inl (fun _ => 0))) = some e from hk); exact (fblk_at 1 (by omega) rfl)
      · cases (show some (.inl (cII, 1, .inr (.inr (.inr (.inr (fun j => if j < 1 then some ((n + 3) + j) else none)))))) = some e from hk); exact (fblk_at 2 (by omega) rfl)
      · cases (show some (.inl (cI, 1, .inl (fun _ => 0))) = some e from hk); exact (fblk_at 3 (by omega) rfl)
    · rcases fu_cases h with ⟨rfl, he⟩ | ⟨hne0, h⟩
      · cases he; exact (fblk_sk 4 rfl (by omega) fu_s)
      · skip
        rcases fu_cases h with ⟨rfl, he⟩ | ⟨hne1, h⟩
        · cases he; exact (fblk_sk 4 rfl (by omega) (fu_at (by omega) fu_s))
        · exact (fblk_sk 4 rfl (by omega) (fu_at (by omega) (fu_at (by omega) h))))
  exact fx_iret S hr hlocks () hG (rfl) dX10_distanceByMatchings_63
theorem k1329_X6_costOfTried {n : Nat} (hn : N0 + 231 ≤ n) (h0 : F (N0 + 150) = some (.inr (7, [.ref (N0 + 151), .ref (N0 + 152), .ref (N0 + 153), .ref (N0 + 154), .ref (N0 + 155), .ref (N0 + 156), .int 1]))) (h1 : F (N0 + 63) = some (.inr (8, [.ref (N0 + 64), .int 4]))) (h2 : F (N0 + 64) = some (.inl (cI, 7, .inl (upd (fun _ => 0) 0 0)))) (h3 : F (N0 + 151) = some (.inl (cC, 20, .inl (upd (fun _ => 0) 0 97)))) (h4 : F (N0 + 153) = some (.inl (cI, 20, .inl (fun _ => 0)))) : Met l yX6_costOfTried wsX6_costOfTried ({ frames := 1, cells := 0, slots := 0, locals := 24 }) (va_Pc [.ref (N0 + 63), .ref (N0 + 150), .ref (N0 + 150)] (fP N0 D vwCl (fty cI cC cL cD cII cTr cTm cIt cB) (fen ql) F n)) (fQi N0 D vwCl (fty cI cC cL cD cII cTr cTm cIt cB) (fun (r : Int32) (_ : Unit) => r = 0) (fun _ => F) (fun _ => n)) 0 0 (fA N0) := by
  refine fx_start 6 rfl rfl (Nat.le_of_ble_eq_true rfl) ?_ rfl
  intro p e s m below meth c ls S hr hlocks hin hG hl
  have hl : lv_has ls 6 [(0, .ref (N0 + 63)), (1, .ref (N0 + 150)), (2, .ref (N0 + 150))] := hl
  have lt_h0 := hG.1.lt h0
  have lt_h1 := hG.1.lt h1
  have lt_h2 := hG.1.lt h2
  have lt_h3 := hG.1.lt h3
  have lt_h4 := hG.1.lt h4
  refine lv_iconst (v := 2) S.1 S.2.1 dX6_costOfTried_0 (by decide) ?_
  refine lv_aload_n S.1 S.2.1 dX6_costOfTried_1 rfl (lv_at hl 1 rfl) ?_
  refine gx_get (C := RX5) (T := TX5) (N := 7) S hG h0 i_X6_costOfTried_X5 rfl 6 (by decide) (by decide +kernel) rfl dX6_costOfTried_2 ?_
  refine lv_aload_n S.1 S.2.1 dX6_costOfTried_5 rfl (lv_at hl 2 rfl) ?_
  refine gx_get (C := RX5) (T := TX5) (N := 7) S hG h0 i_X6_costOfTried_X5 rfl 6 (by decide) (by decide +kernel) rfl dX6_costOfTried_6 ?_
  refine lv_iadd S.1 S.2.1 dX6_costOfTried_9 ?_
  refine fx_topi (y := 2) (by decide) ?_
  refine lv_imul S.1 S.2.1 dX6_costOfTried_10 ?_
  refine fx_topi (y := 4) (by decide) ?_
  refine lv_istore_n (lv' := [(3, .int 4), (0, .ref (N0 + 63)), (1, .ref (N0 + 150)), (2, .ref (N0 + 150))]) S.1 S.2.1 dX6_costOfTried_11 rfl hl (by decide) rfl (fun ls hl => ?_)
  refine lv_iconst (v := 0) S.1 S.2.1 dX6_costOfTried_12 (by decide) ?_
  refine lv_istore (lv' := [(4, .int 0), (3, .int 4), (0, .ref (N0 + 63)), (1, .ref (N0 + 150)), (2, .ref (N0 + 150))]) S.1 S.2.1 dX6_costOfTried_13 hl (by decide) rfl (fun ls hl => ?_)
  refine lv_iload S.1 S.2.1 dX6_costOfTried_15 (lv_at hl 0 rfl) ?_
  refine lv_aload_n S.1 S.2.1 dX6_costOfTried_17 rfl (lv_at hl 3 rfl) ?_
  refine gx_get (C := RX5) (T := TX5) (N := 7) S hG h0 i_X6_costOfTried_X5 rfl 6 (by decide) (by decide +kernel) rfl dX6_costOfTried_18 ?_
  refine lv_icmp_ge (tgt := 66) S.1 S.2.1 dX6_costOfTried_21 (by decide) (fun c => absurd c (by decide)) (fun _ => ?_)
  refine lv_iload S.1 S.2.1 dX6_costOfTried_24 (lv_at hl 0 rfl) ?_
  refine lv_bipush (v := 7) S.1 S.2.1 dX6_costOfTried_26 (by decide) ?_
  refine lv_icmp_ge (tgt := 66) S.1 S.2.1 dX6_costOfTried_28 (by decide) (fun c => absurd c (by decide)) (fun _ => ?_)
  refine lv_aload_n S.1 S.2.1 dX6_costOfTried_31 rfl (lv_at hl 2 rfl) ?_
  refine gx_get (C := RX6) (T := TX6) (N := 2) S hG h1 i_X6_costOfTried_X6 rfl 0 (by decide) (by decide +kernel) rfl dX6_costOfTried_32 ?_
  refine lv_iload S.1 S.2.1 dX6_costOfTried_35 (lv_at hl 0 rfl) ?_
  refine gx_iald (v := 0) S hG 0 h2 rfl (fin_l (by decide)) (by decide) dX6_costOfTried_37 ?_
  refine lv_istore (lv' := [(5, .int 0), (4, .int 0), (3, .int 4), (0, .ref (N0 + 63)), (1, .ref (N0 + 150)), (2, .ref (N0 + 150))]) S.1 S.2.1 dX6_costOfTried_38 hl (by decide) rfl (fun ls hl => ?_)
  refine lv_iload S.1 S.2.1 dX6_costOfTried_40 (lv_at hl 0 rfl) ?_
  refine lv_iconst (v := (-1)) S.1 S.2.1 dX6_costOfTried_42 (by decide) ?_
  refine lv_icmp_eq (tgt := 60) S.1 S.2.1 dX6_costOfTried_43 (by decide) (fun c => absurd c (by decide)) (fun _ => ?_)
  refine lv_iload_n S.1 S.2.1 dX6_costOfTried_46 rfl (lv_at hl 2 rfl) ?_
  refine lv_aload_n S.1 S.2.1 dX6_costOfTried_47 rfl (lv_at hl 4 rfl) ?_
  refine lv_iload S.1 S.2.1 dX6_costOfTried_48 (lv_at hl 1 rfl) ?_
  refine lv_aload_n S.1 S.2.1 dX6_costOfTried_50 rfl (lv_at hl 5 rfl) ?_
  refine lv_iload S.1 S.2.1 dX6_costOfTried_51 (lv_at hl 0 rfl) ?_
  refine fx_cSNi (host := "TreeDiffer") (As := [.ref (N0 + 150), .int 0, .ref (N0 + 150), .int 0]) (rest := [.int 4]) S hG (k1236_X7_changeCost (by omega) h0 h3 h4) ⟨(va_cnB 4 S.2.2.2.2 gX6_costOfTried_X7_changeCost_n52 rfl rfl rfl (hG.nest (show _ ∈ fen2.2.2.1 from by decide)) (S.2.2.2.2 (.initialized RX7) (by decide +kernel)) (by decide +kernel) ⟨Nat.le_of_ble_eq_true rfl, Nat.le_of_ble_eq_true rfl⟩), S.2.2.2.2 (.static yX7_changeCost) (by decide +kernel), trivial⟩ rfl hl.1 rfl (Nat.le_of_ble_eq_true rfl) dX6_costOfTried_53 ⟨Nat.le_of_ble_eq_true rfl, Nat.le_of_ble_eq_true rfl⟩ (fun rv_1 _ H locs hp hG => ?_)
  subst rv_1
  refine lv_iconst (v := 4) S.1 S.2.1 dX6_costOfTried_56 (by decide) ?_
  refine lv_isub S.1 S.2.1 dX6_costOfTried_57 ?_
  refine fx_topi (y := (-4)) (by decide) ?_
  refine lv_iadd S.1 S.2.1 dX6_costOfTried_58 ?_
  refine fx_topi (y := 0) (by decide) ?_
  refine lv_istore_n (lv' := [(3, .int 0), (5, .int 0), (4, .int 0), (0, .ref (N0 + 63)), (1, .ref (N0 + 150)), (2, .ref (N0 + 150))]) S.1 S.2.1 dX6_costOfTried_59 rfl hl (by decide) rfl (fun ls hl => ?_)
  refine lv_iinc (v := 1) (lv' := [(4, .int 1), (3, .int 0), (5, .int 0), (0, .ref (N0 + 63)), (1, .ref (N0 + 150)), (2, .ref (N0 + 150))]) S.1 S.2.1 dX6_costOfTried_60 hl (k := 2) rfl (by decide) (by decide) rfl (fun ls hl => ?_)
  refine lv_goto (tgt := 15) S.1 S.2.1 dX6_costOfTried_63 (by decide) ?_
  refine lv_iload S.1 S.2.1 dX6_costOfTried_15 (lv_at hl 0 rfl) ?_
  refine lv_aload_n S.1 S.2.1 dX6_costOfTried_17 rfl (lv_at hl 4 rfl) ?_
  refine gx_get (C := RX5) (T := TX5) (N := 7) S hG h0 i_X6_costOfTried_X5 rfl 6 (by decide) (by decide +kernel) rfl dX6_costOfTried_18 ?_
  refine lv_icmp_ge (tgt := 66) S.1 S.2.1 dX6_costOfTried_21 (by decide) (fun _ => ?_) (fun c => absurd (by decide) c)
  refine lv_iload_n S.1 S.2.1 dX6_costOfTried_66 rfl (lv_at hl 1 rfl) ?_
  exact fx_iret S hr hlocks () hG (rfl) dX6_costOfTried_67
theorem k1330_X6_tryFrom {n : Nat} (hn : N0 + 231 ≤ n) (h0 : F (N0 + 150) = some (.inr (7, [.ref (N0 + 151), .ref (N0 + 152), .ref (N0 + 153), .ref (N0 + 154), .ref (N0 + 155), .ref (N0 + 156), .int 1]))) (h1 : F (N0 + 63) = some (.inr (8, [.ref (N0 + 64), .int 4]))) (h2 : F (N0 + 64) = some (.inl (cI, 7, .inl (upd (fun _ => 0) 0 0)))) (h3 : F (N0 + 151) = some (.inl (cC, 20, .inl (upd (fun _ => 0) 0 97)))) (h4 : F (N0 + 153) = some (.inl (cI, 20, .inl (fun _ => 0)))) : Met l yX6_tryFrom wsX6_tryFrom ({ frames := 2, cells := 0, slots := 0, locals := 49 }) (va_Pc [.ref (N0 + 63), .ref (N0 + 150), .ref (N0 + 150), .int 1] (fP N0 D vwCl (fty cI cC cL cD cII cTr cTm cIt cB) (fen ql) F n)) (fQv N0 D vwCl (fty cI cC cL cD cII cTr cTm cIt cB) (fun (_ : Unit) => True) (fun _ => (fu F (N0 + 63) (.inr (8, [.ref (N0 + 64), .int 0])))) (fun _ => n)) 0 0 (fA N0) := by
  refine fx_start 5 rfl rfl (Nat.le_of_ble_eq_true rfl) ?_ rfl
  intro p e s m below meth c ls S hr hlocks hin hG hl
  have hl : lv_has ls 5 [(0, .ref (N0 + 63)), (1, .ref (N0 + 150)), (2, .ref (N0 + 150)), (3, .int 1)] := hl
  have lt_h0 := hG.1.lt h0
  have lt_h1 := hG.1.lt h1
  have lt_h2 := hG.1.lt h2
  have lt_h3 := hG.1.lt h3
  have lt_h4 := hG.1.lt h4
  refine lv_iload_n S.1 S.2.1 dX6_tryFrom_0 rfl (lv_at hl 3 rfl) ?_
  refine lv_iconst (v := 1) S.1 S.2.1 dX6_tryFrom_1 (by decide) ?_
  refine lv_icmp_lt (tgt := 19) S.1 S.2.1 dX6_tryFrom_2 (by decide) (fun c => absurd c (by decide)) (fun _ => ?_)
  refine lv_iload_n S.1 S.2.1 dX6_tryFrom_5 rfl (lv_at hl 3 rfl) ?_
  refine lv_bipush (v := 7) S.1 S.2.1 dX6_tryFrom_6 (by decide) ?_
  refine lv_icmp_ge (tgt := 19) S.1 S.2.1 dX6_tryFrom_8 (by decide) (fun c => absurd c (by decide)) (fun _ => ?_)
  refine lv_iload_n S.1 S.2.1 dX6_tryFrom_11 rfl (lv_at hl 3 rfl) ?_
  refine lv_aload_n S.1 S.2.1 dX6_tryFrom_12 rfl (lv_at hl 1 rfl) ?_
  refine gx_get (C := RX5) (T := TX5) (N := 7) S hG h0 i_X6_tryFrom_X5 rfl 6 (by decide) (by decide +kernel) rfl dX6_tryFrom_13 ?_
  refine lv_icmp_lt (tgt := 37) S.1 S.2.1 dX6_tryFrom_16 (by decide) (fun c => absurd c (by decide)) (fun _ => ?_)
  refine lv_aload_n S.1 S.2.1 dX6_tryFrom_19 rfl (lv_at hl 0 rfl) ?_
  refine lv_aload_n S.1 S.2.1 dX6_tryFrom_20 rfl (lv_at hl 0 rfl) ?_
  refine gx_get (C := RX6) (T := TX6) (N := 2) S hG h1 i_X6_tryFrom_X6 rfl 1 (by decide) (by decide +kernel) rfl dX6_tryFrom_21 ?_
  refine lv_aload_n S.1 S.2.1 dX6_tryFrom_24 rfl (lv_at hl 0 rfl) ?_
  refine lv_aload_n S.1 S.2.1 dX6_tryFrom_25 rfl (lv_at hl 1 rfl) ?_
  refine lv_aload_n S.1 S.2.1 dX6_tryFrom_26 rfl (lv_at hl 2 rfl) ?_
  refine fx_cVi (As := [.ref (N0 + 150), .ref (N0 + 150)]) (rest := [.int 4, .ref (N0 + 63)]) S hG (k1329_X6_costOfTried (by omega) h0 h1 h2 h3 h4) h1 rfl (cwV 2 S.2.2.2.2 gX6_tryFrom_X6_costOfTried rfl rfl rfl (by decide +kernel) ⟨Nat.le_of_ble_eq_true rfl, Nat.le_of_ble_eq_true rfl⟩) rfl hl.1 rfl (Nat.le_of_ble_eq_true rfl) dX6_tryFrom_27 ⟨Nat.le_of_ble_eq_true rfl, Nat.le_of_ble_eq_true rfl⟩ (fun rv_1 _ H locs hp hG => ?_)
  subst rv_1
  refine gx_mmin S hl.1 (by decide +kernel) (by decide +kernel) (by decide +kernel) (by decide +kernel) (Nat.le_of_ble_eq_true rfl) (Nat.le_of_ble_eq_true rfl) (by decide) (by decide) dX6_tryFrom_30 ?_
  refine fx_topi (y := 0) (by decide) ?_
  refine gx_put (C := RX6) (T := TX6) (N := 2) (ty := .int) (v := .int 0) (fs' := [.ref (N0 + 64), .int 0]) S hG h1 i_X6_tryFrom_X6 rfl 1 (by decide) tyX6 tyX6_ok nmX6 (by decide +kernel) rfl (by decide +kernel) rfl rfl (Nat.le_of_ble_eq_true rfl) rfl dX6_tryFrom_33 (fun H locs hG => ?_)
  exact fx_vret S hr hlocks () hG trivial dX6_tryFrom_36
theorem k1331_X6_leastCost {n : Nat} (hn : N0 + 231 ≤ n) (h0 : F (N0 + 63) = some (.inr (8, [.ref (N0 + 64), .int 0]))) (h1 : F (N0 + 64) = some (.inl (cI, 7, .inl (fun _ => 0)))) (h2 : F (N0 + 150) = some (.inr (7, [.ref (N0 + 151), .ref (N0 + 152), .ref (N0 + 153), .ref (N0 + 154), .ref (N0 + 155), .ref (N0 + 156), .int 1]))) (h3 : F (N0 + 151) = some (.inl (cC, 20, .inl (upd (fun _ => 0) 0 97)))) (h4 : F (N0 + 153) = some (.inl (cI, 20, .inl (fun _ => 0)))) : Met l yX6_leastCost wsX6_leastCost ({ frames := 3, cells := 0, slots := 0, locals := 73 }) (va_Pc [.ref (N0 + 63), .ref (N0 + 150), .ref (N0 + 150)] (fP N0 D vwCl (fty cI cC cL cD cII cTr cTm cIt cB) (fen ql) F n)) (fQi N0 D vwCl (fty cI cC cL cD cII cTr cTm cIt cB) (fun (r : Int32) (_ : Unit) => r = 0) (fun _ => (fu (fu F (N0 + 64) (.inl (cI, 7, .inl (upd (fun _ => 0) 0 0)))) (N0 + 63) (.inr (8, [.ref (N0 + 64), .int 0])))) (fun _ => n)) 0 0 (fA N0) := by
  refine fx_start 3 rfl rfl (Nat.le_of_ble_eq_true rfl) ?_ rfl
  intro p e s m below meth c ls S hr hlocks hin hG hl
  have hl : lv_has ls 3 [(0, .ref (N0 + 63)), (1, .ref (N0 + 150)), (2, .ref (N0 + 150))] := hl
  have lt_h0 := hG.1.lt h0
  have lt_h1 := hG.1.lt h1
  have lt_h2 := hG.1.lt h2
  have lt_h3 := hG.1.lt h3
  have lt_h4 := hG.1.lt h4
  refine lv_aload_n S.1 S.2.1 dX6_leastCost_0 rfl (lv_at hl 0 rfl) ?_
  refine gx_get (C := RX6) (T := TX6) (N := 2) S hG h0 i_X6_leastCost_X6 rfl 0 (by decide) (by decide +kernel) rfl dX6_leastCost_1 ?_
  refine lv_iconst (v := 0) S.1 S.2.1 dX6_leastCost_4 (by decide) ?_
  refine lv_iconst (v := 0) S.1 S.2.1 dX6_leastCost_5 (by decide) ?_
  refine gx_iast (f' := upd (fun _ => 0) 0 0) S hG 0 h1 rfl (fin_l (by decide)) dX6_leastCost_6 (rfl) (fun H locs hG => ?_)
  refine lv_aload_n S.1 S.2.1 dX6_leastCost_7 rfl (lv_at hl 0 rfl) ?_
  refine lv_iconst (v := 2) S.1 S.2.1 dX6_leastCost_8 (by decide) ?_
  refine lv_aload_n S.1 S.2.1 dX6_leastCost_9 rfl (lv_at hl 1 rfl) ?_
  refine gx_get (C := RX5) (T := TX5) (N := 7) S hG (fu_at (by omega) h2) i_X6_leastCost_X5 rfl 6 (by decide) (by decide +kernel) rfl dX6_leastCost_10 ?_
  refine lv_aload_n S.1 S.2.1 dX6_leastCost_13 rfl (lv_at hl 2 rfl) ?_
  refine gx_get (C := RX5) (T := TX5) (N := 7) S hG (fu_at (by omega) h2) i_X6_leastCost_X5 rfl 6 (by decide) (by decide +kernel) rfl dX6_leastCost_14 ?_
  refine lv_iadd S.1 S.2.1 dX6_leastCost_17 ?_
  refine fx_topi (y := 2) (by decide) ?_
  refine lv_imul S.1 S.2.1 dX6_leastCost_18 ?_
  refine fx_topi (y := 4) (by decide) ?_
  refine gx_put (C := RX6) (T := TX6) (N := 2) (ty := .int) (v := .int 4) (fs' := [.ref (N0 + 64), .int 4]) S hG (fu_at (by omega) h0) i_X6_leastCost_X6 rfl 1 (by decide) tyX6 tyX6_ok nmX6 (by decide +kernel) rfl (by decide +kernel) rfl rfl (Nat.le_of_ble_eq_true rfl) rfl dX6_leastCost_19 (fun H locs hG => ?_)
  refine lv_aload_n S.1 S.2.1 dX6_leastCost_22 rfl (lv_at hl 0 rfl) ?_
  refine lv_aload_n S.1 S.2.1 dX6_leastCost_23 rfl (lv_at hl 1 rfl) ?_
  refine lv_aload_n S.1 S.2.1 dX6_leastCost_24 rfl (lv_at hl 2 rfl) ?_
  refine lv_iconst (v := 1) S.1 S.2.1 dX6_leastCost_25 (by decide) ?_
  refine fx_cSv (As := [.ref (N0 + 63), .ref (N0 + 150), .ref (N0 + 150), .int 1]) (rest := []) S hG (k1330_X6_tryFrom (by omega) (fu_at (by omega) (fu_at (by omega) h2)) fu_s (fu_at (by omega) fu_s) (fu_at (by omega) (fu_at (by omega) h3)) (fu_at (by omega) (fu_at (by omega) h4))) (cwS 4 S.2.2.2.2 gX6_leastCost_X6_tryFrom rfl rfl rfl (by decide +kernel) ⟨Nat.le_of_ble_eq_true rfl, Nat.le_of_ble_eq_true rfl⟩) rfl hl.1 rfl (Nat.le_of_ble_eq_true rfl) dX6_leastCost_26 ⟨Nat.le_of_ble_eq_true rfl, Nat.le_of_ble_eq_true rfl⟩ (fun _ H locs hp hG => ?_)
  refine lv_aload_n S.1 S.2.1 dX6_leastCost_29 rfl (lv_at hl 0 rfl) ?_
  refine gx_get (C := RX6) (T := TX6) (N := 2) S hG fu_s i_X6_leastCost_X6 rfl 1 (by decide) (by decide +kernel) rfl dX6_leastCost_30 ?_
  have hG : fG N0 D vwCl (fty cI cC cL cD cII cTr cTm cIt cB) (fen ql) s (fu (fu F (N0 + 64) (.inl (cI, 7, .inl (upd (fun _ => 0) 0 0)))) (N0 + 63) (.inr (8, [.ref (N0 + 64), .int 0]))) n H locs := hG.weak (fun a e h => by
    rcases fu_cases h with ⟨rfl, he⟩ | ⟨hne0, h⟩
    · cases he; exact fu_s
    · skip
      rcases fu_cases h with ⟨rfl, he⟩ | ⟨hne1, h⟩
      · cases he; exact (fu_at (by omega) (fu_at (by omega) fu_s))
      · exact (fu_at (by omega) (fu_at (by omega) (fu_at (by omega) h))))
  exact fx_iret S hr hlocks () hG (rfl) dX6_leastCost_33
theorem k1332_X7_distanceByMatchings {n : Nat} (hn : N0 + 231 ≤ n) (h0 : F N0 = some (.inr (9, [.ref (N0 + 1), .ref (N0 + 2), .ref (N0 + 11), .ref (N0 + 13), .ref (N0 + 63), .ref (N0 + 65), .ref (N0 + 85), .int (-1), .int (-1), .int 32]))) (h1 : F (N0 + 1) = some (.inl (cTr, 3, .inr (.inr (.inr (.inr (va_up (va_up (va_up (fun _ => none) 0 (some (N0 + 143))) 1 (some (N0 + 150))) 2 (some (N0 + 157))))))))) (h2 : F (N0 + 150) = some (.inr (7, [.ref (N0 + 151), .ref (N0 + 152), .ref (N0 + 153), .ref (N0 + 154), .ref (N0 + 155), .ref (N0 + 156), .int 1]))) (h3 : F (N0 + 63) = some (.inr (8, [.ref (N0 + 64), .int 0]))) (h4 : F (N0 + 64) = some (.inl (cI, 7, .inl (fun _ => 0)))) (h5 : F (N0 + 151) = some (.inl (cC, 20, .inl (upd (fun _ => 0) 0 97)))) (h6 : F (N0 + 153) = some (.inl (cI, 20, .inl (fun _ => 0)))) : Met l yX7_distanceByMatchings wsX7_distanceByMatchings ({ frames := 4, cells := 0, slots := 0, locals := 95 }) (va_Pc [.ref N0, .int 1, .int 1] (fP N0 D vwCl (fty cI cC cL cD cII cTr cTm cIt cB) (fen ql) F n)) (fQi N0 D vwCl (fty cI cC cL cD cII cTr cTm cIt cB) (fun (r : Int32) (_ : Unit) => r = 0) (fun _ => (fu (fu F (N0 + 64) (.inl (cI, 7, .inl (upd (fun _ => 0) 0 0)))) (N0 + 63) (.inr (8, [.ref (N0 + 64), .int 0])))) (fun _ => n)) 0 0 (fA N0) := by
  refine fx_start 5 rfl rfl (Nat.le_of_ble_eq_true rfl) ?_ rfl
  intro p e s m below meth c ls S hr hlocks hin hG hl
  have hl : lv_has ls 5 [(0, .ref N0), (1, .int 1), (2, .int 1)] := hl
  have lt_h0 := hG.1.lt h0
  have lt_h1 := hG.1.lt h1
  have lt_h2 := hG.1.lt h2
  have lt_h3 := hG.1.lt h3
  have lt_h4 := hG.1.lt h4
  have lt_h5 := hG.1.lt h5
  have lt_h6 := hG.1.lt h6
  refine lv_aload_n S.1 S.2.1 dX7_distanceByMatchings_0 rfl (lv_at hl 0 rfl) ?_
  refine lv_iload_n S.1 S.2.1 dX7_distanceByMatchings_1 rfl (lv_at hl 1 rfl) ?_
  refine fx_cVr (As := [.int 1]) (rest := []) S hG (k42_X7_treeAt (by omega) h0 h1) h0 rfl (cwV 1 S.2.2.2.2 gX7_distanceByMatchings_X7_treeAt rfl rfl rfl (by decide +kernel) ⟨Nat.le_of_ble_eq_true rfl, Nat.le_of_ble_eq_true rfl⟩) rfl hl.1 rfl (Nat.le_of_ble_eq_true rfl) dX7_distanceByMatchings_2 ⟨Nat.le_of_ble_eq_true rfl, Nat.le_of_ble_eq_true rfl⟩ (fun rv_1 _ H locs hp hG => ?_)
  subst rv_1
  refine lv_astore_n (lv' := [(3, .ref (N0 + 150)), (0, .ref N0), (1, .int 1), (2, .int 1)]) S.1 S.2.1 dX7_distanceByMatchings_5 rfl hl (by decide) rfl (fun ls hl => ?_)
  refine lv_aload_n S.1 S.2.1 dX7_distanceByMatchings_6 rfl (lv_at hl 1 rfl) ?_
  refine lv_iload_n S.1 S.2.1 dX7_distanceByMatchings_7 rfl (lv_at hl 3 rfl) ?_
  refine fx_cVr (As := [.int 1]) (rest := []) S hG (k42_X7_treeAt (by omega) h0 h1) h0 rfl (cwV 1 S.2.2.2.2 gX7_distanceByMatchings_X7_treeAt rfl rfl rfl (by decide +kernel) ⟨Nat.le_of_ble_eq_true rfl, Nat.le_of_ble_eq_true rfl⟩) rfl hl.1 rfl (Nat.le_of_ble_eq_true rfl) dX7_distanceByMatchings_8 ⟨Nat.le_of_ble_eq_true rfl, Nat.le_of_ble_eq_true rfl⟩ (fun rv_2 _ H locs hp hG => ?_)
  subst rv_2
  refine lv_astore (lv' := [(4, .ref (N0 + 150)), (3, .ref (N0 + 150)), (0, .ref N0), (1, .int 1), (2, .int 1)]) S.1 S.2.1 dX7_distanceByMatchings_11 hl (by decide) rfl (fun ls hl => ?_)
  refine lv_aload_n S.1 S.2.1 dX7_distanceByMatchings_13 rfl (lv_at hl 1 rfl) ?_
  refine gx_get (C := RX5) (T := TX5) (N := 7) S hG h2 i_X7_distanceByMatchings_X5 rfl 6 (by decide) (by decide +kernel) rfl dX7_distanceByMatchings_14 ?_
  refine lv_bipush (v := 7) S.1 S.2.1 dX7_distanceByMatchings_17 (by decide) ?_
  refine lv_icmp_gt (tgt := 32) S.1 S.2.1 dX7_distanceByMatchings_19 (by decide) (fun c => absurd c (by decide)) (fun _ => ?_)
  refine lv_aload S.1 S.2.1 dX7_distanceByMatchings_22 (lv_at hl 0 rfl) ?_
  refine gx_get (C := RX5) (T := TX5) (N := 7) S hG h2 i_X7_distanceByMatchings_X5 rfl 6 (by decide) (by decide +kernel) rfl dX7_distanceByMatchings_24 ?_
  refine lv_bipush (v := 7) S.1 S.2.1 dX7_distanceByMatchings_27 (by decide) ?_
  refine lv_icmp_le (tgt := 42) S.1 S.2.1 dX7_distanceByMatchings_29 (by decide) (fun _ => ?_) (fun c => absurd (by decide) c)
  refine lv_aload_n S.1 S.2.1 dX7_distanceByMatchings_42 rfl (lv_at hl 2 rfl) ?_
  refine gx_get (C := RX7) (T := TX7) (N := 10) S hG h0 i_X7_distanceByMatchings_X7 rfl 4 (by decide) (by decide +kernel) rfl dX7_distanceByMatchings_43 ?_
  refine lv_aload_n S.1 S.2.1 dX7_distanceByMatchings_46 rfl (lv_at hl 1 rfl) ?_
  refine lv_aload S.1 S.2.1 dX7_distanceByMatchings_47 (lv_at hl 0 rfl) ?_
  refine fx_cVi (As := [.ref (N0 + 150), .ref (N0 + 150)]) (rest := []) S hG (k1331_X6_leastCost (by omega) h3 h4 h2 h5 h6) h3 rfl (cwV 2 S.2.2.2.2 gX7_distanceByMatchings_X6_leastCost rfl rfl rfl (by decide +kernel) ⟨Nat.le_of_ble_eq_true rfl, Nat.le_of_ble_eq_true rfl⟩) rfl hl.1 rfl (Nat.le_of_ble_eq_true rfl) dX7_distanceByMatchings_49 ⟨Nat.le_of_ble_eq_true rfl, Nat.le_of_ble_eq_true rfl⟩ (fun rv_3 _ H locs hp hG => ?_)
  subst rv_3
  exact fx_iret S hr hlocks () hG (rfl) dX7_distanceByMatchings_52
theorem k1333_L_distanceByMatchings {n : Nat} (hn : N0 + 231 ≤ n) (h0 : F N0 = some (.inr (9, [.ref (N0 + 1), .ref (N0 + 2), .ref (N0 + 11), .ref (N0 + 13), .ref (N0 + 63), .ref (N0 + 65), .ref (N0 + 85), .int (-1), .int (-1), .int 32]))) (h1 : F (N0 + 1) = some (.inl (cTr, 3, .inr (.inr (.inr (.inr (va_up (va_up (va_up (fun _ => none) 0 (some (N0 + 143))) 1 (some (N0 + 150))) 2 (some (N0 + 157))))))))) (h2 : F (N0 + 150) = some (.inr (7, [.ref (N0 + 151), .ref (N0 + 152), .ref (N0 + 153), .ref (N0 + 154), .ref (N0 + 155), .ref (N0 + 156), .int 1]))) (h3 : F (N0 + 63) = some (.inr (8, [.ref (N0 + 64), .int 0]))) (h4 : F (N0 + 64) = some (.inl (cI, 7, .inl (fun _ => 0)))) (h5 : F (N0 + 151) = some (.inl (cC, 20, .inl (upd (fun _ => 0) 0 97)))) (h6 : F (N0 + 153) = some (.inl (cI, 20, .inl (fun _ => 0)))) (h7 : F (N0 + 229) = some (.inl (cL, 1, .inr (.inl (fun _ => 0))))) : Met l yL_distanceByMatchings wsL_distanceByMatchings ({ frames := 5, cells := 0, slots := 0, locals := 119 }) (va_Pc [.ref N0, .int 1, .int 1, .ref (N0 + 229)] (fP N0 D vwCl (fty cI cC cL cD cII cTr cTm cIt cB) (fen ql) F n)) (fQi N0 D vwCl (fty cI cC cL cD cII cTr cTm cIt cB) (fun (r : Int32) (_ : Unit) => r = 0) (fun _ => (fu (fu (fu F (N0 + 64) (.inl (cI, 7, .inl (upd (fun _ => 0) 0 0)))) (N0 + 63) (.inr (8, [.ref (N0 + 64), .int 0]))) (N0 + 229) (.inl (cL, 1, .inr (.inl (vp_updL (fun _ => 0) 0 0)))))) (fun _ => n)) 0 0 (fA N0) := by
  refine fx_startW (hh := [(0, 10, 13, 19), (0, 10, 17, 47)]) 5 rfl rfl (Nat.le_of_ble_eq_true rfl) ?_ rfl
  intro p e s m below meth c ls S htab hr hlocks hG hl
  have hl : lv_has ls 5 [(0, .ref N0), (1, .int 1), (2, .int 1), (3, .ref (N0 + 229))] := hl
  have lt_h0 := hG.1.lt h0
  have lt_h1 := hG.1.lt h1
  have lt_h2 := hG.1.lt h2
  have lt_h3 := hG.1.lt h3
  have lt_h4 := hG.1.lt h4
  have lt_h5 := hG.1.lt h5
  have lt_h6 := hG.1.lt h6
  have lt_h7 := hG.1.lt h7
  refine lv_aload_n S.1 S.2.1 dL_distanceByMatchings_0 rfl (lv_at hl 3 rfl) ?_
  refine lv_iconst (v := 0) S.1 S.2.1 dL_distanceByMatchings_1 (by decide) ?_
  refine lv_aload_n S.1 S.2.1 dL_distanceByMatchings_2 rfl (lv_at hl 0 rfl) ?_
  refine lv_iload_n S.1 S.2.1 dL_distanceByMatchings_3 rfl (lv_at hl 1 rfl) ?_
  refine lv_iload_n S.1 S.2.1 dL_distanceByMatchings_4 rfl (lv_at hl 2 rfl) ?_
  refine fx_cVi (As := [.int 1, .int 1]) (rest := [.int 0, .ref (N0 + 229)]) S hG (k1332_X7_distanceByMatchings (by omega) h0 h1 h2 h3 h4 h5 h6) h0 rfl (cwV 2 S.2.2.2.2 gL_distanceByMatchings_X7_distanceByMatchings rfl rfl rfl (by decide +kernel) ⟨Nat.le_of_ble_eq_true rfl, Nat.le_of_ble_eq_true rfl⟩) rfl hl.1 rfl (Nat.le_of_ble_eq_true rfl) dL_distanceByMatchings_5 ⟨Nat.le_of_ble_eq_true rfl, Nat.le_of_ble_eq_true rfl⟩ (fun rv_1 _ H locs hp hG => ?_)
  subst rv_1
  refine lv_i2l (v := 0) S.1 S.2.1 dL_distanceByMatchings_8 (by decide) ?_
  refine gx_last (f' := vp_updL (fun _ => 0) 0 0) S hG 2 (fu_at (by omega) (fu_at (by omega) h7)) rfl (fin_l (by decide)) dL_distanceByMatchings_9 rfl (fun H locs hG => ?_)
  refine lv_goto (tgt := 21) S.1 S.2.1 dL_distanceByMatchings_10 (by decide) ?_
  refine lv_iconst (v := 0) S.1 S.2.1 dL_distanceByMatchings_21 (by decide) ?_
  exact fx_iret S hr hlocks () hG (rfl) dL_distanceByMatchings_22
theorem k1334_X10_distanceByMatchings {n : Nat} (hn : N0 + 231 ≤ n) (h0 : F (N0 + 164) = some (.inr (12, [.ref (N0 + 165), .int 0, .ref (N0 + 181), .int 0, .int 0, .int 0, .int (-1), .ref (ql 24), .ref (N0 + 182), .ref (N0 + 187), .ref (N0 + 208), .ref (N0 + 209), .ref (N0 + 210), .ref (N0 + 211), .ref (N0 + 212), .int 0, .ref (N0 + 213), .ref (N0 + 218), .ref (N0 + 223), .ref (N0 + 224), .ref (N0 + 225), .ref (N0 + 226), .ref (N0 + 227), .int 0, .int 0, .ref (N0 + 228), .null, .int (-1), .int 0, .int 0, .int 0]))) (h1 : F (N0 + 165) = some (.inl (cTm, 3, .inr (.inr (.inr (.inr (va_up (va_up (va_up (fun _ => none) 0 (some (N0 + 166))) 1 (some (N0 + 171))) 2 (some (N0 + 176))))))))) (h2 : F (N0 + 171) = some (.inr (11, [.ref (N0 + 172), .ref (N0 + 173), .ref (N0 + 174), .ref (N0 + 175), .int 1]))) (h3 : F (N0 + 172) = some (.inl (cI, 20, .inl (upd (fun _ => 0) 0 97)))) (h4 : F (N0 + 174) = some (.inl (cI, 20, .inl (upd (fun _ => 0) 0 0)))) (h5 : F (N0 + 187) = some (.inl (cII, 20, .inr (.inr (.inr (.inr (fun j => if j < 20 then some ((N0 + 188) + j) else none))))))) (h6 : F (N0 + 188) = some (.inl (cI, 20, .inl (fun _ => 0)))) : Met l yX10_distanceByMatchings wsX10_distanceByMatchings ({ frames := 3, cells := 4, slots := 2, locals := 72 }) (va_Pc [.ref (N0 + 164), .int 1, .int 1] (fP N0 D vwCl (fty cI cC cL cD cII cTr cTm cIt cB) (fen ql) F n)) (fQi N0 D vwCl (fty cI cC cL cD cII cTr cTm cIt cB) (fun (r : Int32) (_ : Unit) => r = 0) (fun _ => (fblk (fu (fu F (N0 + 164) (.inr (12, [.ref (N0 + 165), .int 0, .ref (N0 + 181), .int 0, .int 0, .int 0, .int (-1), .ref (ql 24), .ref (N0 + 182), .ref (N0 + 187), .ref (N0 + 208), .ref (N0 + 209), .ref (N0 + 210), .ref (N0 + 211), .ref (N0 + 212), .int 0, .ref (N0 + 213), .ref (N0 + 218), .ref (N0 + 223), .ref (N0 + 224), .ref (N0 + 225), .ref (N0 + 226), .ref (N0 + 227), .int 0, .int 0, .ref (N0 + 228), .null, .int (-1), .int 0, .int 0, .int 0]))) (N0 + 188) (.inl (cI, 20, .inl (upd (fun _ => 0) 0 0)))) n [.inl (cI, 0, .inl (fun _ => 0)), .inl (cI, 0, .inl (fun _ => 0)), .inl (cII, 1, .inr (.inr (.inr (.inr (fun j => if j < 1 then some ((n + 3) + j) else none))))), .inl (cI, 1, .inl (fun _ => 0))])) (fun _ => (n + 4))) 4 2 (fA N0) := by
  refine fx_start 3 rfl rfl (Nat.le_of_ble_eq_true rfl) ?_ rfl
  intro p e s m below meth c ls S hr hlocks hin hG hl
  have hl : lv_has ls 3 [(0, .ref (N0 + 164)), (1, .int 1), (2, .int 1)] := hl
  have lt_h0 := hG.1.lt h0
  have lt_h1 := hG.1.lt h1
  have lt_h2 := hG.1.lt h2
  have lt_h3 := hG.1.lt h3
  have lt_h4 := hG.1.lt h4
  have lt_h5 := hG.1.lt h5
  have lt_h6 := hG.1.lt h6
  refine lv_aload_n S.1 S.2.1 dX10_distanceByMatchings_0 rfl (lv_at hl 0 rfl) ?_
  refine lv_iload_n S.1 S.2.1 dX10_distanceByMatchings_1 rfl (lv_at hl 1 rfl) ?_
  refine lv_iload_n S.1 S.2.1 dX10_distanceByMatchings_2 rfl (lv_at hl 2 rfl) ?_
  refine fx_cVi (As := [.int 1, .int 1]) (rest := []) S hG (k498_X10_areNone (by omega) h0) h0 rfl (cwV 2 S.2.2.2.2 gX10_distanceByMatchings_X10_areNone rfl rfl rfl (by decide +kernel) ⟨Nat.le_of_ble_eq_true rfl, Nat.le_of_ble_eq_true rfl⟩) rfl hl.1 rfl (Nat.le_of_ble_eq_true rfl) dX10_distanceByMatchings_3 ⟨Nat.le_of_ble_eq_true rfl, Nat.le_of_ble_eq_true rfl⟩ (fun rv_1 _ H locs hp hG => ?_)
  subst rv_1
  refine lv_if_eq (tgt := 11) S.1 S.2.1 dX10_distanceByMatchings_6 (by decide) (fun _ => ?_) (fun c => absurd (by decide) c)
  refine lv_aload_n S.1 S.2.1 dX10_distanceByMatchings_11 rfl (lv_at hl 0 rfl) ?_
  refine gx_get (C := RX10) (T := TX10) (N := 31) S hG fu_s i_X10_distanceByMatchings_X10 rfl 0 (by decide) (by decide +kernel) rfl dX10_distanceByMatchings_12 ?_
  refine lv_iload_n S.1 S.2.1 dX10_distanceByMatchings_15 rfl (lv_at hl 1 rfl) ?_
  refine gx_aldq (x := (N0 + 171)) S hG 6 rfl (fu_at (by omega) h1) rfl (fin_l (by decide)) (rfl) dX10_distanceByMatchings_16 ?_
  refine gx_getN (C := RX9) (T := TX9) (N := 5) S hG (fu_at (by omega) h2) i_X10_distanceByMatchings_X9 rfl 4 (by decide) (List.mem_of_getElem? (i := 4) rfl) rfl dX10_distanceByMatchings_17 ?_
  refine lv_bipush (v := 7) S.1 S.2.1 dX10_distanceByMatchings_20 (by decide) ?_
  refine lv_icmp_gt (tgt := 39) S.1 S.2.1 dX10_distanceByMatchings_22 (by decide) (fun c => absurd c (by decide)) (fun _ => ?_)
  refine lv_aload_n S.1 S.2.1 dX10_distanceByMatchings_25 rfl (lv_at hl 0 rfl) ?_
  refine gx_get (C := RX10) (T := TX10) (N := 31) S hG fu_s i_X10_distanceByMatchings_X10 rfl 0 (by decide) (by decide +kernel) rfl dX10_distanceByMatchings_26 ?_
  refine lv_iload_n S.1 S.2.1 dX10_distanceByMatchings_29 rfl (lv_at hl 2 rfl) ?_
  refine gx_aldq (x := (N0 + 171)) S hG 6 rfl (fu_at (by omega) h1) rfl (fin_l (by decide)) (rfl) dX10_distanceByMatchings_30 ?_
  refine gx_getN (C := RX9) (T := TX9) (N := 5) S hG (fu_at (by omega) h2) i_X10_distanceByMatchings_X9 rfl 4 (by decide) (List.mem_of_getElem? (i := 4) rfl) rfl dX10_distanceByMatchings_31 ?_
  refine lv_bipush (v := 7) S.1 S.2.1 dX10_distanceByMatchings_34 (by decide) ?_
  refine lv_icmp_le (tgt := 47) S.1 S.2.1 dX10_distanceByMatchings_36 (by decide) (fun _ => ?_) (fun c => absurd (by decide) c)
  refine lv_aload_n S.1 S.2.1 dX10_distanceByMatchings_47 rfl (lv_at hl 0 rfl) ?_
  refine lv_aload_n S.1 S.2.1 dX10_distanceByMatchings_48 rfl (lv_at hl 0 rfl) ?_
  refine gx_get (C := RX10) (T := TX10) (N := 31) S hG fu_s i_X10_distanceByMatchings_X10 rfl 0 (by decide) (by decide +kernel) rfl dX10_distanceByMatchings_49 ?_
  refine lv_iload_n S.1 S.2.1 dX10_distanceByMatchings_52 rfl (lv_at hl 1 rfl) ?_
  refine gx_aldq (x := (N0 + 171)) S hG 6 rfl (fu_at (by omega) h1) rfl (fin_l (by decide)) (rfl) dX10_distanceByMatchings_53 ?_
  refine lv_aload_n S.1 S.2.1 dX10_distanceByMatchings_54 rfl (lv_at hl 0 rfl) ?_
  refine gx_get (C := RX10) (T := TX10) (N := 31) S hG fu_s i_X10_distanceByMatchings_X10 rfl 0 (by decide) (by decide +kernel) rfl dX10_distanceByMatchings_55 ?_
  refine lv_iload_n S.1 S.2.1 dX10_distanceByMatchings_58 rfl (lv_at hl 2 rfl) ?_
  refine gx_aldq (x := (N0 + 171)) S hG 6 rfl (fu_at (by omega) h1) rfl (fin_l (by decide)) (rfl) dX10_distanceByMatchings_59 ?_
  refine fx_cVi (As := [.ref (N0 + 171), .ref (N0 + 171)]) (rest := []) S hG (k1241_X10_fills (by omega) (fu_at (by omega) h2) (fu_at (by omega) h3) (fu_at (by omega) h4) fu_s (fu_at (by omega) h5) (fu_at (by omega) h6)) fu_s rfl (cwV 2 S.2.2.2.2 gX10_distanceByMatchings_X10_fills rfl rfl rfl (by decide +kernel) ⟨Nat.le_of_ble_eq_true rfl, Nat.le_of_ble_eq_true rfl⟩) rfl hl.1 rfl (Nat.le_of_ble_eq_true rfl) dX10_distanceByMatchings_60 ⟨Nat.le_of_ble_eq_true rfl, Nat.le_of_ble_eq_true rfl⟩ (fun rv_2 _ H locs hp hG => ?_)
  subst rv_2
  refine W.widen (k := 4) (n := 2) (by decide) (by decide) ?_
  have hG : fG N0 D vwCl (fty cI cC cL cD cII cTr cTm cIt cB) (fen ql) s (fblk (fu (fu F (N0 + 164) (.inr (12, [.ref (N0 + 165), .int 0, .ref (N0 + 181), .int 0, .int 0, .int 0, .int (-1), .ref (ql 24), .ref (N0 + 182), .ref (N0 + 187), .ref (N0 + 208), .ref (N0 + 209), .ref (N0 + 210), .ref (N0 + 211), .ref (N0 + 212), .int 0, .ref (N0 + 213), .ref (N0 + 218), .ref (N0 + 223), .ref (N0 + 224), .ref (N0 + 225), .ref (N0 + 226), .ref (N0 + 227), .int 0, .int 0, .ref (N0 + 228), .null, .int (-1), .int 0, .int 0, .int 0]))) (N0 + 188) (.inl (cI, 20, .inl (upd (fun _ => 0) 0 0)))) n [.inl (cI, 0, .inl (fun _ => 0)), .inl (cI, 0, .inl (fun _ => 0)), .inl (cII, 1, .inr (.inr (.inr (.inr (fun j => if j < 1 then some ((n + 3) + j) else none))))), .inl (cI, 1, .inl (fun _ => 0))]) (n + 4) H locs := hG.weak (fun a e h => by
    rcases fblk_cases 4 rfl h with ⟨k, rfl, hlt, hk⟩ | ⟨hout, h⟩
    · rcases (show k = 0 ∨ k = 1 ∨ k = 2 ∨ k = 3 by omega) with rfl | rfl | rfl | rfl
      · cases (show some (.inl (cI, 0, .inl (fun _ => 0))) = some e from hk); exact (fblk_at 0 (by omega) rfl)
      · cases (show some (.inl (cI, 0, .inl (fun _ => 0))) = some e from hk); exact (fblk_at 1 (by omega) rfl)
      · cases (show some (.inl (cII, 1, .inr (.inr (.inr (.inr (fun j => if j < 1 then some ((n + 3) + j) else none)))))) = some e from hk); exact (fblk_at 2 (by omega) rfl)
      · cases (show some (.inl (cI, 1, .inl (fun _ => 0))) = some e from hk); exact (fblk_at 3 (by omega) rfl)
    · rcases fu_cases h with ⟨rfl, he⟩ | ⟨hne0, h⟩
      · cases he; exact (fblk_sk 4 rfl (by omega) fu_s)
      · skip
        rcases fu_cases h with ⟨rfl, he⟩ | ⟨hne1, h⟩
        · cases he; exact (fblk_sk 4 rfl (by omega) (fu_at (by omega) fu_s))
        · exact (fblk_sk 4 rfl (by omega) (fu_at (by omega) (fu_at (by omega) h))))
  exact fx_iret S hr hlocks () hG (rfl) dX10_distanceByMatchings_63
theorem k1335_X6_costOfTried {n : Nat} (hn : N0 + 231 ≤ n) (h0 : F (N0 + 150) = some (.inr (7, [.ref (N0 + 151), .ref (N0 + 152), .ref (N0 + 153), .ref (N0 + 154), .ref (N0 + 155), .ref (N0 + 156), .int 1]))) (h1 : F (N0 + 157) = some (.inr (7, [.ref (N0 + 158), .ref (N0 + 159), .ref (N0 + 160), .ref (N0 + 161), .ref (N0 + 162), .ref (N0 + 163), .int 1]))) (h2 : F (N0 + 63) = some (.inr (8, [.ref (N0 + 64), .int 4]))) (h3 : F (N0 + 64) = some (.inl (cI, 7, .inl (upd (fun _ => 0) 0 0)))) (h4 : F (N0 + 151) = some (.inl (cC, 20, .inl (upd (fun _ => 0) 0 97)))) (h5 : F (N0 + 158) = some (.inl (cC, 20, .inl (upd (fun _ => 0) 0 97)))) (h6 : F (N0 + 153) = some (.inl (cI, 20, .inl (fun _ => 0)))) (h7 : F (N0 + 160) = some (.inl (cI, 20, .inl (fun _ => 0)))) : Met l yX6_costOfTried wsX6_costOfTried ({ frames := 1, cells := 0, slots := 0, locals := 24 }) (va_Pc [.ref (N0 + 63), .ref (N0 + 150), .ref (N0 + 157)] (fP N0 D vwCl (fty cI cC cL cD cII cTr cTm cIt cB) (fen ql) F n)) (fQi N0 D vwCl (fty cI cC cL cD cII cTr cTm cIt cB) (fun (r : Int32) (_ : Unit) => r = 0) (fun _ => F) (fun _ => n)) 0 0 (fA N0) := by
  refine fx_start 6 rfl rfl (Nat.le_of_ble_eq_true rfl) ?_ rfl
  intro p e s m below meth c ls S hr hlocks hin hG hl
  have hl : lv_has ls 6 [(0, .ref (N0 + 63)), (1, .ref (N0 + 150)), (2, .ref (N0 + 157))] := hl
  have lt_h0 := hG.1.lt h0
  have lt_h1 := hG.1.lt h1
  have lt_h2 := hG.1.lt h2
  have lt_h3 := hG.1.lt h3
  have lt_h4 := hG.1.lt h4
  have lt_h5 := hG.1.lt h5
  have lt_h6 := hG.1.lt h6
  have lt_h7 := hG.1.lt h7
  refine lv_iconst (v := 2) S.1 S.2.1 dX6_costOfTried_0 (by decide) ?_
  refine lv_aload_n S.1 S.2.1 dX6_costOfTried_1 rfl (lv_at hl 1 rfl) ?_
  refine gx_get (C := RX5) (T := TX5) (N := 7) S hG h0 i_X6_costOfTried_X5 rfl 6 (by decide) (by decide +kernel) rfl dX6_costOfTried_2 ?_
  refine lv_aload_n S.1 S.2.1 dX6_costOfTried_5 rfl (lv_at hl 2 rfl) ?_
  refine gx_get (C := RX5) (T := TX5) (N := 7) S hG h1 i_X6_costOfTried_X5 rfl 6 (by decide) (by decide +kernel) rfl dX6_costOfTried_6 ?_
  refine lv_iadd S.1 S.2.1 dX6_costOfTried_9 ?_
  refine fx_topi (y := 2) (by decide) ?_
  refine lv_imul S.1 S.2.1 dX6_costOfTried_10 ?_
  refine fx_topi (y := 4) (by decide) ?_
  refine lv_istore_n (lv' := [(3, .int 4), (0, .ref (N0 + 63)), (1, .ref (N0 + 150)), (2, .ref (N0 + 157))]) S.1 S.2.1 dX6_costOfTried_11 rfl hl (by decide) rfl (fun ls hl => ?_)
  refine lv_iconst (v := 0) S.1 S.2.1 dX6_costOfTried_12 (by decide) ?_
  refine lv_istore (lv' := [(4, .int 0), (3, .int 4), (0, .ref (N0 + 63)), (1, .ref (N0 + 150)), (2, .ref (N0 + 157))]) S.1 S.2.1 dX6_costOfTried_13 hl (by decide) rfl (fun ls hl => ?_)
  refine lv_iload S.1 S.2.1 dX6_costOfTried_15 (lv_at hl 0 rfl) ?_
  refine lv_aload_n S.1 S.2.1 dX6_costOfTried_17 rfl (lv_at hl 3 rfl) ?_
  refine gx_get (C := RX5) (T := TX5) (N := 7) S hG h0 i_X6_costOfTried_X5 rfl 6 (by decide) (by decide +kernel) rfl dX6_costOfTried_18 ?_
  refine lv_icmp_ge (tgt := 66) S.1 S.2.1 dX6_costOfTried_21 (by decide) (fun c => absurd c (by decide)) (fun _ => ?_)
  refine lv_iload S.1 S.2.1 dX6_costOfTried_24 (lv_at hl 0 rfl) ?_
  refine lv_bipush (v := 7) S.1 S.2.1 dX6_costOfTried_26 (by decide) ?_
  refine lv_icmp_ge (tgt := 66) S.1 S.2.1 dX6_costOfTried_28 (by decide) (fun c => absurd c (by decide)) (fun _ => ?_)
  refine lv_aload_n S.1 S.2.1 dX6_costOfTried_31 rfl (lv_at hl 2 rfl) ?_
  refine gx_get (C := RX6) (T := TX6) (N := 2) S hG h2 i_X6_costOfTried_X6 rfl 0 (by decide) (by decide +kernel) rfl dX6_costOfTried_32 ?_
  refine lv_iload S.1 S.2.1 dX6_costOfTried_35 (lv_at hl 0 rfl) ?_
  refine gx_iald (v := 0) S hG 0 h3 rfl (fin_l (by decide)) (by decide) dX6_costOfTried_37 ?_
  refine lv_istore (lv' := [(5, .int 0), (4, .int 0), (3, .int 4), (0, .ref (N0 + 63)), (1, .ref (N0 + 150)), (2, .ref (N0 + 157))]) S.1 S.2.1 dX6_costOfTried_38 hl (by decide) rfl (fun ls hl => ?_)
  refine lv_iload S.1 S.2.1 dX6_costOfTried_40 (lv_at hl 0 rfl) ?_
  refine lv_iconst (v := (-1)) S.1 S.2.1 dX6_costOfTried_42 (by decide) ?_
  refine lv_icmp_eq (tgt := 60) S.1 S.2.1 dX6_costOfTried_43 (by decide) (fun c => absurd c (by decide)) (fun _ => ?_)
  refine lv_iload_n S.1 S.2.1 dX6_costOfTried_46 rfl (lv_at hl 2 rfl) ?_
  refine lv_aload_n S.1 S.2.1 dX6_costOfTried_47 rfl (lv_at hl 4 rfl) ?_
  refine lv_iload S.1 S.2.1 dX6_costOfTried_48 (lv_at hl 1 rfl) ?_
  refine lv_aload_n S.1 S.2.1 dX6_costOfTried_50 rfl (lv_at hl 5 rfl) ?_
  refine lv_iload S.1 S.2.1 dX6_costOfTried_51 (lv_at hl 0 rfl) ?_
  refine fx_cSNi (host := "TreeDiffer") (As := [.ref (N0 + 150), .int 0, .ref (N0 + 157), .int 0]) (rest := [.int 4]) S hG (k1245_X7_changeCost (by omega) h0 h4 h1 h5 h6 h7) ⟨(va_cnB 4 S.2.2.2.2 gX6_costOfTried_X7_changeCost_n52 rfl rfl rfl (hG.nest (show _ ∈ fen2.2.2.1 from by decide)) (S.2.2.2.2 (.initialized RX7) (by decide +kernel)) (by decide +kernel) ⟨Nat.le_of_ble_eq_true rfl, Nat.le_of_ble_eq_true rfl⟩), S.2.2.2.2 (.static yX7_changeCost) (by decide +kernel), trivial⟩ rfl hl.1 rfl (Nat.le_of_ble_eq_true rfl) dX6_costOfTried_53 ⟨Nat.le_of_ble_eq_true rfl, Nat.le_of_ble_eq_true rfl⟩ (fun rv_1 _ H locs hp hG => ?_)
  subst rv_1
  refine lv_iconst (v := 4) S.1 S.2.1 dX6_costOfTried_56 (by decide) ?_
  refine lv_isub S.1 S.2.1 dX6_costOfTried_57 ?_
  refine fx_topi (y := (-4)) (by decide) ?_
  refine lv_iadd S.1 S.2.1 dX6_costOfTried_58 ?_
  refine fx_topi (y := 0) (by decide) ?_
  refine lv_istore_n (lv' := [(3, .int 0), (5, .int 0), (4, .int 0), (0, .ref (N0 + 63)), (1, .ref (N0 + 150)), (2, .ref (N0 + 157))]) S.1 S.2.1 dX6_costOfTried_59 rfl hl (by decide) rfl (fun ls hl => ?_)
  refine lv_iinc (v := 1) (lv' := [(4, .int 1), (3, .int 0), (5, .int 0), (0, .ref (N0 + 63)), (1, .ref (N0 + 150)), (2, .ref (N0 + 157))]) S.1 S.2.1 dX6_costOfTried_60 hl (k := 2) rfl (by decide) (by decide) rfl (fun ls hl => ?_)
  refine lv_goto (tgt := 15) S.1 S.2.1 dX6_costOfTried_63 (by decide) ?_
  refine lv_iload S.1 S.2.1 dX6_costOfTried_15 (lv_at hl 0 rfl) ?_
  refine lv_aload_n S.1 S.2.1 dX6_costOfTried_17 rfl (lv_at hl 4 rfl) ?_
  refine gx_get (C := RX5) (T := TX5) (N := 7) S hG h0 i_X6_costOfTried_X5 rfl 6 (by decide) (by decide +kernel) rfl dX6_costOfTried_18 ?_
  refine lv_icmp_ge (tgt := 66) S.1 S.2.1 dX6_costOfTried_21 (by decide) (fun _ => ?_) (fun c => absurd (by decide) c)
  refine lv_iload_n S.1 S.2.1 dX6_costOfTried_66 rfl (lv_at hl 1 rfl) ?_
  exact fx_iret S hr hlocks () hG (rfl) dX6_costOfTried_67
theorem k1336_X6_tryFrom {n : Nat} (hn : N0 + 231 ≤ n) (h0 : F (N0 + 150) = some (.inr (7, [.ref (N0 + 151), .ref (N0 + 152), .ref (N0 + 153), .ref (N0 + 154), .ref (N0 + 155), .ref (N0 + 156), .int 1]))) (h1 : F (N0 + 63) = some (.inr (8, [.ref (N0 + 64), .int 4]))) (h2 : F (N0 + 157) = some (.inr (7, [.ref (N0 + 158), .ref (N0 + 159), .ref (N0 + 160), .ref (N0 + 161), .ref (N0 + 162), .ref (N0 + 163), .int 1]))) (h3 : F (N0 + 64) = some (.inl (cI, 7, .inl (upd (fun _ => 0) 0 0)))) (h4 : F (N0 + 151) = some (.inl (cC, 20, .inl (upd (fun _ => 0) 0 97)))) (h5 : F (N0 + 158) = some (.inl (cC, 20, .inl (upd (fun _ => 0) 0 97)))) (h6 : F (N0 + 153) = some (.inl (cI, 20, .inl (fun _ => 0)))) (h7 : F (N0 + 160) = some (.inl (cI, 20, .inl (fun _ => 0)))) : Met l yX6_tryFrom wsX6_tryFrom ({ frames := 2, cells := 0, slots := 0, locals := 49 }) (va_Pc [.ref (N0 + 63), .ref (N0 + 150), .ref (N0 + 157), .int 1] (fP N0 D vwCl (fty cI cC cL cD cII cTr cTm cIt cB) (fen ql) F n)) (fQv N0 D vwCl (fty cI cC cL cD cII cTr cTm cIt cB) (fun (_ : Unit) => True) (fun _ => (fu F (N0 + 63) (.inr (8, [.ref (N0 + 64), .int 0])))) (fun _ => n)) 0 0 (fA N0) := by
  refine fx_start 5 rfl rfl (Nat.le_of_ble_eq_true rfl) ?_ rfl
  intro p e s m below meth c ls S hr hlocks hin hG hl
  have hl : lv_has ls 5 [(0, .ref (N0 + 63)), (1, .ref (N0 + 150)), (2, .ref (N0 + 157)), (3, .int 1)] := hl
  have lt_h0 := hG.1.lt h0
  have lt_h1 := hG.1.lt h1
  have lt_h2 := hG.1.lt h2
  have lt_h3 := hG.1.lt h3
  have lt_h4 := hG.1.lt h4
  have lt_h5 := hG.1.lt h5
  have lt_h6 := hG.1.lt h6
  have lt_h7 := hG.1.lt h7
  refine lv_iload_n S.1 S.2.1 dX6_tryFrom_0 rfl (lv_at hl 3 rfl) ?_
  refine lv_iconst (v := 1) S.1 S.2.1 dX6_tryFrom_1 (by decide) ?_
  refine lv_icmp_lt (tgt := 19) S.1 S.2.1 dX6_tryFrom_2 (by decide) (fun c => absurd c (by decide)) (fun _ => ?_)
  refine lv_iload_n S.1 S.2.1 dX6_tryFrom_5 rfl (lv_at hl 3 rfl) ?_
  refine lv_bipush (v := 7) S.1 S.2.1 dX6_tryFrom_6 (by decide) ?_
  refine lv_icmp_ge (tgt := 19) S.1 S.2.1 dX6_tryFrom_8 (by decide) (fun c => absurd c (by decide)) (fun _ => ?_)
  refine lv_iload_n S.1 S.2.1 dX6_tryFrom_11 rfl (lv_at hl 3 rfl) ?_
  refine lv_aload_n S.1 S.2.1 dX6_tryFrom_12 rfl (lv_at hl 1 rfl) ?_
  refine gx_get (C := RX5) (T := TX5) (N := 7) S hG h0 i_X6_tryFrom_X5 rfl 6 (by decide) (by decide +kernel) rfl dX6_tryFrom_13 ?_
  refine lv_icmp_lt (tgt := 37) S.1 S.2.1 dX6_tryFrom_16 (by decide) (fun c => absurd c (by decide)) (fun _ => ?_)
  refine lv_aload_n S.1 S.2.1 dX6_tryFrom_19 rfl (lv_at hl 0 rfl) ?_
  refine lv_aload_n S.1 S.2.1 dX6_tryFrom_20 rfl (lv_at hl 0 rfl) ?_
  refine gx_get (C := RX6) (T := TX6) (N := 2) S hG h1 i_X6_tryFrom_X6 rfl 1 (by decide) (by decide +kernel) rfl dX6_tryFrom_21 ?_
  refine lv_aload_n S.1 S.2.1 dX6_tryFrom_24 rfl (lv_at hl 0 rfl) ?_
  refine lv_aload_n S.1 S.2.1 dX6_tryFrom_25 rfl (lv_at hl 1 rfl) ?_
  refine lv_aload_n S.1 S.2.1 dX6_tryFrom_26 rfl (lv_at hl 2 rfl) ?_
  refine fx_cVi (As := [.ref (N0 + 150), .ref (N0 + 157)]) (rest := [.int 4, .ref (N0 + 63)]) S hG (k1335_X6_costOfTried (by omega) h0 h2 h1 h3 h4 h5 h6 h7) h1 rfl (cwV 2 S.2.2.2.2 gX6_tryFrom_X6_costOfTried rfl rfl rfl (by decide +kernel) ⟨Nat.le_of_ble_eq_true rfl, Nat.le_of_ble_eq_true rfl⟩) rfl hl.1 rfl (Nat.le_of_ble_eq_true rfl) dX6_tryFrom_27 ⟨Nat.le_of_ble_eq_true rfl, Nat.le_of_ble_eq_true rfl⟩ (fun rv_1 _ H locs hp hG => ?_)
  subst rv_1
  refine gx_mmin S hl.1 (by decide +kernel) (by decide +kernel) (by decide +kernel) (by decide +kernel) (Nat.le_of_ble_eq_true rfl) (Nat.le_of_ble_eq_true rfl) (by decide) (by decide) dX6_tryFrom_30 ?_
  refine fx_topi (y := 0) (by decide) ?_
  refine gx_put (C := RX6) (T := TX6) (N := 2) (ty := .int) (v := .int 0) (fs' := [.ref (N0 + 64), .int 0]) S hG h1 i_X6_tryFrom_X6 rfl 1 (by decide) tyX6 tyX6_ok nmX6 (by decide +kernel) rfl (by decide +kernel) rfl rfl (Nat.le_of_ble_eq_true rfl) rfl dX6_tryFrom_33 (fun H locs hG => ?_)
  exact fx_vret S hr hlocks () hG trivial dX6_tryFrom_36
theorem k1337_X6_leastCost {n : Nat} (hn : N0 + 231 ≤ n) (h0 : F (N0 + 63) = some (.inr (8, [.ref (N0 + 64), .int 0]))) (h1 : F (N0 + 64) = some (.inl (cI, 7, .inl (fun _ => 0)))) (h2 : F (N0 + 150) = some (.inr (7, [.ref (N0 + 151), .ref (N0 + 152), .ref (N0 + 153), .ref (N0 + 154), .ref (N0 + 155), .ref (N0 + 156), .int 1]))) (h3 : F (N0 + 157) = some (.inr (7, [.ref (N0 + 158), .ref (N0 + 159), .ref (N0 + 160), .ref (N0 + 161), .ref (N0 + 162), .ref (N0 + 163), .int 1]))) (h4 : F (N0 + 151) = some (.inl (cC, 20, .inl (upd (fun _ => 0) 0 97)))) (h5 : F (N0 + 158) = some (.inl (cC, 20, .inl (upd (fun _ => 0) 0 97)))) (h6 : F (N0 + 153) = some (.inl (cI, 20, .inl (fun _ => 0)))) (h7 : F (N0 + 160) = some (.inl (cI, 20, .inl (fun _ => 0)))) : Met l yX6_leastCost wsX6_leastCost ({ frames := 3, cells := 0, slots := 0, locals := 73 }) (va_Pc [.ref (N0 + 63), .ref (N0 + 150), .ref (N0 + 157)] (fP N0 D vwCl (fty cI cC cL cD cII cTr cTm cIt cB) (fen ql) F n)) (fQi N0 D vwCl (fty cI cC cL cD cII cTr cTm cIt cB) (fun (r : Int32) (_ : Unit) => r = 0) (fun _ => (fu (fu F (N0 + 64) (.inl (cI, 7, .inl (upd (fun _ => 0) 0 0)))) (N0 + 63) (.inr (8, [.ref (N0 + 64), .int 0])))) (fun _ => n)) 0 0 (fA N0) := by
  refine fx_start 3 rfl rfl (Nat.le_of_ble_eq_true rfl) ?_ rfl
  intro p e s m below meth c ls S hr hlocks hin hG hl
  have hl : lv_has ls 3 [(0, .ref (N0 + 63)), (1, .ref (N0 + 150)), (2, .ref (N0 + 157))] := hl
  have lt_h0 := hG.1.lt h0
  have lt_h1 := hG.1.lt h1
  have lt_h2 := hG.1.lt h2
  have lt_h3 := hG.1.lt h3
  have lt_h4 := hG.1.lt h4
  have lt_h5 := hG.1.lt h5
  have lt_h6 := hG.1.lt h6
  have lt_h7 := hG.1.lt h7
  refine lv_aload_n S.1 S.2.1 dX6_leastCost_0 rfl (lv_at hl 0 rfl) ?_
  refine gx_get (C := RX6) (T := TX6) (N := 2) S hG h0 i_X6_leastCost_X6 rfl 0 (by decide) (by decide +kernel) rfl dX6_leastCost_1 ?_
  refine lv_iconst (v := 0) S.1 S.2.1 dX6_leastCost_4 (by decide) ?_
  refine lv_iconst (v := 0) S.1 S.2.1 dX6_leastCost_5 (by decide) ?_
  refine gx_iast (f' := upd (fun _ => 0) 0 0) S hG 0 h1 rfl (fin_l (by decide)) dX6_leastCost_6 (rfl) (fun H locs hG => ?_)
  refine lv_aload_n S.1 S.2.1 dX6_leastCost_7 rfl (lv_at hl 0 rfl) ?_
  refine lv_iconst (v := 2) S.1 S.2.1 dX6_leastCost_8 (by decide) ?_
  refine lv_aload_n S.1 S.2.1 dX6_leastCost_9 rfl (lv_at hl 1 rfl) ?_
  refine gx_get (C := RX5) (T := TX5) (N := 7) S hG (fu_at (by omega) h2) i_X6_leastCost_X5 rfl 6 (by decide) (by decide +kernel) rfl dX6_leastCost_10 ?_
  refine lv_aload_n S.1 S.2.1 dX6_leastCost_13 rfl (lv_at hl 2 rfl) ?_
  refine gx_get (C := RX5) (T := TX5) (N := 7) S hG (fu_at (by omega) h3) i_X6_leastCost_X5 rfl 6 (by decide) (by decide +kernel) rfl dX6_leastCost_14 ?_
  refine lv_iadd S.1 S.2.1 dX6_leastCost_17 ?_
  refine fx_topi (y := 2) (by decide) ?_
  refine lv_imul S.1 S.2.1 dX6_leastCost_18 ?_
  refine fx_topi (y := 4) (by decide) ?_
  refine gx_put (C := RX6) (T := TX6) (N := 2) (ty := .int) (v := .int 4) (fs' := [.ref (N0 + 64), .int 4]) S hG (fu_at (by omega) h0) i_X6_leastCost_X6 rfl 1 (by decide) tyX6 tyX6_ok nmX6 (by decide +kernel) rfl (by decide +kernel) rfl rfl (Nat.le_of_ble_eq_true rfl) rfl dX6_leastCost_19 (fun H locs hG => ?_)
  refine lv_aload_n S.1 S.2.1 dX6_leastCost_22 rfl (lv_at hl 0 rfl) ?_
  refine lv_aload_n S.1 S.2.1 dX6_leastCost_23 rfl (lv_at hl 1 rfl) ?_
  refine lv_aload_n S.1 S.2.1 dX6_leastCost_24 rfl (lv_at hl 2 rfl) ?_
  refine lv_iconst (v := 1) S.1 S.2.1 dX6_leastCost_25 (by decide) ?_
  refine fx_cSv (As := [.ref (N0 + 63), .ref (N0 + 150), .ref (N0 + 157), .int 1]) (rest := []) S hG (k1336_X6_tryFrom (by omega) (fu_at (by omega) (fu_at (by omega) h2)) fu_s (fu_at (by omega) (fu_at (by omega) h3)) (fu_at (by omega) fu_s) (fu_at (by omega) (fu_at (by omega) h4)) (fu_at (by omega) (fu_at (by omega) h5)) (fu_at (by omega) (fu_at (by omega) h6)) (fu_at (by omega) (fu_at (by omega) h7))) (cwS 4 S.2.2.2.2 gX6_leastCost_X6_tryFrom rfl rfl rfl (by decide +kernel) ⟨Nat.le_of_ble_eq_true rfl, Nat.le_of_ble_eq_true rfl⟩) rfl hl.1 rfl (Nat.le_of_ble_eq_true rfl) dX6_leastCost_26 ⟨Nat.le_of_ble_eq_true rfl, Nat.le_of_ble_eq_true rfl⟩ (fun _ H locs hp hG => ?_)
  refine lv_aload_n S.1 S.2.1 dX6_leastCost_29 rfl (lv_at hl 0 rfl) ?_
  refine gx_get (C := RX6) (T := TX6) (N := 2) S hG fu_s i_X6_leastCost_X6 rfl 1 (by decide) (by decide +kernel) rfl dX6_leastCost_30 ?_
  have hG : fG N0 D vwCl (fty cI cC cL cD cII cTr cTm cIt cB) (fen ql) s (fu (fu F (N0 + 64) (.inl (cI, 7, .inl (upd (fun _ => 0) 0 0)))) (N0 + 63) (.inr (8, [.ref (N0 + 64), .int 0]))) n H locs := hG.weak (fun a e h => by
    rcases fu_cases h with ⟨rfl, he⟩ | ⟨hne0, h⟩
    · cases he; exact fu_s
    · skip
      rcases fu_cases h with ⟨rfl, he⟩ | ⟨hne1, h⟩
      · cases he; exact (fu_at (by omega) (fu_at (by omega) fu_s))
      · exact (fu_at (by omega) (fu_at (by omega) (fu_at (by omega) h))))
  exact fx_iret S hr hlocks () hG (rfl) dX6_leastCost_33
theorem k1338_X7_distanceByMatchings {n : Nat} (hn : N0 + 231 ≤ n) (h0 : F N0 = some (.inr (9, [.ref (N0 + 1), .ref (N0 + 2), .ref (N0 + 11), .ref (N0 + 13), .ref (N0 + 63), .ref (N0 + 65), .ref (N0 + 85), .int (-1), .int (-1), .int 32]))) (h1 : F (N0 + 1) = some (.inl (cTr, 3, .inr (.inr (.inr (.inr (va_up (va_up (va_up (fun _ => none) 0 (some (N0 + 143))) 1 (some (N0 + 150))) 2 (some (N0 + 157))))))))) (h2 : F (N0 + 150) = some (.inr (7, [.ref (N0 + 151), .ref (N0 + 152), .ref (N0 + 153), .ref (N0 + 154), .ref (N0 + 155), .ref (N0 + 156), .int 1]))) (h3 : F (N0 + 157) = some (.inr (7, [.ref (N0 + 158), .ref (N0 + 159), .ref (N0 + 160), .ref (N0 + 161), .ref (N0 + 162), .ref (N0 + 163), .int 1]))) (h4 : F (N0 + 63) = some (.inr (8, [.ref (N0 + 64), .int 0]))) (h5 : F (N0 + 64) = some (.inl (cI, 7, .inl (fun _ => 0)))) (h6 : F (N0 + 151) = some (.inl (cC, 20, .inl (upd (fun _ => 0) 0 97)))) (h7 : F (N0 + 158) = some (.inl (cC, 20, .inl (upd (fun _ => 0) 0 97)))) (h8 : F (N0 + 153) = some (.inl (cI, 20, .inl (fun _ => 0)))) (h9 : F (N0 + 160) = some (.inl (cI, 20, .inl (fun _ => 0)))) : Met l yX7_distanceByMatchings wsX7_distanceByMatchings ({ frames := 4, cells := 0, slots := 0, locals := 95 }) (va_Pc [.ref N0, .int 1, .int 2] (fP N0 D vwCl (fty cI cC cL cD cII cTr cTm cIt cB) (fen ql) F n)) (fQi N0 D vwCl (fty cI cC cL cD cII cTr cTm cIt cB) (fun (r : Int32) (_ : Unit) => r = 0) (fun _ => (fu (fu F (N0 + 64) (.inl (cI, 7, .inl (upd (fun _ => 0) 0 0)))) (N0 + 63) (.inr (8, [.ref (N0 + 64), .int 0])))) (fun _ => n)) 0 0 (fA N0) := by
  refine fx_start 5 rfl rfl (Nat.le_of_ble_eq_true rfl) ?_ rfl
  intro p e s m below meth c ls S hr hlocks hin hG hl
  have hl : lv_has ls 5 [(0, .ref N0), (1, .int 1), (2, .int 2)] := hl
  have lt_h0 := hG.1.lt h0
  have lt_h1 := hG.1.lt h1
  have lt_h2 := hG.1.lt h2
  have lt_h3 := hG.1.lt h3
  have lt_h4 := hG.1.lt h4
  have lt_h5 := hG.1.lt h5
  have lt_h6 := hG.1.lt h6
  have lt_h7 := hG.1.lt h7
  have lt_h8 := hG.1.lt h8
  have lt_h9 := hG.1.lt h9
  refine lv_aload_n S.1 S.2.1 dX7_distanceByMatchings_0 rfl (lv_at hl 0 rfl) ?_
  refine lv_iload_n S.1 S.2.1 dX7_distanceByMatchings_1 rfl (lv_at hl 1 rfl) ?_
  refine fx_cVr (As := [.int 1]) (rest := []) S hG (k42_X7_treeAt (by omega) h0 h1) h0 rfl (cwV 1 S.2.2.2.2 gX7_distanceByMatchings_X7_treeAt rfl rfl rfl (by decide +kernel) ⟨Nat.le_of_ble_eq_true rfl, Nat.le_of_ble_eq_true rfl⟩) rfl hl.1 rfl (Nat.le_of_ble_eq_true rfl) dX7_distanceByMatchings_2 ⟨Nat.le_of_ble_eq_true rfl, Nat.le_of_ble_eq_true rfl⟩ (fun rv_1 _ H locs hp hG => ?_)
  subst rv_1
  refine lv_astore_n (lv' := [(3, .ref (N0 + 150)), (0, .ref N0), (1, .int 1), (2, .int 2)]) S.1 S.2.1 dX7_distanceByMatchings_5 rfl hl (by decide) rfl (fun ls hl => ?_)
  refine lv_aload_n S.1 S.2.1 dX7_distanceByMatchings_6 rfl (lv_at hl 1 rfl) ?_
  refine lv_iload_n S.1 S.2.1 dX7_distanceByMatchings_7 rfl (lv_at hl 3 rfl) ?_
  refine fx_cVr (As := [.int 2]) (rest := []) S hG (k48_X7_treeAt (by omega) h0 h1) h0 rfl (cwV 1 S.2.2.2.2 gX7_distanceByMatchings_X7_treeAt rfl rfl rfl (by decide +kernel) ⟨Nat.le_of_ble_eq_true rfl, Nat.le_of_ble_eq_true rfl⟩) rfl hl.1 rfl (Nat.le_of_ble_eq_true rfl) dX7_distanceByMatchings_8 ⟨Nat.le_of_ble_eq_true rfl, Nat.le_of_ble_eq_true rfl⟩ (fun rv_2 _ H locs hp hG => ?_)
  subst rv_2
  refine lv_astore (lv' := [(4, .ref (N0 + 157)), (3, .ref (N0 + 150)), (0, .ref N0), (1, .int 1), (2, .int 2)]) S.1 S.2.1 dX7_distanceByMatchings_11 hl (by decide) rfl (fun ls hl => ?_)
  refine lv_aload_n S.1 S.2.1 dX7_distanceByMatchings_13 rfl (lv_at hl 1 rfl) ?_
  refine gx_get (C := RX5) (T := TX5) (N := 7) S hG h2 i_X7_distanceByMatchings_X5 rfl 6 (by decide) (by decide +kernel) rfl dX7_distanceByMatchings_14 ?_
  refine lv_bipush (v := 7) S.1 S.2.1 dX7_distanceByMatchings_17 (by decide) ?_
  refine lv_icmp_gt (tgt := 32) S.1 S.2.1 dX7_distanceByMatchings_19 (by decide) (fun c => absurd c (by decide)) (fun _ => ?_)
  refine lv_aload S.1 S.2.1 dX7_distanceByMatchings_22 (lv_at hl 0 rfl) ?_
  refine gx_get (C := RX5) (T := TX5) (N := 7) S hG h3 i_X7_distanceByMatchings_X5 rfl 6 (by decide) (by decide +kernel) rfl dX7_distanceByMatchings_24 ?_
  refine lv_bipush (v := 7) S.1 S.2.1 dX7_distanceByMatchings_27 (by decide) ?_
  refine lv_icmp_le (tgt := 42) S.1 S.2.1 dX7_distanceByMatchings_29 (by decide) (fun _ => ?_) (fun c => absurd (by decide) c)
  refine lv_aload_n S.1 S.2.1 dX7_distanceByMatchings_42 rfl (lv_at hl 2 rfl) ?_
  refine gx_get (C := RX7) (T := TX7) (N := 10) S hG h0 i_X7_distanceByMatchings_X7 rfl 4 (by decide) (by decide +kernel) rfl dX7_distanceByMatchings_43 ?_
  refine lv_aload_n S.1 S.2.1 dX7_distanceByMatchings_46 rfl (lv_at hl 1 rfl) ?_
  refine lv_aload S.1 S.2.1 dX7_distanceByMatchings_47 (lv_at hl 0 rfl) ?_
  refine fx_cVi (As := [.ref (N0 + 150), .ref (N0 + 157)]) (rest := []) S hG (k1337_X6_leastCost (by omega) h4 h5 h2 h3 h6 h7 h8 h9) h4 rfl (cwV 2 S.2.2.2.2 gX7_distanceByMatchings_X6_leastCost rfl rfl rfl (by decide +kernel) ⟨Nat.le_of_ble_eq_true rfl, Nat.le_of_ble_eq_true rfl⟩) rfl hl.1 rfl (Nat.le_of_ble_eq_true rfl) dX7_distanceByMatchings_49 ⟨Nat.le_of_ble_eq_true rfl, Nat.le_of_ble_eq_true rfl⟩ (fun rv_3 _ H locs hp hG => ?_)
  subst rv_3
  exact fx_iret S hr hlocks () hG (rfl) dX7_distanceByMatchings_52
theorem k1339_L_distanceByMatchings {n : Nat} (hn : N0 + 231 ≤ n) (h0 : F N0 = some (.inr (9, [.ref (N0 + 1), .ref (N0 + 2), .ref (N0 + 11), .ref (N0 + 13), .ref (N0 + 63), .ref (N0 + 65), .ref (N0 + 85), .int (-1), .int (-1), .int 32]))) (h1 : F (N0 + 1) = some (.inl (cTr, 3, .inr (.inr (.inr (.inr (va_up (va_up (va_up (fun _ => none) 0 (some (N0 + 143))) 1 (some (N0 + 150))) 2 (some (N0 + 157))))))))) (h2 : F (N0 + 150) = some (.inr (7, [.ref (N0 + 151), .ref (N0 + 152), .ref (N0 + 153), .ref (N0 + 154), .ref (N0 + 155), .ref (N0 + 156), .int 1]))) (h3 : F (N0 + 157) = some (.inr (7, [.ref (N0 + 158), .ref (N0 + 159), .ref (N0 + 160), .ref (N0 + 161), .ref (N0 + 162), .ref (N0 + 163), .int 1]))) (h4 : F (N0 + 63) = some (.inr (8, [.ref (N0 + 64), .int 0]))) (h5 : F (N0 + 64) = some (.inl (cI, 7, .inl (fun _ => 0)))) (h6 : F (N0 + 151) = some (.inl (cC, 20, .inl (upd (fun _ => 0) 0 97)))) (h7 : F (N0 + 158) = some (.inl (cC, 20, .inl (upd (fun _ => 0) 0 97)))) (h8 : F (N0 + 153) = some (.inl (cI, 20, .inl (fun _ => 0)))) (h9 : F (N0 + 160) = some (.inl (cI, 20, .inl (fun _ => 0)))) (h10 : F (N0 + 229) = some (.inl (cL, 1, .inr (.inl (fun _ => 0))))) : Met l yL_distanceByMatchings wsL_distanceByMatchings ({ frames := 5, cells := 0, slots := 0, locals := 119 }) (va_Pc [.ref N0, .int 1, .int 2, .ref (N0 + 229)] (fP N0 D vwCl (fty cI cC cL cD cII cTr cTm cIt cB) (fen ql) F n)) (fQi N0 D vwCl (fty cI cC cL cD cII cTr cTm cIt cB) (fun (r : Int32) (_ : Unit) => r = 0) (fun _ => (fu (fu (fu F (N0 + 64) (.inl (cI, 7, .inl (upd (fun _ => 0) 0 0)))) (N0 + 63) (.inr (8, [.ref (N0 + 64), .int 0]))) (N0 + 229) (.inl (cL, 1, .inr (.inl (vp_updL (fun _ => 0) 0 0)))))) (fun _ => n)) 0 0 (fA N0) := by
  refine fx_startW (hh := [(0, 10, 13, 19), (0, 10, 17, 47)]) 5 rfl rfl (Nat.le_of_ble_eq_true rfl) ?_ rfl
  intro p e s m below meth c ls S htab hr hlocks hG hl
  have hl : lv_has ls 5 [(0, .ref N0), (1, .int 1), (2, .int 2), (3, .ref (N0 + 229))] := hl
  have lt_h0 := hG.1.lt h0
  have lt_h1 := hG.1.lt h1
  have lt_h2 := hG.1.lt h2
  have lt_h3 := hG.1.lt h3
  have lt_h4 := hG.1.lt h4
  have lt_h5 := hG.1.lt h5
  have lt_h6 := hG.1.lt h6
  have lt_h7 := hG.1.lt h7
  have lt_h8 := hG.1.lt h8
  have lt_h9 := hG.1.lt h9
  have lt_h10 := hG.1.lt h10
  refine lv_aload_n S.1 S.2.1 dL_distanceByMatchings_0 rfl (lv_at hl 3 rfl) ?_
  refine lv_iconst (v := 0) S.1 S.2.1 dL_distanceByMatchings_1 (by decide) ?_
  refine lv_aload_n S.1 S.2.1 dL_distanceByMatchings_2 rfl (lv_at hl 0 rfl) ?_
  refine lv_iload_n S.1 S.2.1 dL_distanceByMatchings_3 rfl (lv_at hl 1 rfl) ?_
  refine lv_iload_n S.1 S.2.1 dL_distanceByMatchings_4 rfl (lv_at hl 2 rfl) ?_
  refine fx_cVi (As := [.int 1, .int 2]) (rest := [.int 0, .ref (N0 + 229)]) S hG (k1338_X7_distanceByMatchings (by omega) h0 h1 h2 h3 h4 h5 h6 h7 h8 h9) h0 rfl (cwV 2 S.2.2.2.2 gL_distanceByMatchings_X7_distanceByMatchings rfl rfl rfl (by decide +kernel) ⟨Nat.le_of_ble_eq_true rfl, Nat.le_of_ble_eq_true rfl⟩) rfl hl.1 rfl (Nat.le_of_ble_eq_true rfl) dL_distanceByMatchings_5 ⟨Nat.le_of_ble_eq_true rfl, Nat.le_of_ble_eq_true rfl⟩ (fun rv_1 _ H locs hp hG => ?_)
  subst rv_1
  refine lv_i2l (v := 0) S.1 S.2.1 dL_distanceByMatchings_8 (by decide) ?_
  refine gx_last (f' := vp_updL (fun _ => 0) 0 0) S hG 2 (fu_at (by omega) (fu_at (by omega) h10)) rfl (fin_l (by decide)) dL_distanceByMatchings_9 rfl (fun H locs hG => ?_)
  refine lv_goto (tgt := 21) S.1 S.2.1 dL_distanceByMatchings_10 (by decide) ?_
  refine lv_iconst (v := 0) S.1 S.2.1 dL_distanceByMatchings_21 (by decide) ?_
  exact fx_iret S hr hlocks () hG (rfl) dL_distanceByMatchings_22
theorem k1340_X10_distanceByMatchings {n : Nat} (hn : N0 + 231 ≤ n) (h0 : F (N0 + 164) = some (.inr (12, [.ref (N0 + 165), .int 0, .ref (N0 + 181), .int 0, .int 0, .int 0, .int (-1), .ref (ql 24), .ref (N0 + 182), .ref (N0 + 187), .ref (N0 + 208), .ref (N0 + 209), .ref (N0 + 210), .ref (N0 + 211), .ref (N0 + 212), .int 0, .ref (N0 + 213), .ref (N0 + 218), .ref (N0 + 223), .ref (N0 + 224), .ref (N0 + 225), .ref (N0 + 226), .ref (N0 + 227), .int 0, .int 0, .ref (N0 + 228), .null, .int (-1), .int 0, .int 0, .int 0]))) (h1 : F (N0 + 165) = some (.inl (cTm, 3, .inr (.inr (.inr (.inr (va_up (va_up (va_up (fun _ => none) 0 (some (N0 + 166))) 1 (some (N0 + 171))) 2 (some (N0 + 176))))))))) (h2 : F (N0 + 171) = some (.inr (11, [.ref (N0 + 172), .ref (N0 + 173), .ref (N0 + 174), .ref (N0 + 175), .int 1]))) (h3 : F (N0 + 176) = some (.inr (11, [.ref (N0 + 177), .ref (N0 + 178), .ref (N0 + 179), .ref (N0 + 180), .int 1]))) (h4 : F (N0 + 172) = some (.inl (cI, 20, .inl (upd (fun _ => 0) 0 97)))) (h5 : F (N0 + 177) = some (.inl (cI, 20, .inl (upd (fun _ => 0) 0 97)))) (h6 : F (N0 + 174) = some (.inl (cI, 20, .inl (upd (fun _ => 0) 0 0)))) (h7 : F (N0 + 179) = some (.inl (cI, 20, .inl (upd (fun _ => 0) 0 0)))) (h8 : F (N0 + 187) = some (.inl (cII, 20, .inr (.inr (.inr (.inr (fun j => if j < 20 then some ((N0 + 188) + j) else none))))))) (h9 : F (N0 + 188) = some (.inl (cI, 20, .inl (fun _ => 0)))) : Met l yX10_distanceByMatchings wsX10_distanceByMatchings ({ frames := 3, cells := 4, slots := 2, locals := 72 }) (va_Pc [.ref (N0 + 164), .int 1, .int 2] (fP N0 D vwCl (fty cI cC cL cD cII cTr cTm cIt cB) (fen ql) F n)) (fQi N0 D vwCl (fty cI cC cL cD cII cTr cTm cIt cB) (fun (r : Int32) (_ : Unit) => r = 0) (fun _ => (fblk (fu (fu F (N0 + 164) (.inr (12, [.ref (N0 + 165), .int 0, .ref (N0 + 181), .int 0, .int 0, .int 0, .int (-1), .ref (ql 24), .ref (N0 + 182), .ref (N0 + 187), .ref (N0 + 208), .ref (N0 + 209), .ref (N0 + 210), .ref (N0 + 211), .ref (N0 + 212), .int 0, .ref (N0 + 213), .ref (N0 + 218), .ref (N0 + 223), .ref (N0 + 224), .ref (N0 + 225), .ref (N0 + 226), .ref (N0 + 227), .int 0, .int 0, .ref (N0 + 228), .null, .int (-1), .int 0, .int 0, .int 0]))) (N0 + 188) (.inl (cI, 20, .inl (upd (fun _ => 0) 0 0)))) n [.inl (cI, 0, .inl (fun _ => 0)), .inl (cI, 0, .inl (fun _ => 0)), .inl (cII, 1, .inr (.inr (.inr (.inr (fun j => if j < 1 then some ((n + 3) + j) else none))))), .inl (cI, 1, .inl (fun _ => 0))])) (fun _ => (n + 4))) 4 2 (fA N0) := by
  refine fx_start 3 rfl rfl (Nat.le_of_ble_eq_true rfl) ?_ rfl
  intro p e s m below meth c ls S hr hlocks hin hG hl
  have hl : lv_has ls 3 [(0, .ref (N0 + 164)), (1, .int 1), (2, .int 2)] := hl
  have lt_h0 := hG.1.lt h0
  have lt_h1 := hG.1.lt h1
  have lt_h2 := hG.1.lt h2
  have lt_h3 := hG.1.lt h3
  have lt_h4 := hG.1.lt h4
  have lt_h5 := hG.1.lt h5
  have lt_h6 := hG.1.lt h6
  have lt_h7 := hG.1.lt h7
  have lt_h8 := hG.1.lt h8
  have lt_h9 := hG.1.lt h9
  refine lv_aload_n S.1 S.2.1 dX10_distanceByMatchings_0 rfl (lv_at hl 0 rfl) ?_
  refine lv_iload_n S.1 S.2.1 dX10_distanceByMatchings_1 rfl (lv_at hl 1 rfl) ?_
  refine lv_iload_n S.1 S.2.1 dX10_distanceByMatchings_2 rfl (lv_at hl 2 rfl) ?_
  refine fx_cVi (As := [.int 1, .int 2]) (rest := []) S hG (k504_X10_areNone (by omega) h0) h0 rfl (cwV 2 S.2.2.2.2 gX10_distanceByMatchings_X10_areNone rfl rfl rfl (by decide +kernel) ⟨Nat.le_of_ble_eq_true rfl, Nat.le_of_ble_eq_true rfl⟩) rfl hl.1 rfl (Nat.le_of_ble_eq_true rfl) dX10_distanceByMatchings_3 ⟨Nat.le_of_ble_eq_true rfl, Nat.le_of_ble_eq_true rfl⟩ (fun rv_1 _ H locs hp hG => ?_)
  subst rv_1
  refine lv_if_eq (tgt := 11) S.1 S.2.1 dX10_distanceByMatchings_6 (by decide) (fun _ => ?_) (fun c => absurd (by decide) c)
  refine lv_aload_n S.1 S.2.1 dX10_distanceByMatchings_11 rfl (lv_at hl 0 rfl) ?_
  refine gx_get (C := RX10) (T := TX10) (N := 31) S hG fu_s i_X10_distanceByMatchings_X10 rfl 0 (by decide) (by decide +kernel) rfl dX10_distanceByMatchings_12 ?_
  refine lv_iload_n S.1 S.2.1 dX10_distanceByMatchings_15 rfl (lv_at hl 1 rfl) ?_
  refine gx_aldq (x := (N0 + 171)) S hG 6 rfl (fu_at (by omega) h1) rfl (fin_l (by decide)) (rfl) dX10_distanceByMatchings_16 ?_
  refine gx_getN (C := RX9) (T := TX9) (N := 5) S hG (fu_at (by omega) h2) i_X10_distanceByMatchings_X9 rfl 4 (by decide) (List.mem_of_getElem? (i := 4) rfl) rfl dX10_distanceByMatchings_17 ?_
  refine lv_bipush (v := 7) S.1 S.2.1 dX10_distanceByMatchings_20 (by decide) ?_
  refine lv_icmp_gt (tgt := 39) S.1 S.2.1 dX10_distanceByMatchings_22 (by decide) (fun c => absurd c (by decide)) (fun _ => ?_)
  refine lv_aload_n S.1 S.2.1 dX10_distanceByMatchings_25 rfl (lv_at hl 0 rfl) ?_
  refine gx_get (C := RX10) (T := TX10) (N := 31) S hG fu_s i_X10_distanceByMatchings_X10 rfl 0 (by decide) (by decide +kernel) rfl dX10_distanceByMatchings_26 ?_
  refine lv_iload_n S.1 S.2.1 dX10_distanceByMatchings_29 rfl (lv_at hl 2 rfl) ?_
  refine gx_aldq (x := (N0 + 176)) S hG 6 rfl (fu_at (by omega) h1) rfl (fin_l (by decide)) (rfl) dX10_distanceByMatchings_30 ?_
  refine gx_getN (C := RX9) (T := TX9) (N := 5) S hG (fu_at (by omega) h3) i_X10_distanceByMatchings_X9 rfl 4 (by decide) (List.mem_of_getElem? (i := 4) rfl) rfl dX10_distanceByMatchings_31 ?_
  refine lv_bipush (v := 7) S.1 S.2.1 dX10_distanceByMatchings_34 (by decide) ?_
  refine lv_icmp_le (tgt := 47) S.1 S.2.1 dX10_distanceByMatchings_36 (by decide) (fun _ => ?_) (fun c => absurd (by decide) c)
  refine lv_aload_n S.1 S.2.1 dX10_distanceByMatchings_47 rfl (lv_at hl 0 rfl) ?_
  refine lv_aload_n S.1 S.2.1 dX10_distanceByMatchings_48 rfl (lv_at hl 0 rfl) ?_
  refine gx_get (C := RX10) (T := TX10) (N := 31) S hG fu_s i_X10_distanceByMatchings_X10 rfl 0 (by decide) (by decide +kernel) rfl dX10_distanceByMatchings_49 ?_
  refine lv_iload_n S.1 S.2.1 dX10_distanceByMatchings_52 rfl (lv_at hl 1 rfl) ?_
  refine gx_aldq (x := (N0 + 171)) S hG 6 rfl (fu_at (by omega) h1) rfl (fin_l (by decide)) (rfl) dX10_distanceByMatchings_53 ?_
  refine lv_aload_n S.1 S.2.1 dX10_distanceByMatchings_54 rfl (lv_at hl 0 rfl) ?_
  refine gx_get (C := RX10) (T := TX10) (N := 31) S hG fu_s i_X10_distanceByMatchings_X10 rfl 0 (by decide) (by decide +kernel) rfl dX10_distanceByMatchings_55 ?_
  refine lv_iload_n S.1 S.2.1 dX10_distanceByMatchings_58 rfl (lv_at hl 2 rfl) ?_
  refine gx_aldq (x := (N0 + 176)) S hG 6 rfl (fu_at (by omega) h1) rfl (fin_l (by decide)) (rfl) dX10_distanceByMatchings_59 ?_
  refine fx_cVi (As := [.ref (N0 + 171), .ref (N0 + 176)]) (rest := []) S hG (k1250_X10_fills (by omega) (fu_at (by omega) h2) (fu_at (by omega) h3) (fu_at (by omega) h4) (fu_at (by omega) h5) (fu_at (by omega) h6) (fu_at (by omega) h7) fu_s (fu_at (by omega) h8) (fu_at (by omega) h9)) fu_s rfl (cwV 2 S.2.2.2.2 gX10_distanceByMatchings_X10_fills rfl rfl rfl (by decide +kernel) ⟨Nat.le_of_ble_eq_true rfl, Nat.le_of_ble_eq_true rfl⟩) rfl hl.1 rfl (Nat.le_of_ble_eq_true rfl) dX10_distanceByMatchings_60 ⟨Nat.le_of_ble_eq_true rfl, Nat.le_of_ble_eq_true rfl⟩ (fun rv_2 _ H locs hp hG => ?_)
  subst rv_2
  refine W.widen (k := 4) (n := 2) (by decide) (by decide) ?_
  have hG : fG N0 D vwCl (fty cI cC cL cD cII cTr cTm cIt cB) (fen ql) s (fblk (fu (fu F (N0 + 164) (.inr (12, [.ref (N0 + 165), .int 0, .ref (N0 + 181), .int 0, .int 0, .int 0, .int (-1), .ref (ql 24), .ref (N0 + 182), .ref (N0 + 187), .ref (N0 + 208), .ref (N0 + 209), .ref (N0 + 210), .ref (N0 + 211), .ref (N0 + 212), .int 0, .ref (N0 + 213), .ref (N0 + 218), .ref (N0 + 223), .ref (N0 + 224), .ref (N0 + 225), .ref (N0 + 226), .ref (N0 + 227), .int 0, .int 0, .ref (N0 + 228), .null, .int (-1), .int 0, .int 0, .int 0]))) (N0 + 188) (.inl (cI, 20, .inl (upd (fun _ => 0) 0 0)))) n [.inl (cI, 0, .inl (fun _ => 0)), .inl (cI, 0, .inl (fun _ => 0)), .inl (cII, 1, .inr (.inr (.inr (.inr (fun j => if j < 1 then some ((n + 3) + j) else none))))), .inl (cI, 1, .inl (fun _ => 0))]) (n + 4) H locs := hG.weak (fun a e h => by
    rcases fblk_cases 4 rfl h with ⟨k, rfl, hlt, hk⟩ | ⟨hout, h⟩
    · rcases (show k = 0 ∨ k = 1 ∨ k = 2 ∨ k = 3 by omega) with rfl | rfl | rfl | rfl
      · cases (show some (.inl (cI, 0, .inl (fun _ => 0))) = some e from hk); exact (fblk_at 0 (by omega) rfl)
      · cases (show some (.inl (cI, 0, .inl (fun _ => 0))) = some e from hk); exact (fblk_at 1 (by omega) rfl)
      · cases (show some (.inl (cII, 1, .inr (.inr (.inr (.inr (fun j => if j < 1 then some ((n + 3) + j) else none)))))) = some e from hk); exact (fblk_at 2 (by omega) rfl)
      · cases (show some (.inl (cI, 1, .inl (fun _ => 0))) = some e from hk); exact (fblk_at 3 (by omega) rfl)
    · rcases fu_cases h with ⟨rfl, he⟩ | ⟨hne0, h⟩
      · cases he; exact (fblk_sk 4 rfl (by omega) fu_s)
      · skip
        rcases fu_cases h with ⟨rfl, he⟩ | ⟨hne1, h⟩
        · cases he; exact (fblk_sk 4 rfl (by omega) (fu_at (by omega) fu_s))
        · exact (fblk_sk 4 rfl (by omega) (fu_at (by omega) (fu_at (by omega) h))))
  exact fx_iret S hr hlocks () hG (rfl) dX10_distanceByMatchings_63
theorem k1341_X7_distanceByMatchings {n : Nat} {a2 : Int32} (g_a2_ge_3 : 3 ≤ a2) (hst : l.stackTraces = false) (hn : N0 + 231 ≤ n) (h0 : F N0 = some (.inr (9, [.ref (N0 + 1), .ref (N0 + 2), .ref (N0 + 11), .ref (N0 + 13), .ref (N0 + 63), .ref (N0 + 65), .ref (N0 + 85), .int (-1), .int (-1), .int 32]))) (h1 : F (N0 + 1) = some (.inl (cTr, 3, .inr (.inr (.inr (.inr (va_up (va_up (va_up (fun _ => none) 0 (some (N0 + 143))) 1 (some (N0 + 150))) 2 (some (N0 + 157))))))))) : vx_Met l yX7_distanceByMatchings wsX7_distanceByMatchings ({ frames := 7, cells := 1, slots := 6, locals := 103 }) (va_Pc [.ref N0, .int 1, .int a2] (fP N0 D vwCl (fty cI cC cL cD cII cTr cTm cIt cB) (fen ql) F n)) (fNo N0 D vwCl (fty cI cC cL cD cII cTr cTm cIt cB) F n) (fXC N0 D vwCl (fty cI cC cL cD cII cTr cTm cIt cB) "java/lang/IndexOutOfBoundsException" F n) 1 6 (fA N0) := by
  refine fx_startX 5 rfl rfl (Nat.le_of_ble_eq_true rfl) ?_ rfl
  intro p e s m below meth c ls S htab hlocks hG hl
  have hl : lv_has ls 5 [(0, .ref N0), (1, .int 1), (2, .int a2)] := hl
  have lt_h0 := hG.1.lt h0
  have lt_h1 := hG.1.lt h1
  refine lv_aload_n S.1 S.2.1 dX7_distanceByMatchings_0 rfl (lv_at hl 0 rfl) ?_
  refine lv_iload_n S.1 S.2.1 dX7_distanceByMatchings_1 rfl (lv_at hl 1 rfl) ?_
  refine fx_cVr (As := [.int 1]) (rest := []) S hG (k42_X7_treeAt (by omega) h0 h1) h0 rfl (cwV 1 S.2.2.2.2 gX7_distanceByMatchings_X7_treeAt rfl rfl rfl (by decide +kernel) ⟨Nat.le_of_ble_eq_true rfl, Nat.le_of_ble_eq_true rfl⟩) rfl hl.1 rfl (Nat.le_of_ble_eq_true rfl) dX7_distanceByMatchings_2 ⟨Nat.le_of_ble_eq_true rfl, Nat.le_of_ble_eq_true rfl⟩ (fun rv_1 _ H locs hp hG => ?_)
  subst rv_1
  refine lv_astore_n (lv' := [(3, .ref (N0 + 150)), (0, .ref N0), (1, .int 1), (2, .int a2)]) S.1 S.2.1 dX7_distanceByMatchings_5 rfl hl (by decide) rfl (fun ls hl => ?_)
  refine lv_aload_n S.1 S.2.1 dX7_distanceByMatchings_6 rfl (lv_at hl 1 rfl) ?_
  refine lv_iload_n S.1 S.2.1 dX7_distanceByMatchings_7 rfl (lv_at hl 3 rfl) ?_
  refine fx_xV (As := [.int a2]) (rest := []) S hG (k478_X7_treeAt g_a2_ge_3 hst (by omega)) h0 rfl (cwV 1 S.2.2.2.2 gX7_distanceByMatchings_X7_treeAt rfl rfl rfl (by decide +kernel) ⟨Nat.le_of_ble_eq_true rfl, Nat.le_of_ble_eq_true rfl⟩) rfl hl.1 rfl (Nat.le_of_ble_eq_true rfl) dX7_distanceByMatchings_8 ⟨Nat.le_of_ble_eq_true rfl, Nat.le_of_ble_eq_true rfl⟩ (fun ceq_2 q_2 H locs n_3 hn_3 hG h1q_2 h2q_2 h3q_2 => ?_)
  exact fx_out htab hlocks hG (by omega) h1q_2 h2q_2 h3q_2 (by decide) (by decide)
theorem k1342_L_distanceByMatchings {n : Nat} {a2 : Int32} (g_a2_ge_3 : 3 ≤ a2) (hst : l.stackTraces = false) (hn : N0 + 231 ≤ n) (h0 : F N0 = some (.inr (9, [.ref (N0 + 1), .ref (N0 + 2), .ref (N0 + 11), .ref (N0 + 13), .ref (N0 + 63), .ref (N0 + 65), .ref (N0 + 85), .int (-1), .int (-1), .int 32]))) (h1 : F (N0 + 1) = some (.inl (cTr, 3, .inr (.inr (.inr (.inr (va_up (va_up (va_up (fun _ => none) 0 (some (N0 + 143))) 1 (some (N0 + 150))) 2 (some (N0 + 157))))))))) : Met l yL_distanceByMatchings wsL_distanceByMatchings ({ frames := 8, cells := 1, slots := 6, locals := 127 }) (va_Pc [.ref N0, .int 1, .int a2, .ref (N0 + 229)] (fP N0 D vwCl (fty cI cC cL cD cII cTr cTm cIt cB) (fen ql) F n)) (fQi N0 D vwCl (fty cI cC cL cD cII cTr cTm cIt cB) (fun (r : Int32) (u : Nat) => r = 1 ∧ n ≤ u) (fun _ => F) (fun u => u)) 1 6 (fA N0) := by
  refine fx_startW (hh := [(0, 10, 13, 19), (0, 10, 17, 47)]) 5 rfl rfl (Nat.le_of_ble_eq_true rfl) ?_ rfl
  intro p e s m below meth c ls S htab hr hlocks hG hl
  have hl : lv_has ls 5 [(0, .ref N0), (1, .int 1), (2, .int a2), (3, .ref (N0 + 229))] := hl
  have lt_h0 := hG.1.lt h0
  have lt_h1 := hG.1.lt h1
  refine lv_aload_n S.1 S.2.1 dL_distanceByMatchings_0 rfl (lv_at hl 3 rfl) ?_
  refine lv_iconst (v := 0) S.1 S.2.1 dL_distanceByMatchings_1 (by decide) ?_
  refine lv_aload_n S.1 S.2.1 dL_distanceByMatchings_2 rfl (lv_at hl 0 rfl) ?_
  refine lv_iload_n S.1 S.2.1 dL_distanceByMatchings_3 rfl (lv_at hl 1 rfl) ?_
  refine lv_iload_n S.1 S.2.1 dL_distanceByMatchings_4 rfl (lv_at hl 2 rfl) ?_
  refine fx_xV (As := [.int 1, .int a2]) (rest := [.int 0, .ref (N0 + 229)]) S hG (k1341_X7_distanceByMatchings g_a2_ge_3 hst (by omega) h0 h1) h0 rfl (cwV 2 S.2.2.2.2 gL_distanceByMatchings_X7_distanceByMatchings rfl rfl rfl (by decide +kernel) ⟨Nat.le_of_ble_eq_true rfl, Nat.le_of_ble_eq_true rfl⟩) rfl hl.1 rfl (Nat.le_of_ble_eq_true rfl) dL_distanceByMatchings_5 ⟨Nat.le_of_ble_eq_true rfl, Nat.le_of_ble_eq_true rfl⟩ (fun ceq_1 q_1 H locs n_2 hn_2 hG h1q_1 h2q_1 h3q_1 => ?_)
  refine fx_catch (hh := [(0, 10, 13, 19), (0, 10, 17, 47)]) S htab hG h1q_1 h2q_1 h3q_1 [] ⟨0, 10, 13, 19⟩ [⟨0, 10, 17, 47⟩] rfl [] (fun z hz => absurd hz List.not_mem_nil) (by decide) (by decide) (by decide +kernel) (List.mem_of_getElem? (i := 2) rfl) ?_
  refine lv_astore (lv' := [(4, .ref q_1), (0, .ref N0), (1, .int 1), (2, .int a2), (3, .ref (N0 + 229))]) S.1 S.2.1 dL_distanceByMatchings_13 hl (by decide) rfl (fun ls hl => ?_)
  refine lv_iconst (v := 1) S.1 S.2.1 dL_distanceByMatchings_15 (by decide) ?_
  exact fx_iret S hr hlocks n_2 hG (⟨rfl, hn_2⟩) dL_distanceByMatchings_16
theorem k1343_X10_distanceByMatchings {n : Nat} {a2 : Int32} (g_a2_ge_3 : 3 ≤ a2) (hn : N0 + 231 ≤ n) (h0 : F (N0 + 164) = some (.inr (12, [.ref (N0 + 165), .int 0, .ref (N0 + 181), .int 0, .int 0, .int 0, .int (-1), .ref (ql 24), .ref (N0 + 182), .ref (N0 + 187), .ref (N0 + 208), .ref (N0 + 209), .ref (N0 + 210), .ref (N0 + 211), .ref (N0 + 212), .int 0, .ref (N0 + 213), .ref (N0 + 218), .ref (N0 + 223), .ref (N0 + 224), .ref (N0 + 225), .ref (N0 + 226), .ref (N0 + 227), .int 0, .int 0, .ref (N0 + 228), .null, .int (-1), .int 0, .int 0, .int 0]))) : Met l yX10_distanceByMatchings wsX10_distanceByMatchings ({ frames := 3, cells := 0, slots := 0, locals := 64 }) (va_Pc [.ref (N0 + 164), .int 1, .int a2] (fP N0 D vwCl (fty cI cC cL cD cII cTr cTm cIt cB) (fen ql) F n)) (fQi N0 D vwCl (fty cI cC cL cD cII cTr cTm cIt cB) (fun (r : Int32) (_ : Unit) => r = 0) (fun _ => (fu F (N0 + 164) (.inr (12, [.ref (N0 + 165), .int 1, .ref (N0 + 181), .int 0, .int 0, .int 0, .int (-1), .ref (ql 24), .ref (N0 + 182), .ref (N0 + 187), .ref (N0 + 208), .ref (N0 + 209), .ref (N0 + 210), .ref (N0 + 211), .ref (N0 + 212), .int 0, .ref (N0 + 213), .ref (N0 + 218), .ref (N0 + 223), .ref (N0 + 224), .ref (N0 + 225), .ref (N0 + 226), .ref (N0 + 227), .int 0, .int 0, .ref (N0 + 228), .null, .int (-1), .int 0, .int 0, .int 0])))) (fun _ => n)) 0 0 (fA N0) := by
  refine fx_start 3 rfl rfl (Nat.le_of_ble_eq_true rfl) ?_ rfl
  intro p e s m below meth c ls S hr hlocks hin hG hl
  have hl : lv_has ls 3 [(0, .ref (N0 + 164)), (1, .int 1), (2, .int a2)] := hl
  have lt_h0 := hG.1.lt h0
  refine lv_aload_n S.1 S.2.1 dX10_distanceByMatchings_0 rfl (lv_at hl 0 rfl) ?_
  refine lv_iload_n S.1 S.2.1 dX10_distanceByMatchings_1 rfl (lv_at hl 1 rfl) ?_
  refine lv_iload_n S.1 S.2.1 dX10_distanceByMatchings_2 rfl (lv_at hl 2 rfl) ?_
  refine fx_cVi (As := [.int 1, .int a2]) (rest := []) S hG (k509_X10_areNone g_a2_ge_3 (by omega) h0) h0 rfl (cwV 2 S.2.2.2.2 gX10_distanceByMatchings_X10_areNone rfl rfl rfl (by decide +kernel) ⟨Nat.le_of_ble_eq_true rfl, Nat.le_of_ble_eq_true rfl⟩) rfl hl.1 rfl (Nat.le_of_ble_eq_true rfl) dX10_distanceByMatchings_3 ⟨Nat.le_of_ble_eq_true rfl, Nat.le_of_ble_eq_true rfl⟩ (fun rv_1 _ H locs hp hG => ?_)
  subst rv_1
  refine lv_if_eq (tgt := 11) S.1 S.2.1 dX10_distanceByMatchings_6 (by decide) (fun c => absurd c (by decide)) (fun _ => ?_)
  refine lv_iconst (v := 0) S.1 S.2.1 dX10_distanceByMatchings_9 (by decide) ?_
  exact fx_iret S hr hlocks () hG (rfl) dX10_distanceByMatchings_10
theorem k1344_X7_distanceByMatchings {n : Nat} {a2 : Int32} (g_a2_le_m1 : a2 ≤ (-1)) (hst : l.stackTraces = false) (hn : N0 + 231 ≤ n) (h0 : F N0 = some (.inr (9, [.ref (N0 + 1), .ref (N0 + 2), .ref (N0 + 11), .ref (N0 + 13), .ref (N0 + 63), .ref (N0 + 65), .ref (N0 + 85), .int (-1), .int (-1), .int 32]))) (h1 : F (N0 + 1) = some (.inl (cTr, 3, .inr (.inr (.inr (.inr (va_up (va_up (va_up (fun _ => none) 0 (some (N0 + 143))) 1 (some (N0 + 150))) 2 (some (N0 + 157))))))))) : vx_Met l yX7_distanceByMatchings wsX7_distanceByMatchings ({ frames := 7, cells := 1, slots := 6, locals := 103 }) (va_Pc [.ref N0, .int 2, .int a2] (fP N0 D vwCl (fty cI cC cL cD cII cTr cTm cIt cB) (fen ql) F n)) (fNo N0 D vwCl (fty cI cC cL cD cII cTr cTm cIt cB) F n) (fXC N0 D vwCl (fty cI cC cL cD cII cTr cTm cIt cB) "java/lang/IndexOutOfBoundsException" F n) 1 6 (fA N0) := by
  refine fx_startX 5 rfl rfl (Nat.le_of_ble_eq_true rfl) ?_ rfl
  intro p e s m below meth c ls S htab hlocks hG hl
  have hl : lv_has ls 5 [(0, .ref N0), (1, .int 2), (2, .int a2)] := hl
  have lt_h0 := hG.1.lt h0
  have lt_h1 := hG.1.lt h1
  refine lv_aload_n S.1 S.2.1 dX7_distanceByMatchings_0 rfl (lv_at hl 0 rfl) ?_
  refine lv_iload_n S.1 S.2.1 dX7_distanceByMatchings_1 rfl (lv_at hl 1 rfl) ?_
  refine fx_cVr (As := [.int 2]) (rest := []) S hG (k48_X7_treeAt (by omega) h0 h1) h0 rfl (cwV 1 S.2.2.2.2 gX7_distanceByMatchings_X7_treeAt rfl rfl rfl (by decide +kernel) ⟨Nat.le_of_ble_eq_true rfl, Nat.le_of_ble_eq_true rfl⟩) rfl hl.1 rfl (Nat.le_of_ble_eq_true rfl) dX7_distanceByMatchings_2 ⟨Nat.le_of_ble_eq_true rfl, Nat.le_of_ble_eq_true rfl⟩ (fun rv_1 _ H locs hp hG => ?_)
  subst rv_1
  refine lv_astore_n (lv' := [(3, .ref (N0 + 157)), (0, .ref N0), (1, .int 2), (2, .int a2)]) S.1 S.2.1 dX7_distanceByMatchings_5 rfl hl (by decide) rfl (fun ls hl => ?_)
  refine lv_aload_n S.1 S.2.1 dX7_distanceByMatchings_6 rfl (lv_at hl 1 rfl) ?_
  refine lv_iload_n S.1 S.2.1 dX7_distanceByMatchings_7 rfl (lv_at hl 3 rfl) ?_
  refine fx_xV (As := [.int a2]) (rest := []) S hG (k450_X7_treeAt g_a2_le_m1 hst (by omega)) h0 rfl (cwV 1 S.2.2.2.2 gX7_distanceByMatchings_X7_treeAt rfl rfl rfl (by decide +kernel) ⟨Nat.le_of_ble_eq_true rfl, Nat.le_of_ble_eq_true rfl⟩) rfl hl.1 rfl (Nat.le_of_ble_eq_true rfl) dX7_distanceByMatchings_8 ⟨Nat.le_of_ble_eq_true rfl, Nat.le_of_ble_eq_true rfl⟩ (fun ceq_2 q_2 H locs n_3 hn_3 hG h1q_2 h2q_2 h3q_2 => ?_)
  exact fx_out htab hlocks hG (by omega) h1q_2 h2q_2 h3q_2 (by decide) (by decide)
theorem k1345_L_distanceByMatchings {n : Nat} {a2 : Int32} (g_a2_le_m1 : a2 ≤ (-1)) (hst : l.stackTraces = false) (hn : N0 + 231 ≤ n) (h0 : F N0 = some (.inr (9, [.ref (N0 + 1), .ref (N0 + 2), .ref (N0 + 11), .ref (N0 + 13), .ref (N0 + 63), .ref (N0 + 65), .ref (N0 + 85), .int (-1), .int (-1), .int 32]))) (h1 : F (N0 + 1) = some (.inl (cTr, 3, .inr (.inr (.inr (.inr (va_up (va_up (va_up (fun _ => none) 0 (some (N0 + 143))) 1 (some (N0 + 150))) 2 (some (N0 + 157))))))))) : Met l yL_distanceByMatchings wsL_distanceByMatchings ({ frames := 8, cells := 1, slots := 6, locals := 127 }) (va_Pc [.ref N0, .int 2, .int a2, .ref (N0 + 229)] (fP N0 D vwCl (fty cI cC cL cD cII cTr cTm cIt cB) (fen ql) F n)) (fQi N0 D vwCl (fty cI cC cL cD cII cTr cTm cIt cB) (fun (r : Int32) (u : Nat) => r = 1 ∧ n ≤ u) (fun _ => F) (fun u => u)) 1 6 (fA N0) := by
  refine fx_startW (hh := [(0, 10, 13, 19), (0, 10, 17, 47)]) 5 rfl rfl (Nat.le_of_ble_eq_true rfl) ?_ rfl
  intro p e s m below meth c ls S htab hr hlocks hG hl
  have hl : lv_has ls 5 [(0, .ref N0), (1, .int 2), (2, .int a2), (3, .ref (N0 + 229))] := hl
  have lt_h0 := hG.1.lt h0
  have lt_h1 := hG.1.lt h1
  refine lv_aload_n S.1 S.2.1 dL_distanceByMatchings_0 rfl (lv_at hl 3 rfl) ?_
  refine lv_iconst (v := 0) S.1 S.2.1 dL_distanceByMatchings_1 (by decide) ?_
  refine lv_aload_n S.1 S.2.1 dL_distanceByMatchings_2 rfl (lv_at hl 0 rfl) ?_
  refine lv_iload_n S.1 S.2.1 dL_distanceByMatchings_3 rfl (lv_at hl 1 rfl) ?_
  refine lv_iload_n S.1 S.2.1 dL_distanceByMatchings_4 rfl (lv_at hl 2 rfl) ?_
  refine fx_xV (As := [.int 2, .int a2]) (rest := [.int 0, .ref (N0 + 229)]) S hG (k1344_X7_distanceByMatchings g_a2_le_m1 hst (by omega) h0 h1) h0 rfl (cwV 2 S.2.2.2.2 gL_distanceByMatchings_X7_distanceByMatchings rfl rfl rfl (by decide +kernel) ⟨Nat.le_of_ble_eq_true rfl, Nat.le_of_ble_eq_true rfl⟩) rfl hl.1 rfl (Nat.le_of_ble_eq_true rfl) dL_distanceByMatchings_5 ⟨Nat.le_of_ble_eq_true rfl, Nat.le_of_ble_eq_true rfl⟩ (fun ceq_1 q_1 H locs n_2 hn_2 hG h1q_1 h2q_1 h3q_1 => ?_)
  refine fx_catch (hh := [(0, 10, 13, 19), (0, 10, 17, 47)]) S htab hG h1q_1 h2q_1 h3q_1 [] ⟨0, 10, 13, 19⟩ [⟨0, 10, 17, 47⟩] rfl [] (fun z hz => absurd hz List.not_mem_nil) (by decide) (by decide) (by decide +kernel) (List.mem_of_getElem? (i := 2) rfl) ?_
  refine lv_astore (lv' := [(4, .ref q_1), (0, .ref N0), (1, .int 2), (2, .int a2), (3, .ref (N0 + 229))]) S.1 S.2.1 dL_distanceByMatchings_13 hl (by decide) rfl (fun ls hl => ?_)
  refine lv_iconst (v := 1) S.1 S.2.1 dL_distanceByMatchings_15 (by decide) ?_
  exact fx_iret S hr hlocks n_2 hG (⟨rfl, hn_2⟩) dL_distanceByMatchings_16
theorem k1346_X10_distanceByMatchings {n : Nat} {a2 : Int32} (g_a2_le_m1 : a2 ≤ (-1)) (hn : N0 + 231 ≤ n) (h0 : F (N0 + 164) = some (.inr (12, [.ref (N0 + 165), .int 0, .ref (N0 + 181), .int 0, .int 0, .int 0, .int (-1), .ref (ql 24), .ref (N0 + 182), .ref (N0 + 187), .ref (N0 + 208), .ref (N0 + 209), .ref (N0 + 210), .ref (N0 + 211), .ref (N0 + 212), .int 0, .ref (N0 + 213), .ref (N0 + 218), .ref (N0 + 223), .ref (N0 + 224), .ref (N0 + 225), .ref (N0 + 226), .ref (N0 + 227), .int 0, .int 0, .ref (N0 + 228), .null, .int (-1), .int 0, .int 0, .int 0]))) : Met l yX10_distanceByMatchings wsX10_distanceByMatchings ({ frames := 3, cells := 0, slots := 0, locals := 64 }) (va_Pc [.ref (N0 + 164), .int 2, .int a2] (fP N0 D vwCl (fty cI cC cL cD cII cTr cTm cIt cB) (fen ql) F n)) (fQi N0 D vwCl (fty cI cC cL cD cII cTr cTm cIt cB) (fun (r : Int32) (_ : Unit) => r = 0) (fun _ => (fu F (N0 + 164) (.inr (12, [.ref (N0 + 165), .int 1, .ref (N0 + 181), .int 0, .int 0, .int 0, .int (-1), .ref (ql 24), .ref (N0 + 182), .ref (N0 + 187), .ref (N0 + 208), .ref (N0 + 209), .ref (N0 + 210), .ref (N0 + 211), .ref (N0 + 212), .int 0, .ref (N0 + 213), .ref (N0 + 218), .ref (N0 + 223), .ref (N0 + 224), .ref (N0 + 225), .ref (N0 + 226), .ref (N0 + 227), .int 0, .int 0, .ref (N0 + 228), .null, .int (-1), .int 0, .int 0, .int 0])))) (fun _ => n)) 0 0 (fA N0) := by
  refine fx_start 3 rfl rfl (Nat.le_of_ble_eq_true rfl) ?_ rfl
  intro p e s m below meth c ls S hr hlocks hin hG hl
  have hl : lv_has ls 3 [(0, .ref (N0 + 164)), (1, .int 2), (2, .int a2)] := hl
  have lt_h0 := hG.1.lt h0
  refine lv_aload_n S.1 S.2.1 dX10_distanceByMatchings_0 rfl (lv_at hl 0 rfl) ?_
  refine lv_iload_n S.1 S.2.1 dX10_distanceByMatchings_1 rfl (lv_at hl 1 rfl) ?_
  refine lv_iload_n S.1 S.2.1 dX10_distanceByMatchings_2 rfl (lv_at hl 2 rfl) ?_
  refine fx_cVi (As := [.int 2, .int a2]) (rest := []) S hG (k513_X10_areNone g_a2_le_m1 (by omega) h0) h0 rfl (cwV 2 S.2.2.2.2 gX10_distanceByMatchings_X10_areNone rfl rfl rfl (by decide +kernel) ⟨Nat.le_of_ble_eq_true rfl, Nat.le_of_ble_eq_true rfl⟩) rfl hl.1 rfl (Nat.le_of_ble_eq_true rfl) dX10_distanceByMatchings_3 ⟨Nat.le_of_ble_eq_true rfl, Nat.le_of_ble_eq_true rfl⟩ (fun rv_1 _ H locs hp hG => ?_)
  subst rv_1
  refine lv_if_eq (tgt := 11) S.1 S.2.1 dX10_distanceByMatchings_6 (by decide) (fun c => absurd c (by decide)) (fun _ => ?_)
  refine lv_iconst (v := 0) S.1 S.2.1 dX10_distanceByMatchings_9 (by decide) ?_
  exact fx_iret S hr hlocks () hG (rfl) dX10_distanceByMatchings_10
theorem k1347_X6_costOfTried {n : Nat} (hn : N0 + 231 ≤ n) (h0 : F (N0 + 157) = some (.inr (7, [.ref (N0 + 158), .ref (N0 + 159), .ref (N0 + 160), .ref (N0 + 161), .ref (N0 + 162), .ref (N0 + 163), .int 1]))) (h1 : F (N0 + 143) = some (.inr (7, [.ref (N0 + 144), .ref (N0 + 145), .ref (N0 + 146), .ref (N0 + 147), .ref (N0 + 148), .ref (N0 + 149), .int 1]))) (h2 : F (N0 + 63) = some (.inr (8, [.ref (N0 + 64), .int 4]))) (h3 : F (N0 + 64) = some (.inl (cI, 7, .inl (upd (fun _ => 0) 0 0)))) (h4 : F (N0 + 158) = some (.inl (cC, 20, .inl (upd (fun _ => 0) 0 97)))) (h5 : F (N0 + 144) = some (.inl (cC, 20, .inl (upd (fun _ => 0) 0 97)))) (h6 : F (N0 + 160) = some (.inl (cI, 20, .inl (fun _ => 0)))) (h7 : F (N0 + 146) = some (.inl (cI, 20, .inl (fun _ => 0)))) : Met l yX6_costOfTried wsX6_costOfTried ({ frames := 1, cells := 0, slots := 0, locals := 24 }) (va_Pc [.ref (N0 + 63), .ref (N0 + 157), .ref (N0 + 143)] (fP N0 D vwCl (fty cI cC cL cD cII cTr cTm cIt cB) (fen ql) F n)) (fQi N0 D vwCl (fty cI cC cL cD cII cTr cTm cIt cB) (fun (r : Int32) (_ : Unit) => r = 0) (fun _ => F) (fun _ => n)) 0 0 (fA N0) := by
  refine fx_start 6 rfl rfl (Nat.le_of_ble_eq_true rfl) ?_ rfl
  intro p e s m below meth c ls S hr hlocks hin hG hl
  have hl : lv_has ls 6 [(0, .ref (N0 + 63)), (1, .ref (N0 + 157)), (2, .ref (N0 + 143))] := hl
  have lt_h0 := hG.1.lt h0
  have lt_h1 := hG.1.lt h1
  have lt_h2 := hG.1.lt h2
  have lt_h3 := hG.1.lt h3
  have lt_h4 := hG.1.lt h4
  have lt_h5 := hG.1.lt h5
  have lt_h6 := hG.1.lt h6
  have lt_h7 := hG.1.lt h7
  refine lv_iconst (v := 2) S.1 S.2.1 dX6_costOfTried_0 (by decide) ?_
  refine lv_aload_n S.1 S.2.1 dX6_costOfTried_1 rfl (lv_at hl 1 rfl) ?_
  refine gx_get (C := RX5) (T := TX5) (N := 7) S hG h0 i_X6_costOfTried_X5 rfl 6 (by decide) (by decide +kernel) rfl dX6_costOfTried_2 ?_
  refine lv_aload_n S.1 S.2.1 dX6_costOfTried_5 rfl (lv_at hl 2 rfl) ?_
  refine gx_get (C := RX5) (T := TX5) (N := 7) S hG h1 i_X6_costOfTried_X5 rfl 6 (by decide) (by decide +kernel) rfl dX6_costOfTried_6 ?_
  refine lv_iadd S.1 S.2.1 dX6_costOfTried_9 ?_
  refine fx_topi (y := 2) (by decide) ?_
  refine lv_imul S.1 S.2.1 dX6_costOfTried_10 ?_
  refine fx_topi (y := 4) (by decide) ?_
  refine lv_istore_n (lv' := [(3, .int 4), (0, .ref (N0 + 63)), (1, .ref (N0 + 157)), (2, .ref (N0 + 143))]) S.1 S.2.1 dX6_costOfTried_11 rfl hl (by decide) rfl (fun ls hl => ?_)
  refine lv_iconst (v := 0) S.1 S.2.1 dX6_costOfTried_12 (by decide) ?_
  refine lv_istore (lv' := [(4, .int 0), (3, .int 4), (0, .ref (N0 + 63)), (1, .ref (N0 + 157)), (2, .ref (N0 + 143))]) S.1 S.2.1 dX6_costOfTried_13 hl (by decide) rfl (fun ls hl => ?_)
  refine lv_iload S.1 S.2.1 dX6_costOfTried_15 (lv_at hl 0 rfl) ?_
  refine lv_aload_n S.1 S.2.1 dX6_costOfTried_17 rfl (lv_at hl 3 rfl) ?_
  refine gx_get (C := RX5) (T := TX5) (N := 7) S hG h0 i_X6_costOfTried_X5 rfl 6 (by decide) (by decide +kernel) rfl dX6_costOfTried_18 ?_
  refine lv_icmp_ge (tgt := 66) S.1 S.2.1 dX6_costOfTried_21 (by decide) (fun c => absurd c (by decide)) (fun _ => ?_)
  refine lv_iload S.1 S.2.1 dX6_costOfTried_24 (lv_at hl 0 rfl) ?_
  refine lv_bipush (v := 7) S.1 S.2.1 dX6_costOfTried_26 (by decide) ?_
  refine lv_icmp_ge (tgt := 66) S.1 S.2.1 dX6_costOfTried_28 (by decide) (fun c => absurd c (by decide)) (fun _ => ?_)
  refine lv_aload_n S.1 S.2.1 dX6_costOfTried_31 rfl (lv_at hl 2 rfl) ?_
  refine gx_get (C := RX6) (T := TX6) (N := 2) S hG h2 i_X6_costOfTried_X6 rfl 0 (by decide) (by decide +kernel) rfl dX6_costOfTried_32 ?_
  refine lv_iload S.1 S.2.1 dX6_costOfTried_35 (lv_at hl 0 rfl) ?_
  refine gx_iald (v := 0) S hG 0 h3 rfl (fin_l (by decide)) (by decide) dX6_costOfTried_37 ?_
  refine lv_istore (lv' := [(5, .int 0), (4, .int 0), (3, .int 4), (0, .ref (N0 + 63)), (1, .ref (N0 + 157)), (2, .ref (N0 + 143))]) S.1 S.2.1 dX6_costOfTried_38 hl (by decide) rfl (fun ls hl => ?_)
  refine lv_iload S.1 S.2.1 dX6_costOfTried_40 (lv_at hl 0 rfl) ?_
  refine lv_iconst (v := (-1)) S.1 S.2.1 dX6_costOfTried_42 (by decide) ?_
  refine lv_icmp_eq (tgt := 60) S.1 S.2.1 dX6_costOfTried_43 (by decide) (fun c => absurd c (by decide)) (fun _ => ?_)
  refine lv_iload_n S.1 S.2.1 dX6_costOfTried_46 rfl (lv_at hl 2 rfl) ?_
  refine lv_aload_n S.1 S.2.1 dX6_costOfTried_47 rfl (lv_at hl 4 rfl) ?_
  refine lv_iload S.1 S.2.1 dX6_costOfTried_48 (lv_at hl 1 rfl) ?_
  refine lv_aload_n S.1 S.2.1 dX6_costOfTried_50 rfl (lv_at hl 5 rfl) ?_
  refine lv_iload S.1 S.2.1 dX6_costOfTried_51 (lv_at hl 0 rfl) ?_
  refine fx_cSNi (host := "TreeDiffer") (As := [.ref (N0 + 157), .int 0, .ref (N0 + 143), .int 0]) (rest := [.int 4]) S hG (k1262_X7_changeCost (by omega) h0 h4 h1 h5 h6 h7) ⟨(va_cnB 4 S.2.2.2.2 gX6_costOfTried_X7_changeCost_n52 rfl rfl rfl (hG.nest (show _ ∈ fen2.2.2.1 from by decide)) (S.2.2.2.2 (.initialized RX7) (by decide +kernel)) (by decide +kernel) ⟨Nat.le_of_ble_eq_true rfl, Nat.le_of_ble_eq_true rfl⟩), S.2.2.2.2 (.static yX7_changeCost) (by decide +kernel), trivial⟩ rfl hl.1 rfl (Nat.le_of_ble_eq_true rfl) dX6_costOfTried_53 ⟨Nat.le_of_ble_eq_true rfl, Nat.le_of_ble_eq_true rfl⟩ (fun rv_1 _ H locs hp hG => ?_)
  subst rv_1
  refine lv_iconst (v := 4) S.1 S.2.1 dX6_costOfTried_56 (by decide) ?_
  refine lv_isub S.1 S.2.1 dX6_costOfTried_57 ?_
  refine fx_topi (y := (-4)) (by decide) ?_
  refine lv_iadd S.1 S.2.1 dX6_costOfTried_58 ?_
  refine fx_topi (y := 0) (by decide) ?_
  refine lv_istore_n (lv' := [(3, .int 0), (5, .int 0), (4, .int 0), (0, .ref (N0 + 63)), (1, .ref (N0 + 157)), (2, .ref (N0 + 143))]) S.1 S.2.1 dX6_costOfTried_59 rfl hl (by decide) rfl (fun ls hl => ?_)
  refine lv_iinc (v := 1) (lv' := [(4, .int 1), (3, .int 0), (5, .int 0), (0, .ref (N0 + 63)), (1, .ref (N0 + 157)), (2, .ref (N0 + 143))]) S.1 S.2.1 dX6_costOfTried_60 hl (k := 2) rfl (by decide) (by decide) rfl (fun ls hl => ?_)
  refine lv_goto (tgt := 15) S.1 S.2.1 dX6_costOfTried_63 (by decide) ?_
  refine lv_iload S.1 S.2.1 dX6_costOfTried_15 (lv_at hl 0 rfl) ?_
  refine lv_aload_n S.1 S.2.1 dX6_costOfTried_17 rfl (lv_at hl 4 rfl) ?_
  refine gx_get (C := RX5) (T := TX5) (N := 7) S hG h0 i_X6_costOfTried_X5 rfl 6 (by decide) (by decide +kernel) rfl dX6_costOfTried_18 ?_
  refine lv_icmp_ge (tgt := 66) S.1 S.2.1 dX6_costOfTried_21 (by decide) (fun _ => ?_) (fun c => absurd (by decide) c)
  refine lv_iload_n S.1 S.2.1 dX6_costOfTried_66 rfl (lv_at hl 1 rfl) ?_
  exact fx_iret S hr hlocks () hG (rfl) dX6_costOfTried_67
theorem k1348_X6_tryFrom {n : Nat} (hn : N0 + 231 ≤ n) (h0 : F (N0 + 157) = some (.inr (7, [.ref (N0 + 158), .ref (N0 + 159), .ref (N0 + 160), .ref (N0 + 161), .ref (N0 + 162), .ref (N0 + 163), .int 1]))) (h1 : F (N0 + 63) = some (.inr (8, [.ref (N0 + 64), .int 4]))) (h2 : F (N0 + 143) = some (.inr (7, [.ref (N0 + 144), .ref (N0 + 145), .ref (N0 + 146), .ref (N0 + 147), .ref (N0 + 148), .ref (N0 + 149), .int 1]))) (h3 : F (N0 + 64) = some (.inl (cI, 7, .inl (upd (fun _ => 0) 0 0)))) (h4 : F (N0 + 158) = some (.inl (cC, 20, .inl (upd (fun _ => 0) 0 97)))) (h5 : F (N0 + 144) = some (.inl (cC, 20, .inl (upd (fun _ => 0) 0 97)))) (h6 : F (N0 + 160) = some (.inl (cI, 20, .inl (fun _ => 0)))) (h7 : F (N0 + 146) = some (.inl (cI, 20, .inl (fun _ => 0)))) : Met l yX6_tryFrom wsX6_tryFrom ({ frames := 2, cells := 0, slots := 0, locals := 49 }) (va_Pc [.ref (N0 + 63), .ref (N0 + 157), .ref (N0 + 143), .int 1] (fP N0 D vwCl (fty cI cC cL cD cII cTr cTm cIt cB) (fen ql) F n)) (fQv N0 D vwCl (fty cI cC cL cD cII cTr cTm cIt cB) (fun (_ : Unit) => True) (fun _ => (fu F (N0 + 63) (.inr (8, [.ref (N0 + 64), .int 0])))) (fun _ => n)) 0 0 (fA N0) := by
  refine fx_start 5 rfl rfl (Nat.le_of_ble_eq_true rfl) ?_ rfl
  intro p e s m below meth c ls S hr hlocks hin hG hl
  have hl : lv_has ls 5 [(0, .ref (N0 + 63)), (1, .ref (N0 + 157)), (2, .ref (N0 + 143)), (3, .int 1)] := hl
  have lt_h0 := hG.1.lt h0
  have lt_h1 := hG.1.lt h1
  have lt_h2 := hG.1.lt h2
  have lt_h3 := hG.1.lt h3
  have lt_h4 := hG.1.lt h4
  have lt_h5 := hG.1.lt h5
  have lt_h6 := hG.1.lt h6
  have lt_h7 := hG.1.lt h7
  refine lv_iload_n S.1 S.2.1 dX6_tryFrom_0 rfl (lv_at hl 3 rfl) ?_
  refine lv_iconst (v := 1) S.1 S.2.1 dX6_tryFrom_1 (by decide) ?_
  refine lv_icmp_lt (tgt := 19) S.1 S.2.1 dX6_tryFrom_2 (by decide) (fun c => absurd c (by decide)) (fun _ => ?_)
  refine lv_iload_n S.1 S.2.1 dX6_tryFrom_5 rfl (lv_at hl 3 rfl) ?_
  refine lv_bipush (v := 7) S.1 S.2.1 dX6_tryFrom_6 (by decide) ?_
  refine lv_icmp_ge (tgt := 19) S.1 S.2.1 dX6_tryFrom_8 (by decide) (fun c => absurd c (by decide)) (fun _ => ?_)
  refine lv_iload_n S.1 S.2.1 dX6_tryFrom_11 rfl (lv_at hl 3 rfl) ?_
  refine lv_aload_n S.1 S.2.1 dX6_tryFrom_12 rfl (lv_at hl 1 rfl) ?_
  refine gx_get (C := RX5) (T := TX5) (N := 7) S hG h0 i_X6_tryFrom_X5 rfl 6 (by decide) (by decide +kernel) rfl dX6_tryFrom_13 ?_
  refine lv_icmp_lt (tgt := 37) S.1 S.2.1 dX6_tryFrom_16 (by decide) (fun c => absurd c (by decide)) (fun _ => ?_)
  refine lv_aload_n S.1 S.2.1 dX6_tryFrom_19 rfl (lv_at hl 0 rfl) ?_
  refine lv_aload_n S.1 S.2.1 dX6_tryFrom_20 rfl (lv_at hl 0 rfl) ?_
  refine gx_get (C := RX6) (T := TX6) (N := 2) S hG h1 i_X6_tryFrom_X6 rfl 1 (by decide) (by decide +kernel) rfl dX6_tryFrom_21 ?_
  refine lv_aload_n S.1 S.2.1 dX6_tryFrom_24 rfl (lv_at hl 0 rfl) ?_
  refine lv_aload_n S.1 S.2.1 dX6_tryFrom_25 rfl (lv_at hl 1 rfl) ?_
  refine lv_aload_n S.1 S.2.1 dX6_tryFrom_26 rfl (lv_at hl 2 rfl) ?_
  refine fx_cVi (As := [.ref (N0 + 157), .ref (N0 + 143)]) (rest := [.int 4, .ref (N0 + 63)]) S hG (k1347_X6_costOfTried (by omega) h0 h2 h1 h3 h4 h5 h6 h7) h1 rfl (cwV 2 S.2.2.2.2 gX6_tryFrom_X6_costOfTried rfl rfl rfl (by decide +kernel) ⟨Nat.le_of_ble_eq_true rfl, Nat.le_of_ble_eq_true rfl⟩) rfl hl.1 rfl (Nat.le_of_ble_eq_true rfl) dX6_tryFrom_27 ⟨Nat.le_of_ble_eq_true rfl, Nat.le_of_ble_eq_true rfl⟩ (fun rv_1 _ H locs hp hG => ?_)
  subst rv_1
  refine gx_mmin S hl.1 (by decide +kernel) (by decide +kernel) (by decide +kernel) (by decide +kernel) (Nat.le_of_ble_eq_true rfl) (Nat.le_of_ble_eq_true rfl) (by decide) (by decide) dX6_tryFrom_30 ?_
  refine fx_topi (y := 0) (by decide) ?_
  refine gx_put (C := RX6) (T := TX6) (N := 2) (ty := .int) (v := .int 0) (fs' := [.ref (N0 + 64), .int 0]) S hG h1 i_X6_tryFrom_X6 rfl 1 (by decide) tyX6 tyX6_ok nmX6 (by decide +kernel) rfl (by decide +kernel) rfl rfl (Nat.le_of_ble_eq_true rfl) rfl dX6_tryFrom_33 (fun H locs hG => ?_)
  exact fx_vret S hr hlocks () hG trivial dX6_tryFrom_36
theorem k1349_X6_leastCost {n : Nat} (hn : N0 + 231 ≤ n) (h0 : F (N0 + 63) = some (.inr (8, [.ref (N0 + 64), .int 0]))) (h1 : F (N0 + 64) = some (.inl (cI, 7, .inl (fun _ => 0)))) (h2 : F (N0 + 157) = some (.inr (7, [.ref (N0 + 158), .ref (N0 + 159), .ref (N0 + 160), .ref (N0 + 161), .ref (N0 + 162), .ref (N0 + 163), .int 1]))) (h3 : F (N0 + 143) = some (.inr (7, [.ref (N0 + 144), .ref (N0 + 145), .ref (N0 + 146), .ref (N0 + 147), .ref (N0 + 148), .ref (N0 + 149), .int 1]))) (h4 : F (N0 + 158) = some (.inl (cC, 20, .inl (upd (fun _ => 0) 0 97)))) (h5 : F (N0 + 144) = some (.inl (cC, 20, .inl (upd (fun _ => 0) 0 97)))) (h6 : F (N0 + 160) = some (.inl (cI, 20, .inl (fun _ => 0)))) (h7 : F (N0 + 146) = some (.inl (cI, 20, .inl (fun _ => 0)))) : Met l yX6_leastCost wsX6_leastCost ({ frames := 3, cells := 0, slots := 0, locals := 73 }) (va_Pc [.ref (N0 + 63), .ref (N0 + 157), .ref (N0 + 143)] (fP N0 D vwCl (fty cI cC cL cD cII cTr cTm cIt cB) (fen ql) F n)) (fQi N0 D vwCl (fty cI cC cL cD cII cTr cTm cIt cB) (fun (r : Int32) (_ : Unit) => r = 0) (fun _ => (fu (fu F (N0 + 64) (.inl (cI, 7, .inl (upd (fun _ => 0) 0 0)))) (N0 + 63) (.inr (8, [.ref (N0 + 64), .int 0])))) (fun _ => n)) 0 0 (fA N0) := by
  refine fx_start 3 rfl rfl (Nat.le_of_ble_eq_true rfl) ?_ rfl
  intro p e s m below meth c ls S hr hlocks hin hG hl
  have hl : lv_has ls 3 [(0, .ref (N0 + 63)), (1, .ref (N0 + 157)), (2, .ref (N0 + 143))] := hl
  have lt_h0 := hG.1.lt h0
  have lt_h1 := hG.1.lt h1
  have lt_h2 := hG.1.lt h2
  have lt_h3 := hG.1.lt h3
  have lt_h4 := hG.1.lt h4
  have lt_h5 := hG.1.lt h5
  have lt_h6 := hG.1.lt h6
  have lt_h7 := hG.1.lt h7
  refine lv_aload_n S.1 S.2.1 dX6_leastCost_0 rfl (lv_at hl 0 rfl) ?_
  refine gx_get (C := RX6) (T := TX6) (N := 2) S hG h0 i_X6_leastCost_X6 rfl 0 (by decide) (by decide +kernel) rfl dX6_leastCost_1 ?_
  refine lv_iconst (v := 0) S.1 S.2.1 dX6_leastCost_4 (by decide) ?_
  refine lv_iconst (v := 0) S.1 S.2.1 dX6_leastCost_5 (by decide) ?_
  refine gx_iast (f' := upd (fun _ => 0) 0 0) S hG 0 h1 rfl (fin_l (by decide)) dX6_leastCost_6 (rfl) (fun H locs hG => ?_)
  refine lv_aload_n S.1 S.2.1 dX6_leastCost_7 rfl (lv_at hl 0 rfl) ?_
  refine lv_iconst (v := 2) S.1 S.2.1 dX6_leastCost_8 (by decide) ?_
  refine lv_aload_n S.1 S.2.1 dX6_leastCost_9 rfl (lv_at hl 1 rfl) ?_
  refine gx_get (C := RX5) (T := TX5) (N := 7) S hG (fu_at (by omega) h2) i_X6_leastCost_X5 rfl 6 (by decide) (by decide +kernel) rfl dX6_leastCost_10 ?_
  refine lv_aload_n S.1 S.2.1 dX6_leastCost_13 rfl (lv_at hl 2 rfl) ?_
  refine gx_get (C := RX5) (T := TX5) (N := 7) S hG (fu_at (by omega) h3) i_X6_leastCost_X5 rfl 6 (by decide) (by decide +kernel) rfl dX6_leastCost_14 ?_
  refine lv_iadd S.1 S.2.1 dX6_leastCost_17 ?_
  refine fx_topi (y := 2) (by decide) ?_
  refine lv_imul S.1 S.2.1 dX6_leastCost_18 ?_
  refine fx_topi (y := 4) (by decide) ?_
  refine gx_put (C := RX6) (T := TX6) (N := 2) (ty := .int) (v := .int 4) (fs' := [.ref (N0 + 64), .int 4]) S hG (fu_at (by omega) h0) i_X6_leastCost_X6 rfl 1 (by decide) tyX6 tyX6_ok nmX6 (by decide +kernel) rfl (by decide +kernel) rfl rfl (Nat.le_of_ble_eq_true rfl) rfl dX6_leastCost_19 (fun H locs hG => ?_)
  refine lv_aload_n S.1 S.2.1 dX6_leastCost_22 rfl (lv_at hl 0 rfl) ?_
  refine lv_aload_n S.1 S.2.1 dX6_leastCost_23 rfl (lv_at hl 1 rfl) ?_
  refine lv_aload_n S.1 S.2.1 dX6_leastCost_24 rfl (lv_at hl 2 rfl) ?_
  refine lv_iconst (v := 1) S.1 S.2.1 dX6_leastCost_25 (by decide) ?_
  refine fx_cSv (As := [.ref (N0 + 63), .ref (N0 + 157), .ref (N0 + 143), .int 1]) (rest := []) S hG (k1348_X6_tryFrom (by omega) (fu_at (by omega) (fu_at (by omega) h2)) fu_s (fu_at (by omega) (fu_at (by omega) h3)) (fu_at (by omega) fu_s) (fu_at (by omega) (fu_at (by omega) h4)) (fu_at (by omega) (fu_at (by omega) h5)) (fu_at (by omega) (fu_at (by omega) h6)) (fu_at (by omega) (fu_at (by omega) h7))) (cwS 4 S.2.2.2.2 gX6_leastCost_X6_tryFrom rfl rfl rfl (by decide +kernel) ⟨Nat.le_of_ble_eq_true rfl, Nat.le_of_ble_eq_true rfl⟩) rfl hl.1 rfl (Nat.le_of_ble_eq_true rfl) dX6_leastCost_26 ⟨Nat.le_of_ble_eq_true rfl, Nat.le_of_ble_eq_true rfl⟩ (fun _ H locs hp hG => ?_)
  refine lv_aload_n S.1 S.2.1 dX6_leastCost_29 rfl (lv_at hl 0 rfl) ?_
  refine gx_get (C := RX6) (T := TX6) (N := 2) S hG fu_s i_X6_leastCost_X6 rfl 1 (by decide) (by decide +kernel) rfl dX6_leastCost_30 ?_
  have hG : fG N0 D vwCl (fty cI cC cL cD cII cTr cTm cIt cB) (fen ql) s (fu (fu F (N0 + 64) (.inl (cI, 7, .inl (upd (fun _ => 0) 0 0)))) (N0 + 63) (.inr (8, [.ref (N0 + 64), .int 0]))) n H locs := hG.weak (fun a e h => by
    rcases fu_cases h with ⟨rfl, he⟩ | ⟨hne0, h⟩
    · cases he; exact fu_s
    · skip
      rcases fu_cases h with ⟨rfl, he⟩ | ⟨hne1, h⟩
      · cases he; exact (fu_at (by omega) (fu_at (by omega) fu_s))
      · exact (fu_at (by omega) (fu_at (by omega) (fu_at (by omega) h))))
  exact fx_iret S hr hlocks () hG (rfl) dX6_leastCost_33
theorem k1350_X7_distanceByMatchings {n : Nat} (hn : N0 + 231 ≤ n) (h0 : F N0 = some (.inr (9, [.ref (N0 + 1), .ref (N0 + 2), .ref (N0 + 11), .ref (N0 + 13), .ref (N0 + 63), .ref (N0 + 65), .ref (N0 + 85), .int (-1), .int (-1), .int 32]))) (h1 : F (N0 + 1) = some (.inl (cTr, 3, .inr (.inr (.inr (.inr (va_up (va_up (va_up (fun _ => none) 0 (some (N0 + 143))) 1 (some (N0 + 150))) 2 (some (N0 + 157))))))))) (h2 : F (N0 + 157) = some (.inr (7, [.ref (N0 + 158), .ref (N0 + 159), .ref (N0 + 160), .ref (N0 + 161), .ref (N0 + 162), .ref (N0 + 163), .int 1]))) (h3 : F (N0 + 143) = some (.inr (7, [.ref (N0 + 144), .ref (N0 + 145), .ref (N0 + 146), .ref (N0 + 147), .ref (N0 + 148), .ref (N0 + 149), .int 1]))) (h4 : F (N0 + 63) = some (.inr (8, [.ref (N0 + 64), .int 0]))) (h5 : F (N0 + 64) = some (.inl (cI, 7, .inl (fun _ => 0)))) (h6 : F (N0 + 158) = some (.inl (cC, 20, .inl (upd (fun _ => 0) 0 97)))) (h7 : F (N0 + 144) = some (.inl (cC, 20, .inl (upd (fun _ => 0) 0 97)))) (h8 : F (N0 + 160) = some (.inl (cI, 20, .inl (fun _ => 0)))) (h9 : F (N0 + 146) = some (.inl (cI, 20, .inl (fun _ => 0)))) : Met l yX7_distanceByMatchings wsX7_distanceByMatchings ({ frames := 4, cells := 0, slots := 0, locals := 95 }) (va_Pc [.ref N0, .int 2, .int 0] (fP N0 D vwCl (fty cI cC cL cD cII cTr cTm cIt cB) (fen ql) F n)) (fQi N0 D vwCl (fty cI cC cL cD cII cTr cTm cIt cB) (fun (r : Int32) (_ : Unit) => r = 0) (fun _ => (fu (fu F (N0 + 64) (.inl (cI, 7, .inl (upd (fun _ => 0) 0 0)))) (N0 + 63) (.inr (8, [.ref (N0 + 64), .int 0])))) (fun _ => n)) 0 0 (fA N0) := by
  refine fx_start 5 rfl rfl (Nat.le_of_ble_eq_true rfl) ?_ rfl
  intro p e s m below meth c ls S hr hlocks hin hG hl
  have hl : lv_has ls 5 [(0, .ref N0), (1, .int 2), (2, .int 0)] := hl
  have lt_h0 := hG.1.lt h0
  have lt_h1 := hG.1.lt h1
  have lt_h2 := hG.1.lt h2
  have lt_h3 := hG.1.lt h3
  have lt_h4 := hG.1.lt h4
  have lt_h5 := hG.1.lt h5
  have lt_h6 := hG.1.lt h6
  have lt_h7 := hG.1.lt h7
  have lt_h8 := hG.1.lt h8
  have lt_h9 := hG.1.lt h9
  refine lv_aload_n S.1 S.2.1 dX7_distanceByMatchings_0 rfl (lv_at hl 0 rfl) ?_
  refine lv_iload_n S.1 S.2.1 dX7_distanceByMatchings_1 rfl (lv_at hl 1 rfl) ?_
  refine fx_cVr (As := [.int 2]) (rest := []) S hG (k48_X7_treeAt (by omega) h0 h1) h0 rfl (cwV 1 S.2.2.2.2 gX7_distanceByMatchings_X7_treeAt rfl rfl rfl (by decide +kernel) ⟨Nat.le_of_ble_eq_true rfl, Nat.le_of_ble_eq_true rfl⟩) rfl hl.1 rfl (Nat.le_of_ble_eq_true rfl) dX7_distanceByMatchings_2 ⟨Nat.le_of_ble_eq_true rfl, Nat.le_of_ble_eq_true rfl⟩ (fun rv_1 _ H locs hp hG => ?_)
  subst rv_1
  refine lv_astore_n (lv' := [(3, .ref (N0 + 157)), (0, .ref N0), (1, .int 2), (2, .int 0)]) S.1 S.2.1 dX7_distanceByMatchings_5 rfl hl (by decide) rfl (fun ls hl => ?_)
  refine lv_aload_n S.1 S.2.1 dX7_distanceByMatchings_6 rfl (lv_at hl 1 rfl) ?_
  refine lv_iload_n S.1 S.2.1 dX7_distanceByMatchings_7 rfl (lv_at hl 3 rfl) ?_
  refine fx_cVr (As := [.int 0]) (rest := []) S hG (k26_X7_treeAt (by omega) h0 h1) h0 rfl (cwV 1 S.2.2.2.2 gX7_distanceByMatchings_X7_treeAt rfl rfl rfl (by decide +kernel) ⟨Nat.le_of_ble_eq_true rfl, Nat.le_of_ble_eq_true rfl⟩) rfl hl.1 rfl (Nat.le_of_ble_eq_true rfl) dX7_distanceByMatchings_8 ⟨Nat.le_of_ble_eq_true rfl, Nat.le_of_ble_eq_true rfl⟩ (fun rv_2 _ H locs hp hG => ?_)
  subst rv_2
  refine lv_astore (lv' := [(4, .ref (N0 + 143)), (3, .ref (N0 + 157)), (0, .ref N0), (1, .int 2), (2, .int 0)]) S.1 S.2.1 dX7_distanceByMatchings_11 hl (by decide) rfl (fun ls hl => ?_)
  refine lv_aload_n S.1 S.2.1 dX7_distanceByMatchings_13 rfl (lv_at hl 1 rfl) ?_
  refine gx_get (C := RX5) (T := TX5) (N := 7) S hG h2 i_X7_distanceByMatchings_X5 rfl 6 (by decide) (by decide +kernel) rfl dX7_distanceByMatchings_14 ?_
  refine lv_bipush (v := 7) S.1 S.2.1 dX7_distanceByMatchings_17 (by decide) ?_
  refine lv_icmp_gt (tgt := 32) S.1 S.2.1 dX7_distanceByMatchings_19 (by decide) (fun c => absurd c (by decide)) (fun _ => ?_)
  refine lv_aload S.1 S.2.1 dX7_distanceByMatchings_22 (lv_at hl 0 rfl) ?_
  refine gx_get (C := RX5) (T := TX5) (N := 7) S hG h3 i_X7_distanceByMatchings_X5 rfl 6 (by decide) (by decide +kernel) rfl dX7_distanceByMatchings_24 ?_
  refine lv_bipush (v := 7) S.1 S.2.1 dX7_distanceByMatchings_27 (by decide) ?_
  refine lv_icmp_le (tgt := 42) S.1 S.2.1 dX7_distanceByMatchings_29 (by decide) (fun _ => ?_) (fun c => absurd (by decide) c)
  refine lv_aload_n S.1 S.2.1 dX7_distanceByMatchings_42 rfl (lv_at hl 2 rfl) ?_
  refine gx_get (C := RX7) (T := TX7) (N := 10) S hG h0 i_X7_distanceByMatchings_X7 rfl 4 (by decide) (by decide +kernel) rfl dX7_distanceByMatchings_43 ?_
  refine lv_aload_n S.1 S.2.1 dX7_distanceByMatchings_46 rfl (lv_at hl 1 rfl) ?_
  refine lv_aload S.1 S.2.1 dX7_distanceByMatchings_47 (lv_at hl 0 rfl) ?_
  refine fx_cVi (As := [.ref (N0 + 157), .ref (N0 + 143)]) (rest := []) S hG (k1349_X6_leastCost (by omega) h4 h5 h2 h3 h6 h7 h8 h9) h4 rfl (cwV 2 S.2.2.2.2 gX7_distanceByMatchings_X6_leastCost rfl rfl rfl (by decide +kernel) ⟨Nat.le_of_ble_eq_true rfl, Nat.le_of_ble_eq_true rfl⟩) rfl hl.1 rfl (Nat.le_of_ble_eq_true rfl) dX7_distanceByMatchings_49 ⟨Nat.le_of_ble_eq_true rfl, Nat.le_of_ble_eq_true rfl⟩ (fun rv_3 _ H locs hp hG => ?_)
  subst rv_3
  exact fx_iret S hr hlocks () hG (rfl) dX7_distanceByMatchings_52
theorem k1351_L_distanceByMatchings {n : Nat} (hn : N0 + 231 ≤ n) (h0 : F N0 = some (.inr (9, [.ref (N0 + 1), .ref (N0 + 2), .ref (N0 + 11), .ref (N0 + 13), .ref (N0 + 63), .ref (N0 + 65), .ref (N0 + 85), .int (-1), .int (-1), .int 32]))) (h1 : F (N0 + 1) = some (.inl (cTr, 3, .inr (.inr (.inr (.inr (va_up (va_up (va_up (fun _ => none) 0 (some (N0 + 143))) 1 (some (N0 + 150))) 2 (some (N0 + 157))))))))) (h2 : F (N0 + 157) = some (.inr (7, [.ref (N0 + 158), .ref (N0 + 159), .ref (N0 + 160), .ref (N0 + 161), .ref (N0 + 162), .ref (N0 + 163), .int 1]))) (h3 : F (N0 + 143) = some (.inr (7, [.ref (N0 + 144), .ref (N0 + 145), .ref (N0 + 146), .ref (N0 + 147), .ref (N0 + 148), .ref (N0 + 149), .int 1]))) (h4 : F (N0 + 63) = some (.inr (8, [.ref (N0 + 64), .int 0]))) (h5 : F (N0 + 64) = some (.inl (cI, 7, .inl (fun _ => 0)))) (h6 : F (N0 + 158) = some (.inl (cC, 20, .inl (upd (fun _ => 0) 0 97)))) (h7 : F (N0 + 144) = some (.inl (cC, 20, .inl (upd (fun _ => 0) 0 97)))) (h8 : F (N0 + 160) = some (.inl (cI, 20, .inl (fun _ => 0)))) (h9 : F (N0 + 146) = some (.inl (cI, 20, .inl (fun _ => 0)))) (h10 : F (N0 + 229) = some (.inl (cL, 1, .inr (.inl (fun _ => 0))))) : Met l yL_distanceByMatchings wsL_distanceByMatchings ({ frames := 5, cells := 0, slots := 0, locals := 119 }) (va_Pc [.ref N0, .int 2, .int 0, .ref (N0 + 229)] (fP N0 D vwCl (fty cI cC cL cD cII cTr cTm cIt cB) (fen ql) F n)) (fQi N0 D vwCl (fty cI cC cL cD cII cTr cTm cIt cB) (fun (r : Int32) (_ : Unit) => r = 0) (fun _ => (fu (fu (fu F (N0 + 64) (.inl (cI, 7, .inl (upd (fun _ => 0) 0 0)))) (N0 + 63) (.inr (8, [.ref (N0 + 64), .int 0]))) (N0 + 229) (.inl (cL, 1, .inr (.inl (vp_updL (fun _ => 0) 0 0)))))) (fun _ => n)) 0 0 (fA N0) := by
  refine fx_startW (hh := [(0, 10, 13, 19), (0, 10, 17, 47)]) 5 rfl rfl (Nat.le_of_ble_eq_true rfl) ?_ rfl
  intro p e s m below meth c ls S htab hr hlocks hG hl
  have hl : lv_has ls 5 [(0, .ref N0), (1, .int 2), (2, .int 0), (3, .ref (N0 + 229))] := hl
  have lt_h0 := hG.1.lt h0
  have lt_h1 := hG.1.lt h1
  have lt_h2 := hG.1.lt h2
  have lt_h3 := hG.1.lt h3
  have lt_h4 := hG.1.lt h4
  have lt_h5 := hG.1.lt h5
  have lt_h6 := hG.1.lt h6
  have lt_h7 := hG.1.lt h7
  have lt_h8 := hG.1.lt h8
  have lt_h9 := hG.1.lt h9
  have lt_h10 := hG.1.lt h10
  refine lv_aload_n S.1 S.2.1 dL_distanceByMatchings_0 rfl (lv_at hl 3 rfl) ?_
  refine lv_iconst (v := 0) S.1 S.2.1 dL_distanceByMatchings_1 (by decide) ?_
  refine lv_aload_n S.1 S.2.1 dL_distanceByMatchings_2 rfl (lv_at hl 0 rfl) ?_
  refine lv_iload_n S.1 S.2.1 dL_distanceByMatchings_3 rfl (lv_at hl 1 rfl) ?_
  refine lv_iload_n S.1 S.2.1 dL_distanceByMatchings_4 rfl (lv_at hl 2 rfl) ?_
  refine fx_cVi (As := [.int 2, .int 0]) (rest := [.int 0, .ref (N0 + 229)]) S hG (k1350_X7_distanceByMatchings (by omega) h0 h1 h2 h3 h4 h5 h6 h7 h8 h9) h0 rfl (cwV 2 S.2.2.2.2 gL_distanceByMatchings_X7_distanceByMatchings rfl rfl rfl (by decide +kernel) ⟨Nat.le_of_ble_eq_true rfl, Nat.le_of_ble_eq_true rfl⟩) rfl hl.1 rfl (Nat.le_of_ble_eq_true rfl) dL_distanceByMatchings_5 ⟨Nat.le_of_ble_eq_true rfl, Nat.le_of_ble_eq_true rfl⟩ (fun rv_1 _ H locs hp hG => ?_)
  subst rv_1
  refine lv_i2l (v := 0) S.1 S.2.1 dL_distanceByMatchings_8 (by decide) ?_
  refine gx_last (f' := vp_updL (fun _ => 0) 0 0) S hG 2 (fu_at (by omega) (fu_at (by omega) h10)) rfl (fin_l (by decide)) dL_distanceByMatchings_9 rfl (fun H locs hG => ?_)
  refine lv_goto (tgt := 21) S.1 S.2.1 dL_distanceByMatchings_10 (by decide) ?_
  refine lv_iconst (v := 0) S.1 S.2.1 dL_distanceByMatchings_21 (by decide) ?_
  exact fx_iret S hr hlocks () hG (rfl) dL_distanceByMatchings_22
theorem k1352_X10_distanceByMatchings {n : Nat} (hn : N0 + 231 ≤ n) (h0 : F (N0 + 164) = some (.inr (12, [.ref (N0 + 165), .int 0, .ref (N0 + 181), .int 0, .int 0, .int 0, .int (-1), .ref (ql 24), .ref (N0 + 182), .ref (N0 + 187), .ref (N0 + 208), .ref (N0 + 209), .ref (N0 + 210), .ref (N0 + 211), .ref (N0 + 212), .int 0, .ref (N0 + 213), .ref (N0 + 218), .ref (N0 + 223), .ref (N0 + 224), .ref (N0 + 225), .ref (N0 + 226), .ref (N0 + 227), .int 0, .int 0, .ref (N0 + 228), .null, .int (-1), .int 0, .int 0, .int 0]))) (h1 : F (N0 + 165) = some (.inl (cTm, 3, .inr (.inr (.inr (.inr (va_up (va_up (va_up (fun _ => none) 0 (some (N0 + 166))) 1 (some (N0 + 171))) 2 (some (N0 + 176))))))))) (h2 : F (N0 + 176) = some (.inr (11, [.ref (N0 + 177), .ref (N0 + 178), .ref (N0 + 179), .ref (N0 + 180), .int 1]))) (h3 : F (N0 + 166) = some (.inr (11, [.ref (N0 + 167), .ref (N0 + 168), .ref (N0 + 169), .ref (N0 + 170), .int 1]))) (h4 : F (N0 + 177) = some (.inl (cI, 20, .inl (upd (fun _ => 0) 0 97)))) (h5 : F (N0 + 167) = some (.inl (cI, 20, .inl (upd (fun _ => 0) 0 97)))) (h6 : F (N0 + 179) = some (.inl (cI, 20, .inl (upd (fun _ => 0) 0 0)))) (h7 : F (N0 + 169) = some (.inl (cI, 20, .inl (upd (fun _ => 0) 0 0)))) (h8 : F (N0 + 187) = some (.inl (cII, 20, .inr (.inr (.inr (.inr (fun j => if j < 20 then some ((N0 + 188) + j) else none))))))) (h9 : F (N0 + 188) = some (.inl (cI, 20, .inl (fun _ => 0)))) : Met l yX10_distanceByMatchings wsX10_distanceByMatchings ({ frames := 3, cells := 4, slots := 2, locals := 72 }) (va_Pc [.ref (N0 + 164), .int 2, .int 0] (fP N0 D vwCl (fty cI cC cL cD cII cTr cTm cIt cB) (fen ql) F n)) (fQi N0 D vwCl (fty cI cC cL cD cII cTr cTm cIt cB) (fun (r : Int32) (_ : Unit) => r = 0) (fun _ => (fblk (fu (fu F (N0 + 164) (.inr (12, [.ref (N0 + 165), .int 0, .ref (N0 + 181), .int 0, .int 0, .int 0, .int (-1), .ref (ql 24), .ref (N0 + 182), .ref (N0 + 187), .ref (N0 + 208), .ref (N0 + 209), .ref (N0 + 210), .ref (N0 + 211), .ref (N0 + 212), .int 0, .ref (N0 + 213), .ref (N0 + 218), .ref (N0 + 223), .ref (N0 + 224), .ref (N0 + 225), .ref (N0 + 226), .ref (N0 + 227), .int 0, .int 0, .ref (N0 + 228), .null, .int (-1), .int 0, .int 0, .int 0]))) (N0 + 188) (.inl (cI, 20, .inl (upd (fun _ => 0) 0 0)))) n [.inl (cI, 0, .inl (fun _ => 0)), .inl (cI, 0, .inl (fun _ => 0)), .inl (cII, 1, .inr (.inr (.inr (.inr (fun j => if j < 1 then some ((n + 3) + j) else none))))), .inl (cI, 1, .inl (fun _ => 0))])) (fun _ => (n + 4))) 4 2 (fA N0) := by
  refine fx_start 3 rfl rfl (Nat.le_of_ble_eq_true rfl) ?_ rfl
  intro p e s m below meth c ls S hr hlocks hin hG hl
  have hl : lv_has ls 3 [(0, .ref (N0 + 164)), (1, .int 2), (2, .int 0)] := hl
  have lt_h0 := hG.1.lt h0
  have lt_h1 := hG.1.lt h1
  have lt_h2 := hG.1.lt h2
  have lt_h3 := hG.1.lt h3
  have lt_h4 := hG.1.lt h4
  have lt_h5 := hG.1.lt h5
  have lt_h6 := hG.1.lt h6
  have lt_h7 := hG.1.lt h7
  have lt_h8 := hG.1.lt h8
  have lt_h9 := hG.1.lt h9
  refine lv_aload_n S.1 S.2.1 dX10_distanceByMatchings_0 rfl (lv_at hl 0 rfl) ?_
  refine lv_iload_n S.1 S.2.1 dX10_distanceByMatchings_1 rfl (lv_at hl 1 rfl) ?_
  refine lv_iload_n S.1 S.2.1 dX10_distanceByMatchings_2 rfl (lv_at hl 2 rfl) ?_
  refine fx_cVi (As := [.int 2, .int 0]) (rest := []) S hG (k518_X10_areNone (by omega) h0) h0 rfl (cwV 2 S.2.2.2.2 gX10_distanceByMatchings_X10_areNone rfl rfl rfl (by decide +kernel) ⟨Nat.le_of_ble_eq_true rfl, Nat.le_of_ble_eq_true rfl⟩) rfl hl.1 rfl (Nat.le_of_ble_eq_true rfl) dX10_distanceByMatchings_3 ⟨Nat.le_of_ble_eq_true rfl, Nat.le_of_ble_eq_true rfl⟩ (fun rv_1 _ H locs hp hG => ?_)
  subst rv_1
  refine lv_if_eq (tgt := 11) S.1 S.2.1 dX10_distanceByMatchings_6 (by decide) (fun _ => ?_) (fun c => absurd (by decide) c)
  refine lv_aload_n S.1 S.2.1 dX10_distanceByMatchings_11 rfl (lv_at hl 0 rfl) ?_
  refine gx_get (C := RX10) (T := TX10) (N := 31) S hG fu_s i_X10_distanceByMatchings_X10 rfl 0 (by decide) (by decide +kernel) rfl dX10_distanceByMatchings_12 ?_
  refine lv_iload_n S.1 S.2.1 dX10_distanceByMatchings_15 rfl (lv_at hl 1 rfl) ?_
  refine gx_aldq (x := (N0 + 176)) S hG 6 rfl (fu_at (by omega) h1) rfl (fin_l (by decide)) (rfl) dX10_distanceByMatchings_16 ?_
  refine gx_getN (C := RX9) (T := TX9) (N := 5) S hG (fu_at (by omega) h2) i_X10_distanceByMatchings_X9 rfl 4 (by decide) (List.mem_of_getElem? (i := 4) rfl) rfl dX10_distanceByMatchings_17 ?_
  refine lv_bipush (v := 7) S.1 S.2.1 dX10_distanceByMatchings_20 (by decide) ?_
  refine lv_icmp_gt (tgt := 39) S.1 S.2.1 dX10_distanceByMatchings_22 (by decide) (fun c => absurd c (by decide)) (fun _ => ?_)
  refine lv_aload_n S.1 S.2.1 dX10_distanceByMatchings_25 rfl (lv_at hl 0 rfl) ?_
  refine gx_get (C := RX10) (T := TX10) (N := 31) S hG fu_s i_X10_distanceByMatchings_X10 rfl 0 (by decide) (by decide +kernel) rfl dX10_distanceByMatchings_26 ?_
  refine lv_iload_n S.1 S.2.1 dX10_distanceByMatchings_29 rfl (lv_at hl 2 rfl) ?_
  refine gx_aldq (x := (N0 + 166)) S hG 6 rfl (fu_at (by omega) h1) rfl (fin_l (by decide)) (rfl) dX10_distanceByMatchings_30 ?_
  refine gx_getN (C := RX9) (T := TX9) (N := 5) S hG (fu_at (by omega) h3) i_X10_distanceByMatchings_X9 rfl 4 (by decide) (List.mem_of_getElem? (i := 4) rfl) rfl dX10_distanceByMatchings_31 ?_
  refine lv_bipush (v := 7) S.1 S.2.1 dX10_distanceByMatchings_34 (by decide) ?_
  refine lv_icmp_le (tgt := 47) S.1 S.2.1 dX10_distanceByMatchings_36 (by decide) (fun _ => ?_) (fun c => absurd (by decide) c)
  refine lv_aload_n S.1 S.2.1 dX10_distanceByMatchings_47 rfl (lv_at hl 0 rfl) ?_
  refine lv_aload_n S.1 S.2.1 dX10_distanceByMatchings_48 rfl (lv_at hl 0 rfl) ?_
  refine gx_get (C := RX10) (T := TX10) (N := 31) S hG fu_s i_X10_distanceByMatchings_X10 rfl 0 (by decide) (by decide +kernel) rfl dX10_distanceByMatchings_49 ?_
  refine lv_iload_n S.1 S.2.1 dX10_distanceByMatchings_52 rfl (lv_at hl 1 rfl) ?_
  refine gx_aldq (x := (N0 + 176)) S hG 6 rfl (fu_at (by omega) h1) rfl (fin_l (by decide)) (rfl) dX10_distanceByMatchings_53 ?_
  refine lv_aload_n S.1 S.2.1 dX10_distanceByMatchings_54 rfl (lv_at hl 0 rfl) ?_
  refine gx_get (C := RX10) (T := TX10) (N := 31) S hG fu_s i_X10_distanceByMatchings_X10 rfl 0 (by decide) (by decide +kernel) rfl dX10_distanceByMatchings_55 ?_
  refine lv_iload_n S.1 S.2.1 dX10_distanceByMatchings_58 rfl (lv_at hl 2 rfl) ?_
  refine gx_aldq (x := (N0 + 166)) S hG 6 rfl (fu_at (by omega) h1) rfl (fin_l (by decide)) (rfl) dX10_distanceByMatchings_59 ?_
  refine fx_cVi (As := [.ref (N0 + 176), .ref (N0 + 166)]) (rest := []) S hG (k1267_X10_fills (by omega) (fu_at (by omega) h2) (fu_at (by omega) h3) (fu_at (by omega) h4) (fu_at (by omega) h5) (fu_at (by omega) h6) (fu_at (by omega) h7) fu_s (fu_at (by omega) h8) (fu_at (by omega) h9)) fu_s rfl (cwV 2 S.2.2.2.2 gX10_distanceByMatchings_X10_fills rfl rfl rfl (by decide +kernel) ⟨Nat.le_of_ble_eq_true rfl, Nat.le_of_ble_eq_true rfl⟩) rfl hl.1 rfl (Nat.le_of_ble_eq_true rfl) dX10_distanceByMatchings_60 ⟨Nat.le_of_ble_eq_true rfl, Nat.le_of_ble_eq_true rfl⟩ (fun rv_2 _ H locs hp hG => ?_)
  subst rv_2
  refine W.widen (k := 4) (n := 2) (by decide) (by decide) ?_
  have hG : fG N0 D vwCl (fty cI cC cL cD cII cTr cTm cIt cB) (fen ql) s (fblk (fu (fu F (N0 + 164) (.inr (12, [.ref (N0 + 165), .int 0, .ref (N0 + 181), .int 0, .int 0, .int 0, .int (-1), .ref (ql 24), .ref (N0 + 182), .ref (N0 + 187), .ref (N0 + 208), .ref (N0 + 209), .ref (N0 + 210), .ref (N0 + 211), .ref (N0 + 212), .int 0, .ref (N0 + 213), .ref (N0 + 218), .ref (N0 + 223), .ref (N0 + 224), .ref (N0 + 225), .ref (N0 + 226), .ref (N0 + 227), .int 0, .int 0, .ref (N0 + 228), .null, .int (-1), .int 0, .int 0, .int 0]))) (N0 + 188) (.inl (cI, 20, .inl (upd (fun _ => 0) 0 0)))) n [.inl (cI, 0, .inl (fun _ => 0)), .inl (cI, 0, .inl (fun _ => 0)), .inl (cII, 1, .inr (.inr (.inr (.inr (fun j => if j < 1 then some ((n + 3) + j) else none))))), .inl (cI, 1, .inl (fun _ => 0))]) (n + 4) H locs := hG.weak (fun a e h => by
    rcases fblk_cases 4 rfl h with ⟨k, rfl, hlt, hk⟩ | ⟨hout, h⟩
    · rcases (show k = 0 ∨ k = 1 ∨ k = 2 ∨ k = 3 by omega) with rfl | rfl | rfl | rfl
      · cases (show some (.inl (cI, 0, .inl (fun _ => 0))) = some e from hk); exact (fblk_at 0 (by omega) rfl)
      · cases (show some (.inl (cI, 0, .inl (fun _ => 0))) = some e from hk); exact (fblk_at 1 (by omega) rfl)
      · cases (show some (.inl (cII, 1, .inr (.inr (.inr (.inr (fun j => if j < 1 then some ((n + 3) + j) else none)))))) = some e from hk); exact (fblk_at 2 (by omega) rfl)
      · cases (show some (.inl (cI, 1, .inl (fun _ => 0))) = some e from hk); exact (fblk_at 3 (by omega) rfl)
    · rcases fu_cases h with ⟨rfl, he⟩ | ⟨hne0, h⟩
      · cases he; exact (fblk_sk 4 rfl (by omega) fu_s)
      · skip
        rcases fu_cases h with ⟨rfl, he⟩ | ⟨hne1, h⟩
        · cases he; exact (fblk_sk 4 rfl (by omega) (fu_at (by omega) fu_s))
        · exact (fblk_sk 4 rfl (by omega) (fu_at (by omega) (fu_at (by omega) h))))
  exact fx_iret S hr hlocks () hG (rfl) dX10_distanceByMatchings_63
theorem k1353_X6_costOfTried {n : Nat} (hn : N0 + 231 ≤ n) (h0 : F (N0 + 157) = some (.inr (7, [.ref (N0 + 158), .ref (N0 + 159), .ref (N0 + 160), .ref (N0 + 161), .ref (N0 + 162), .ref (N0 + 163), .int 1]))) (h1 : F (N0 + 150) = some (.inr (7, [.ref (N0 + 151), .ref (N0 + 152), .ref (N0 + 153), .ref (N0 + 154), .ref (N0 + 155), .ref (N0 + 156), .int 1]))) (h2 : F (N0 + 63) = some (.inr (8, [.ref (N0 + 64), .int 4]))) (h3 : F (N0 + 64) = some (.inl (cI, 7, .inl (upd (fun _ => 0) 0 0)))) (h4 : F (N0 + 158) = some (.inl (cC, 20, .inl (upd (fun _ => 0) 0 97)))) (h5 : F (N0 + 151) = some (.inl (cC, 20, .inl (upd (fun _ => 0) 0 97)))) (h6 : F (N0 + 160) = some (.inl (cI, 20, .inl (fun _ => 0)))) (h7 : F (N0 + 153) = some (.inl (cI, 20, .inl (fun _ => 0)))) : Met l yX6_costOfTried wsX6_costOfTried ({ frames := 1, cells := 0, slots := 0, locals := 24 }) (va_Pc [.ref (N0 + 63), .ref (N0 + 157), .ref (N0 + 150)] (fP N0 D vwCl (fty cI cC cL cD cII cTr cTm cIt cB) (fen ql) F n)) (fQi N0 D vwCl (fty cI cC cL cD cII cTr cTm cIt cB) (fun (r : Int32) (_ : Unit) => r = 0) (fun _ => F) (fun _ => n)) 0 0 (fA N0) := by
  refine fx_start 6 rfl rfl (Nat.le_of_ble_eq_true rfl) ?_ rfl
  intro p e s m below meth c ls S hr hlocks hin hG hl
  have hl : lv_has ls 6 [(0, .ref (N0 + 63)), (1, .ref (N0 + 157)), (2, .ref (N0 + 150))] := hl
  have lt_h0 := hG.1.lt h0
  have lt_h1 := hG.1.lt h1
  have lt_h2 := hG.1.lt h2
  have lt_h3 := hG.1.lt h3
  have lt_h4 := hG.1.lt h4
  have lt_h5 := hG.1.lt h5
  have lt_h6 := hG.1.lt h6
  have lt_h7 := hG.1.lt h7
  refine lv_iconst (v := 2) S.1 S.2.1 dX6_costOfTried_0 (by decide) ?_
  refine lv_aload_n S.1 S.2.1 dX6_costOfTried_1 rfl (lv_at hl 1 rfl) ?_
  refine gx_get (C := RX5) (T := TX5) (N := 7) S hG h0 i_X6_costOfTried_X5 rfl 6 (by decide) (by decide +kernel) rfl dX6_costOfTried_2 ?_
  refine lv_aload_n S.1 S.2.1 dX6_costOfTried_5 rfl (lv_at hl 2 rfl) ?_
  refine gx_get (C := RX5) (T := TX5) (N := 7) S hG h1 i_X6_costOfTried_X5 rfl 6 (by decide) (by decide +kernel) rfl dX6_costOfTried_6 ?_
  refine lv_iadd S.1 S.2.1 dX6_costOfTried_9 ?_
  refine fx_topi (y := 2) (by decide) ?_
  refine lv_imul S.1 S.2.1 dX6_costOfTried_10 ?_
  refine fx_topi (y := 4) (by decide) ?_
  refine lv_istore_n (lv' := [(3, .int 4), (0, .ref (N0 + 63)), (1, .ref (N0 + 157)), (2, .ref (N0 + 150))]) S.1 S.2.1 dX6_costOfTried_11 rfl hl (by decide) rfl (fun ls hl => ?_)
  refine lv_iconst (v := 0) S.1 S.2.1 dX6_costOfTried_12 (by decide) ?_
  refine lv_istore (lv' := [(4, .int 0), (3, .int 4), (0, .ref (N0 + 63)), (1, .ref (N0 + 157)), (2, .ref (N0 + 150))]) S.1 S.2.1 dX6_costOfTried_13 hl (by decide) rfl (fun ls hl => ?_)
  refine lv_iload S.1 S.2.1 dX6_costOfTried_15 (lv_at hl 0 rfl) ?_
  refine lv_aload_n S.1 S.2.1 dX6_costOfTried_17 rfl (lv_at hl 3 rfl) ?_
  refine gx_get (C := RX5) (T := TX5) (N := 7) S hG h0 i_X6_costOfTried_X5 rfl 6 (by decide) (by decide +kernel) rfl dX6_costOfTried_18 ?_
  refine lv_icmp_ge (tgt := 66) S.1 S.2.1 dX6_costOfTried_21 (by decide) (fun c => absurd c (by decide)) (fun _ => ?_)
  refine lv_iload S.1 S.2.1 dX6_costOfTried_24 (lv_at hl 0 rfl) ?_
  refine lv_bipush (v := 7) S.1 S.2.1 dX6_costOfTried_26 (by decide) ?_
  refine lv_icmp_ge (tgt := 66) S.1 S.2.1 dX6_costOfTried_28 (by decide) (fun c => absurd c (by decide)) (fun _ => ?_)
  refine lv_aload_n S.1 S.2.1 dX6_costOfTried_31 rfl (lv_at hl 2 rfl) ?_
  refine gx_get (C := RX6) (T := TX6) (N := 2) S hG h2 i_X6_costOfTried_X6 rfl 0 (by decide) (by decide +kernel) rfl dX6_costOfTried_32 ?_
  refine lv_iload S.1 S.2.1 dX6_costOfTried_35 (lv_at hl 0 rfl) ?_
  refine gx_iald (v := 0) S hG 0 h3 rfl (fin_l (by decide)) (by decide) dX6_costOfTried_37 ?_
  refine lv_istore (lv' := [(5, .int 0), (4, .int 0), (3, .int 4), (0, .ref (N0 + 63)), (1, .ref (N0 + 157)), (2, .ref (N0 + 150))]) S.1 S.2.1 dX6_costOfTried_38 hl (by decide) rfl (fun ls hl => ?_)
  refine lv_iload S.1 S.2.1 dX6_costOfTried_40 (lv_at hl 0 rfl) ?_
  refine lv_iconst (v := (-1)) S.1 S.2.1 dX6_costOfTried_42 (by decide) ?_
  refine lv_icmp_eq (tgt := 60) S.1 S.2.1 dX6_costOfTried_43 (by decide) (fun c => absurd c (by decide)) (fun _ => ?_)
  refine lv_iload_n S.1 S.2.1 dX6_costOfTried_46 rfl (lv_at hl 2 rfl) ?_
  refine lv_aload_n S.1 S.2.1 dX6_costOfTried_47 rfl (lv_at hl 4 rfl) ?_
  refine lv_iload S.1 S.2.1 dX6_costOfTried_48 (lv_at hl 1 rfl) ?_
  refine lv_aload_n S.1 S.2.1 dX6_costOfTried_50 rfl (lv_at hl 5 rfl) ?_
  refine lv_iload S.1 S.2.1 dX6_costOfTried_51 (lv_at hl 0 rfl) ?_
  refine fx_cSNi (host := "TreeDiffer") (As := [.ref (N0 + 157), .int 0, .ref (N0 + 150), .int 0]) (rest := [.int 4]) S hG (k1271_X7_changeCost (by omega) h0 h4 h1 h5 h6 h7) ⟨(va_cnB 4 S.2.2.2.2 gX6_costOfTried_X7_changeCost_n52 rfl rfl rfl (hG.nest (show _ ∈ fen2.2.2.1 from by decide)) (S.2.2.2.2 (.initialized RX7) (by decide +kernel)) (by decide +kernel) ⟨Nat.le_of_ble_eq_true rfl, Nat.le_of_ble_eq_true rfl⟩), S.2.2.2.2 (.static yX7_changeCost) (by decide +kernel), trivial⟩ rfl hl.1 rfl (Nat.le_of_ble_eq_true rfl) dX6_costOfTried_53 ⟨Nat.le_of_ble_eq_true rfl, Nat.le_of_ble_eq_true rfl⟩ (fun rv_1 _ H locs hp hG => ?_)
  subst rv_1
  refine lv_iconst (v := 4) S.1 S.2.1 dX6_costOfTried_56 (by decide) ?_
  refine lv_isub S.1 S.2.1 dX6_costOfTried_57 ?_
  refine fx_topi (y := (-4)) (by decide) ?_
  refine lv_iadd S.1 S.2.1 dX6_costOfTried_58 ?_
  refine fx_topi (y := 0) (by decide) ?_
  refine lv_istore_n (lv' := [(3, .int 0), (5, .int 0), (4, .int 0), (0, .ref (N0 + 63)), (1, .ref (N0 + 157)), (2, .ref (N0 + 150))]) S.1 S.2.1 dX6_costOfTried_59 rfl hl (by decide) rfl (fun ls hl => ?_)
  refine lv_iinc (v := 1) (lv' := [(4, .int 1), (3, .int 0), (5, .int 0), (0, .ref (N0 + 63)), (1, .ref (N0 + 157)), (2, .ref (N0 + 150))]) S.1 S.2.1 dX6_costOfTried_60 hl (k := 2) rfl (by decide) (by decide) rfl (fun ls hl => ?_)
  refine lv_goto (tgt := 15) S.1 S.2.1 dX6_costOfTried_63 (by decide) ?_
  refine lv_iload S.1 S.2.1 dX6_costOfTried_15 (lv_at hl 0 rfl) ?_
  refine lv_aload_n S.1 S.2.1 dX6_costOfTried_17 rfl (lv_at hl 4 rfl) ?_
  refine gx_get (C := RX5) (T := TX5) (N := 7) S hG h0 i_X6_costOfTried_X5 rfl 6 (by decide) (by decide +kernel) rfl dX6_costOfTried_18 ?_
  refine lv_icmp_ge (tgt := 66) S.1 S.2.1 dX6_costOfTried_21 (by decide) (fun _ => ?_) (fun c => absurd (by decide) c)
  refine lv_iload_n S.1 S.2.1 dX6_costOfTried_66 rfl (lv_at hl 1 rfl) ?_
  exact fx_iret S hr hlocks () hG (rfl) dX6_costOfTried_67
theorem k1354_X6_tryFrom {n : Nat} (hn : N0 + 231 ≤ n) (h0 : F (N0 + 157) = some (.inr (7, [.ref (N0 + 158), .ref (N0 + 159), .ref (N0 + 160), .ref (N0 + 161), .ref (N0 + 162), .ref (N0 + 163), .int 1]))) (h1 : F (N0 + 63) = some (.inr (8, [.ref (N0 + 64), .int 4]))) (h2 : F (N0 + 150) = some (.inr (7, [.ref (N0 + 151), .ref (N0 + 152), .ref (N0 + 153), .ref (N0 + 154), .ref (N0 + 155), .ref (N0 + 156), .int 1]))) (h3 : F (N0 + 64) = some (.inl (cI, 7, .inl (upd (fun _ => 0) 0 0)))) (h4 : F (N0 + 158) = some (.inl (cC, 20, .inl (upd (fun _ => 0) 0 97)))) (h5 : F (N0 + 151) = some (.inl (cC, 20, .inl (upd (fun _ => 0) 0 97)))) (h6 : F (N0 + 160) = some (.inl (cI, 20, .inl (fun _ => 0)))) (h7 : F (N0 + 153) = some (.inl (cI, 20, .inl (fun _ => 0)))) : Met l yX6_tryFrom wsX6_tryFrom ({ frames := 2, cells := 0, slots := 0, locals := 49 }) (va_Pc [.ref (N0 + 63), .ref (N0 + 157), .ref (N0 + 150), .int 1] (fP N0 D vwCl (fty cI cC cL cD cII cTr cTm cIt cB) (fen ql) F n)) (fQv N0 D vwCl (fty cI cC cL cD cII cTr cTm cIt cB) (fun (_ : Unit) => True) (fun _ => (fu F (N0 + 63) (.inr (8, [.ref (N0 + 64), .int 0])))) (fun _ => n)) 0 0 (fA N0) := by
  refine fx_start 5 rfl rfl (Nat.le_of_ble_eq_true rfl) ?_ rfl
  intro p e s m below meth c ls S hr hlocks hin hG hl
  have hl : lv_has ls 5 [(0, .ref (N0 + 63)), (1, .ref (N0 + 157)), (2, .ref (N0 + 150)), (3, .int 1)] := hl
  have lt_h0 := hG.1.lt h0
  have lt_h1 := hG.1.lt h1
  have lt_h2 := hG.1.lt h2
  have lt_h3 := hG.1.lt h3
  have lt_h4 := hG.1.lt h4
  have lt_h5 := hG.1.lt h5
  have lt_h6 := hG.1.lt h6
  have lt_h7 := hG.1.lt h7
  refine lv_iload_n S.1 S.2.1 dX6_tryFrom_0 rfl (lv_at hl 3 rfl) ?_
  refine lv_iconst (v := 1) S.1 S.2.1 dX6_tryFrom_1 (by decide) ?_
  refine lv_icmp_lt (tgt := 19) S.1 S.2.1 dX6_tryFrom_2 (by decide) (fun c => absurd c (by decide)) (fun _ => ?_)
  refine lv_iload_n S.1 S.2.1 dX6_tryFrom_5 rfl (lv_at hl 3 rfl) ?_
  refine lv_bipush (v := 7) S.1 S.2.1 dX6_tryFrom_6 (by decide) ?_
  refine lv_icmp_ge (tgt := 19) S.1 S.2.1 dX6_tryFrom_8 (by decide) (fun c => absurd c (by decide)) (fun _ => ?_)
  refine lv_iload_n S.1 S.2.1 dX6_tryFrom_11 rfl (lv_at hl 3 rfl) ?_
  refine lv_aload_n S.1 S.2.1 dX6_tryFrom_12 rfl (lv_at hl 1 rfl) ?_
  refine gx_get (C := RX5) (T := TX5) (N := 7) S hG h0 i_X6_tryFrom_X5 rfl 6 (by decide) (by decide +kernel) rfl dX6_tryFrom_13 ?_
  refine lv_icmp_lt (tgt := 37) S.1 S.2.1 dX6_tryFrom_16 (by decide) (fun c => absurd c (by decide)) (fun _ => ?_)
  refine lv_aload_n S.1 S.2.1 dX6_tryFrom_19 rfl (lv_at hl 0 rfl) ?_
  refine lv_aload_n S.1 S.2.1 dX6_tryFrom_20 rfl (lv_at hl 0 rfl) ?_
  refine gx_get (C := RX6) (T := TX6) (N := 2) S hG h1 i_X6_tryFrom_X6 rfl 1 (by decide) (by decide +kernel) rfl dX6_tryFrom_21 ?_
  refine lv_aload_n S.1 S.2.1 dX6_tryFrom_24 rfl (lv_at hl 0 rfl) ?_
  refine lv_aload_n S.1 S.2.1 dX6_tryFrom_25 rfl (lv_at hl 1 rfl) ?_
  refine lv_aload_n S.1 S.2.1 dX6_tryFrom_26 rfl (lv_at hl 2 rfl) ?_
  refine fx_cVi (As := [.ref (N0 + 157), .ref (N0 + 150)]) (rest := [.int 4, .ref (N0 + 63)]) S hG (k1353_X6_costOfTried (by omega) h0 h2 h1 h3 h4 h5 h6 h7) h1 rfl (cwV 2 S.2.2.2.2 gX6_tryFrom_X6_costOfTried rfl rfl rfl (by decide +kernel) ⟨Nat.le_of_ble_eq_true rfl, Nat.le_of_ble_eq_true rfl⟩) rfl hl.1 rfl (Nat.le_of_ble_eq_true rfl) dX6_tryFrom_27 ⟨Nat.le_of_ble_eq_true rfl, Nat.le_of_ble_eq_true rfl⟩ (fun rv_1 _ H locs hp hG => ?_)
  subst rv_1
  refine gx_mmin S hl.1 (by decide +kernel) (by decide +kernel) (by decide +kernel) (by decide +kernel) (Nat.le_of_ble_eq_true rfl) (Nat.le_of_ble_eq_true rfl) (by decide) (by decide) dX6_tryFrom_30 ?_
  refine fx_topi (y := 0) (by decide) ?_
  refine gx_put (C := RX6) (T := TX6) (N := 2) (ty := .int) (v := .int 0) (fs' := [.ref (N0 + 64), .int 0]) S hG h1 i_X6_tryFrom_X6 rfl 1 (by decide) tyX6 tyX6_ok nmX6 (by decide +kernel) rfl (by decide +kernel) rfl rfl (Nat.le_of_ble_eq_true rfl) rfl dX6_tryFrom_33 (fun H locs hG => ?_)
  exact fx_vret S hr hlocks () hG trivial dX6_tryFrom_36
theorem k1355_X6_leastCost {n : Nat} (hn : N0 + 231 ≤ n) (h0 : F (N0 + 63) = some (.inr (8, [.ref (N0 + 64), .int 0]))) (h1 : F (N0 + 64) = some (.inl (cI, 7, .inl (fun _ => 0)))) (h2 : F (N0 + 157) = some (.inr (7, [.ref (N0 + 158), .ref (N0 + 159), .ref (N0 + 160), .ref (N0 + 161), .ref (N0 + 162), .ref (N0 + 163), .int 1]))) (h3 : F (N0 + 150) = some (.inr (7, [.ref (N0 + 151), .ref (N0 + 152), .ref (N0 + 153), .ref (N0 + 154), .ref (N0 + 155), .ref (N0 + 156), .int 1]))) (h4 : F (N0 + 158) = some (.inl (cC, 20, .inl (upd (fun _ => 0) 0 97)))) (h5 : F (N0 + 151) = some (.inl (cC, 20, .inl (upd (fun _ => 0) 0 97)))) (h6 : F (N0 + 160) = some (.inl (cI, 20, .inl (fun _ => 0)))) (h7 : F (N0 + 153) = some (.inl (cI, 20, .inl (fun _ => 0)))) : Met l yX6_leastCost wsX6_leastCost ({ frames := 3, cells := 0, slots := 0, locals := 73 }) (va_Pc [.ref (N0 + 63), .ref (N0 + 157), .ref (N0 + 150)] (fP N0 D vwCl (fty cI cC cL cD cII cTr cTm cIt cB) (fen ql) F n)) (fQi N0 D vwCl (fty cI cC cL cD cII cTr cTm cIt cB) (fun (r : Int32) (_ : Unit) => r = 0) (fun _ => (fu (fu F (N0 + 64) (.inl (cI, 7, .inl (upd (fun _ => 0) 0 0)))) (N0 + 63) (.inr (8, [.ref (N0 + 64), .int 0])))) (fun _ => n)) 0 0 (fA N0) := by
  refine fx_start 3 rfl rfl (Nat.le_of_ble_eq_true rfl) ?_ rfl
  intro p e s m below meth c ls S hr hlocks hin hG hl
  have hl : lv_has ls 3 [(0, .ref (N0 + 63)), (1, .ref (N0 + 157)), (2, .ref (N0 + 150))] := hl
  have lt_h0 := hG.1.lt h0
  have lt_h1 := hG.1.lt h1
  have lt_h2 := hG.1.lt h2
  have lt_h3 := hG.1.lt h3
  have lt_h4 := hG.1.lt h4
  have lt_h5 := hG.1.lt h5
  have lt_h6 := hG.1.lt h6
  have lt_h7 := hG.1.lt h7
  refine lv_aload_n S.1 S.2.1 dX6_leastCost_0 rfl (lv_at hl 0 rfl) ?_
  refine gx_get (C := RX6) (T := TX6) (N := 2) S hG h0 i_X6_leastCost_X6 rfl 0 (by decide) (by decide +kernel) rfl dX6_leastCost_1 ?_
  refine lv_iconst (v := 0) S.1 S.2.1 dX6_leastCost_4 (by decide) ?_
  refine lv_iconst (v := 0) S.1 S.2.1 dX6_leastCost_5 (by decide) ?_
  refine gx_iast (f' := upd (fun _ => 0) 0 0) S hG 0 h1 rfl (fin_l (by decide)) dX6_leastCost_6 (rfl) (fun H locs hG => ?_)
  refine lv_aload_n S.1 S.2.1 dX6_leastCost_7 rfl (lv_at hl 0 rfl) ?_
  refine lv_iconst (v := 2) S.1 S.2.1 dX6_leastCost_8 (by decide) ?_
  refine lv_aload_n S.1 S.2.1 dX6_leastCost_9 rfl (lv_at hl 1 rfl) ?_
  refine gx_get (C := RX5) (T := TX5) (N := 7) S hG (fu_at (by omega) h2) i_X6_leastCost_X5 rfl 6 (by decide) (by decide +kernel) rfl dX6_leastCost_10 ?_
  refine lv_aload_n S.1 S.2.1 dX6_leastCost_13 rfl (lv_at hl 2 rfl) ?_
  refine gx_get (C := RX5) (T := TX5) (N := 7) S hG (fu_at (by omega) h3) i_X6_leastCost_X5 rfl 6 (by decide) (by decide +kernel) rfl dX6_leastCost_14 ?_
  refine lv_iadd S.1 S.2.1 dX6_leastCost_17 ?_
  refine fx_topi (y := 2) (by decide) ?_
  refine lv_imul S.1 S.2.1 dX6_leastCost_18 ?_
  refine fx_topi (y := 4) (by decide) ?_
  refine gx_put (C := RX6) (T := TX6) (N := 2) (ty := .int) (v := .int 4) (fs' := [.ref (N0 + 64), .int 4]) S hG (fu_at (by omega) h0) i_X6_leastCost_X6 rfl 1 (by decide) tyX6 tyX6_ok nmX6 (by decide +kernel) rfl (by decide +kernel) rfl rfl (Nat.le_of_ble_eq_true rfl) rfl dX6_leastCost_19 (fun H locs hG => ?_)
  refine lv_aload_n S.1 S.2.1 dX6_leastCost_22 rfl (lv_at hl 0 rfl) ?_
  refine lv_aload_n S.1 S.2.1 dX6_leastCost_23 rfl (lv_at hl 1 rfl) ?_
  refine lv_aload_n S.1 S.2.1 dX6_leastCost_24 rfl (lv_at hl 2 rfl) ?_
  refine lv_iconst (v := 1) S.1 S.2.1 dX6_leastCost_25 (by decide) ?_
  refine fx_cSv (As := [.ref (N0 + 63), .ref (N0 + 157), .ref (N0 + 150), .int 1]) (rest := []) S hG (k1354_X6_tryFrom (by omega) (fu_at (by omega) (fu_at (by omega) h2)) fu_s (fu_at (by omega) (fu_at (by omega) h3)) (fu_at (by omega) fu_s) (fu_at (by omega) (fu_at (by omega) h4)) (fu_at (by omega) (fu_at (by omega) h5)) (fu_at (by omega) (fu_at (by omega) h6)) (fu_at (by omega) (fu_at (by omega) h7))) (cwS 4 S.2.2.2.2 gX6_leastCost_X6_tryFrom rfl rfl rfl (by decide +kernel) ⟨Nat.le_of_ble_eq_true rfl, Nat.le_of_ble_eq_true rfl⟩) rfl hl.1 rfl (Nat.le_of_ble_eq_true rfl) dX6_leastCost_26 ⟨Nat.le_of_ble_eq_true rfl, Nat.le_of_ble_eq_true rfl⟩ (fun _ H locs hp hG => ?_)
  refine lv_aload_n S.1 S.2.1 dX6_leastCost_29 rfl (lv_at hl 0 rfl) ?_
  refine gx_get (C := RX6) (T := TX6) (N := 2) S hG fu_s i_X6_leastCost_X6 rfl 1 (by decide) (by decide +kernel) rfl dX6_leastCost_30 ?_
  have hG : fG N0 D vwCl (fty cI cC cL cD cII cTr cTm cIt cB) (fen ql) s (fu (fu F (N0 + 64) (.inl (cI, 7, .inl (upd (fun _ => 0) 0 0)))) (N0 + 63) (.inr (8, [.ref (N0 + 64), .int 0]))) n H locs := hG.weak (fun a e h => by
    rcases fu_cases h with ⟨rfl, he⟩ | ⟨hne0, h⟩
    · cases he; exact fu_s
    · skip
      rcases fu_cases h with ⟨rfl, he⟩ | ⟨hne1, h⟩
      · cases he; exact (fu_at (by omega) (fu_at (by omega) fu_s))
      · exact (fu_at (by omega) (fu_at (by omega) (fu_at (by omega) h))))
  exact fx_iret S hr hlocks () hG (rfl) dX6_leastCost_33
theorem k1356_X7_distanceByMatchings {n : Nat} (hn : N0 + 231 ≤ n) (h0 : F N0 = some (.inr (9, [.ref (N0 + 1), .ref (N0 + 2), .ref (N0 + 11), .ref (N0 + 13), .ref (N0 + 63), .ref (N0 + 65), .ref (N0 + 85), .int (-1), .int (-1), .int 32]))) (h1 : F (N0 + 1) = some (.inl (cTr, 3, .inr (.inr (.inr (.inr (va_up (va_up (va_up (fun _ => none) 0 (some (N0 + 143))) 1 (some (N0 + 150))) 2 (some (N0 + 157))))))))) (h2 : F (N0 + 157) = some (.inr (7, [.ref (N0 + 158), .ref (N0 + 159), .ref (N0 + 160), .ref (N0 + 161), .ref (N0 + 162), .ref (N0 + 163), .int 1]))) (h3 : F (N0 + 150) = some (.inr (7, [.ref (N0 + 151), .ref (N0 + 152), .ref (N0 + 153), .ref (N0 + 154), .ref (N0 + 155), .ref (N0 + 156), .int 1]))) (h4 : F (N0 + 63) = some (.inr (8, [.ref (N0 + 64), .int 0]))) (h5 : F (N0 + 64) = some (.inl (cI, 7, .inl (fun _ => 0)))) (h6 : F (N0 + 158) = some (.inl (cC, 20, .inl (upd (fun _ => 0) 0 97)))) (h7 : F (N0 + 151) = some (.inl (cC, 20, .inl (upd (fun _ => 0) 0 97)))) (h8 : F (N0 + 160) = some (.inl (cI, 20, .inl (fun _ => 0)))) (h9 : F (N0 + 153) = some (.inl (cI, 20, .inl (fun _ => 0)))) : Met l yX7_distanceByMatchings wsX7_distanceByMatchings ({ frames := 4, cells := 0, slots := 0, locals := 95 }) (va_Pc [.ref N0, .int 2, .int 1] (fP N0 D vwCl (fty cI cC cL cD cII cTr cTm cIt cB) (fen ql) F n)) (fQi N0 D vwCl (fty cI cC cL cD cII cTr cTm cIt cB) (fun (r : Int32) (_ : Unit) => r = 0) (fun _ => (fu (fu F (N0 + 64) (.inl (cI, 7, .inl (upd (fun _ => 0) 0 0)))) (N0 + 63) (.inr (8, [.ref (N0 + 64), .int 0])))) (fun _ => n)) 0 0 (fA N0) := by
  refine fx_start 5 rfl rfl (Nat.le_of_ble_eq_true rfl) ?_ rfl
  intro p e s m below meth c ls S hr hlocks hin hG hl
  have hl : lv_has ls 5 [(0, .ref N0), (1, .int 2), (2, .int 1)] := hl
  have lt_h0 := hG.1.lt h0
  have lt_h1 := hG.1.lt h1
  have lt_h2 := hG.1.lt h2
  have lt_h3 := hG.1.lt h3
  have lt_h4 := hG.1.lt h4
  have lt_h5 := hG.1.lt h5
  have lt_h6 := hG.1.lt h6
  have lt_h7 := hG.1.lt h7
  have lt_h8 := hG.1.lt h8
  have lt_h9 := hG.1.lt h9
  refine lv_aload_n S.1 S.2.1 dX7_distanceByMatchings_0 rfl (lv_at hl 0 rfl) ?_
  refine lv_iload_n S.1 S.2.1 dX7_distanceByMatchings_1 rfl (lv_at hl 1 rfl) ?_
  refine fx_cVr (As := [.int 2]) (rest := []) S hG (k48_X7_treeAt (by omega) h0 h1) h0 rfl (cwV 1 S.2.2.2.2 gX7_distanceByMatchings_X7_treeAt rfl rfl rfl (by decide +kernel) ⟨Nat.le_of_ble_eq_true rfl, Nat.le_of_ble_eq_true rfl⟩) rfl hl.1 rfl (Nat.le_of_ble_eq_true rfl) dX7_distanceByMatchings_2 ⟨Nat.le_of_ble_eq_true rfl, Nat.le_of_ble_eq_true rfl⟩ (fun rv_1 _ H locs hp hG => ?_)
  subst rv_1
  refine lv_astore_n (lv' := [(3, .ref (N0 + 157)), (0, .ref N0), (1, .int 2), (2, .int 1)]) S.1 S.2.1 dX7_distanceByMatchings_5 rfl hl (by decide) rfl (fun ls hl => ?_)
  refine lv_aload_n S.1 S.2.1 dX7_distanceByMatchings_6 rfl (lv_at hl 1 rfl) ?_
  refine lv_iload_n S.1 S.2.1 dX7_distanceByMatchings_7 rfl (lv_at hl 3 rfl) ?_
  refine fx_cVr (As := [.int 1]) (rest := []) S hG (k42_X7_treeAt (by omega) h0 h1) h0 rfl (cwV 1 S.2.2.2.2 gX7_distanceByMatchings_X7_treeAt rfl rfl rfl (by decide +kernel) ⟨Nat.le_of_ble_eq_true rfl, Nat.le_of_ble_eq_true rfl⟩) rfl hl.1 rfl (Nat.le_of_ble_eq_true rfl) dX7_distanceByMatchings_8 ⟨Nat.le_of_ble_eq_true rfl, Nat.le_of_ble_eq_true rfl⟩ (fun rv_2 _ H locs hp hG => ?_)
  subst rv_2
  refine lv_astore (lv' := [(4, .ref (N0 + 150)), (3, .ref (N0 + 157)), (0, .ref N0), (1, .int 2), (2, .int 1)]) S.1 S.2.1 dX7_distanceByMatchings_11 hl (by decide) rfl (fun ls hl => ?_)
  refine lv_aload_n S.1 S.2.1 dX7_distanceByMatchings_13 rfl (lv_at hl 1 rfl) ?_
  refine gx_get (C := RX5) (T := TX5) (N := 7) S hG h2 i_X7_distanceByMatchings_X5 rfl 6 (by decide) (by decide +kernel) rfl dX7_distanceByMatchings_14 ?_
  refine lv_bipush (v := 7) S.1 S.2.1 dX7_distanceByMatchings_17 (by decide) ?_
  refine lv_icmp_gt (tgt := 32) S.1 S.2.1 dX7_distanceByMatchings_19 (by decide) (fun c => absurd c (by decide)) (fun _ => ?_)
  refine lv_aload S.1 S.2.1 dX7_distanceByMatchings_22 (lv_at hl 0 rfl) ?_
  refine gx_get (C := RX5) (T := TX5) (N := 7) S hG h3 i_X7_distanceByMatchings_X5 rfl 6 (by decide) (by decide +kernel) rfl dX7_distanceByMatchings_24 ?_
  refine lv_bipush (v := 7) S.1 S.2.1 dX7_distanceByMatchings_27 (by decide) ?_
  refine lv_icmp_le (tgt := 42) S.1 S.2.1 dX7_distanceByMatchings_29 (by decide) (fun _ => ?_) (fun c => absurd (by decide) c)
  refine lv_aload_n S.1 S.2.1 dX7_distanceByMatchings_42 rfl (lv_at hl 2 rfl) ?_
  refine gx_get (C := RX7) (T := TX7) (N := 10) S hG h0 i_X7_distanceByMatchings_X7 rfl 4 (by decide) (by decide +kernel) rfl dX7_distanceByMatchings_43 ?_
  refine lv_aload_n S.1 S.2.1 dX7_distanceByMatchings_46 rfl (lv_at hl 1 rfl) ?_
  refine lv_aload S.1 S.2.1 dX7_distanceByMatchings_47 (lv_at hl 0 rfl) ?_
  refine fx_cVi (As := [.ref (N0 + 157), .ref (N0 + 150)]) (rest := []) S hG (k1355_X6_leastCost (by omega) h4 h5 h2 h3 h6 h7 h8 h9) h4 rfl (cwV 2 S.2.2.2.2 gX7_distanceByMatchings_X6_leastCost rfl rfl rfl (by decide +kernel) ⟨Nat.le_of_ble_eq_true rfl, Nat.le_of_ble_eq_true rfl⟩) rfl hl.1 rfl (Nat.le_of_ble_eq_true rfl) dX7_distanceByMatchings_49 ⟨Nat.le_of_ble_eq_true rfl, Nat.le_of_ble_eq_true rfl⟩ (fun rv_3 _ H locs hp hG => ?_)
  subst rv_3
  exact fx_iret S hr hlocks () hG (rfl) dX7_distanceByMatchings_52
theorem k1357_L_distanceByMatchings {n : Nat} (hn : N0 + 231 ≤ n) (h0 : F N0 = some (.inr (9, [.ref (N0 + 1), .ref (N0 + 2), .ref (N0 + 11), .ref (N0 + 13), .ref (N0 + 63), .ref (N0 + 65), .ref (N0 + 85), .int (-1), .int (-1), .int 32]))) (h1 : F (N0 + 1) = some (.inl (cTr, 3, .inr (.inr (.inr (.inr (va_up (va_up (va_up (fun _ => none) 0 (some (N0 + 143))) 1 (some (N0 + 150))) 2 (some (N0 + 157))))))))) (h2 : F (N0 + 157) = some (.inr (7, [.ref (N0 + 158), .ref (N0 + 159), .ref (N0 + 160), .ref (N0 + 161), .ref (N0 + 162), .ref (N0 + 163), .int 1]))) (h3 : F (N0 + 150) = some (.inr (7, [.ref (N0 + 151), .ref (N0 + 152), .ref (N0 + 153), .ref (N0 + 154), .ref (N0 + 155), .ref (N0 + 156), .int 1]))) (h4 : F (N0 + 63) = some (.inr (8, [.ref (N0 + 64), .int 0]))) (h5 : F (N0 + 64) = some (.inl (cI, 7, .inl (fun _ => 0)))) (h6 : F (N0 + 158) = some (.inl (cC, 20, .inl (upd (fun _ => 0) 0 97)))) (h7 : F (N0 + 151) = some (.inl (cC, 20, .inl (upd (fun _ => 0) 0 97)))) (h8 : F (N0 + 160) = some (.inl (cI, 20, .inl (fun _ => 0)))) (h9 : F (N0 + 153) = some (.inl (cI, 20, .inl (fun _ => 0)))) (h10 : F (N0 + 229) = some (.inl (cL, 1, .inr (.inl (fun _ => 0))))) : Met l yL_distanceByMatchings wsL_distanceByMatchings ({ frames := 5, cells := 0, slots := 0, locals := 119 }) (va_Pc [.ref N0, .int 2, .int 1, .ref (N0 + 229)] (fP N0 D vwCl (fty cI cC cL cD cII cTr cTm cIt cB) (fen ql) F n)) (fQi N0 D vwCl (fty cI cC cL cD cII cTr cTm cIt cB) (fun (r : Int32) (_ : Unit) => r = 0) (fun _ => (fu (fu (fu F (N0 + 64) (.inl (cI, 7, .inl (upd (fun _ => 0) 0 0)))) (N0 + 63) (.inr (8, [.ref (N0 + 64), .int 0]))) (N0 + 229) (.inl (cL, 1, .inr (.inl (vp_updL (fun _ => 0) 0 0)))))) (fun _ => n)) 0 0 (fA N0) := by
  refine fx_startW (hh := [(0, 10, 13, 19), (0, 10, 17, 47)]) 5 rfl rfl (Nat.le_of_ble_eq_true rfl) ?_ rfl
  intro p e s m below meth c ls S htab hr hlocks hG hl
  have hl : lv_has ls 5 [(0, .ref N0), (1, .int 2), (2, .int 1), (3, .ref (N0 + 229))] := hl
  have lt_h0 := hG.1.lt h0
  have lt_h1 := hG.1.lt h1
  have lt_h2 := hG.1.lt h2
  have lt_h3 := hG.1.lt h3
  have lt_h4 := hG.1.lt h4
  have lt_h5 := hG.1.lt h5
  have lt_h6 := hG.1.lt h6
  have lt_h7 := hG.1.lt h7
  have lt_h8 := hG.1.lt h8
  have lt_h9 := hG.1.lt h9
  have lt_h10 := hG.1.lt h10
  refine lv_aload_n S.1 S.2.1 dL_distanceByMatchings_0 rfl (lv_at hl 3 rfl) ?_
  refine lv_iconst (v := 0) S.1 S.2.1 dL_distanceByMatchings_1 (by decide) ?_
  refine lv_aload_n S.1 S.2.1 dL_distanceByMatchings_2 rfl (lv_at hl 0 rfl) ?_
  refine lv_iload_n S.1 S.2.1 dL_distanceByMatchings_3 rfl (lv_at hl 1 rfl) ?_
  refine lv_iload_n S.1 S.2.1 dL_distanceByMatchings_4 rfl (lv_at hl 2 rfl) ?_
  refine fx_cVi (As := [.int 2, .int 1]) (rest := [.int 0, .ref (N0 + 229)]) S hG (k1356_X7_distanceByMatchings (by omega) h0 h1 h2 h3 h4 h5 h6 h7 h8 h9) h0 rfl (cwV 2 S.2.2.2.2 gL_distanceByMatchings_X7_distanceByMatchings rfl rfl rfl (by decide +kernel) ⟨Nat.le_of_ble_eq_true rfl, Nat.le_of_ble_eq_true rfl⟩) rfl hl.1 rfl (Nat.le_of_ble_eq_true rfl) dL_distanceByMatchings_5 ⟨Nat.le_of_ble_eq_true rfl, Nat.le_of_ble_eq_true rfl⟩ (fun rv_1 _ H locs hp hG => ?_)
  subst rv_1
  refine lv_i2l (v := 0) S.1 S.2.1 dL_distanceByMatchings_8 (by decide) ?_
  refine gx_last (f' := vp_updL (fun _ => 0) 0 0) S hG 2 (fu_at (by omega) (fu_at (by omega) h10)) rfl (fin_l (by decide)) dL_distanceByMatchings_9 rfl (fun H locs hG => ?_)
  refine lv_goto (tgt := 21) S.1 S.2.1 dL_distanceByMatchings_10 (by decide) ?_
  refine lv_iconst (v := 0) S.1 S.2.1 dL_distanceByMatchings_21 (by decide) ?_
  exact fx_iret S hr hlocks () hG (rfl) dL_distanceByMatchings_22
theorem k1358_X10_distanceByMatchings {n : Nat} (hn : N0 + 231 ≤ n) (h0 : F (N0 + 164) = some (.inr (12, [.ref (N0 + 165), .int 0, .ref (N0 + 181), .int 0, .int 0, .int 0, .int (-1), .ref (ql 24), .ref (N0 + 182), .ref (N0 + 187), .ref (N0 + 208), .ref (N0 + 209), .ref (N0 + 210), .ref (N0 + 211), .ref (N0 + 212), .int 0, .ref (N0 + 213), .ref (N0 + 218), .ref (N0 + 223), .ref (N0 + 224), .ref (N0 + 225), .ref (N0 + 226), .ref (N0 + 227), .int 0, .int 0, .ref (N0 + 228), .null, .int (-1), .int 0, .int 0, .int 0]))) (h1 : F (N0 + 165) = some (.inl (cTm, 3, .inr (.inr (.inr (.inr (va_up (va_up (va_up (fun _ => none) 0 (some (N0 + 166))) 1 (some (N0 + 171))) 2 (some (N0 + 176))))))))) (h2 : F (N0 + 176) = some (.inr (11, [.ref (N0 + 177), .ref (N0 + 178), .ref (N0 + 179), .ref (N0 + 180), .int 1]))) (h3 : F (N0 + 171) = some (.inr (11, [.ref (N0 + 172), .ref (N0 + 173), .ref (N0 + 174), .ref (N0 + 175), .int 1]))) (h4 : F (N0 + 177) = some (.inl (cI, 20, .inl (upd (fun _ => 0) 0 97)))) (h5 : F (N0 + 172) = some (.inl (cI, 20, .inl (upd (fun _ => 0) 0 97)))) (h6 : F (N0 + 179) = some (.inl (cI, 20, .inl (upd (fun _ => 0) 0 0)))) (h7 : F (N0 + 174) = some (.inl (cI, 20, .inl (upd (fun _ => 0) 0 0)))) (h8 : F (N0 + 187) = some (.inl (cII, 20, .inr (.inr (.inr (.inr (fun j => if j < 20 then some ((N0 + 188) + j) else none))))))) (h9 : F (N0 + 188) = some (.inl (cI, 20, .inl (fun _ => 0)))) : Met l yX10_distanceByMatchings wsX10_distanceByMatchings ({ frames := 3, cells := 4, slots := 2, locals := 72 }) (va_Pc [.ref (N0 + 164), .int 2, .int 1] (fP N0 D vwCl (fty cI cC cL cD cII cTr cTm cIt cB) (fen ql) F n)) (fQi N0 D vwCl (fty cI cC cL cD cII cTr cTm cIt cB) (fun (r : Int32) (_ : Unit) => r = 0) (fun _ => (fblk (fu (fu F (N0 + 164) (.inr (12, [.ref (N0 + 165), .int 0, .ref (N0 + 181), .int 0, .int 0, .int 0, .int (-1), .ref (ql 24), .ref (N0 + 182), .ref (N0 + 187), .ref (N0 + 208), .ref (N0 + 209), .ref (N0 + 210), .ref (N0 + 211), .ref (N0 + 212), .int 0, .ref (N0 + 213), .ref (N0 + 218), .ref (N0 + 223), .ref (N0 + 224), .ref (N0 + 225), .ref (N0 + 226), .ref (N0 + 227), .int 0, .int 0, .ref (N0 + 228), .null, .int (-1), .int 0, .int 0, .int 0]))) (N0 + 188) (.inl (cI, 20, .inl (upd (fun _ => 0) 0 0)))) n [.inl (cI, 0, .inl (fun _ => 0)), .inl (cI, 0, .inl (fun _ => 0)), .inl (cII, 1, .inr (.inr (.inr (.inr (fun j => if j < 1 then some ((n + 3) + j) else none))))), .inl (cI, 1, .inl (fun _ => 0))])) (fun _ => (n + 4))) 4 2 (fA N0) := by
  refine fx_start 3 rfl rfl (Nat.le_of_ble_eq_true rfl) ?_ rfl
  intro p e s m below meth c ls S hr hlocks hin hG hl
  have hl : lv_has ls 3 [(0, .ref (N0 + 164)), (1, .int 2), (2, .int 1)] := hl
  have lt_h0 := hG.1.lt h0
  have lt_h1 := hG.1.lt h1
  have lt_h2 := hG.1.lt h2
  have lt_h3 := hG.1.lt h3
  have lt_h4 := hG.1.lt h4
  have lt_h5 := hG.1.lt h5
  have lt_h6 := hG.1.lt h6
  have lt_h7 := hG.1.lt h7
  have lt_h8 := hG.1.lt h8
  have lt_h9 := hG.1.lt h9
  refine lv_aload_n S.1 S.2.1 dX10_distanceByMatchings_0 rfl (lv_at hl 0 rfl) ?_
  refine lv_iload_n S.1 S.2.1 dX10_distanceByMatchings_1 rfl (lv_at hl 1 rfl) ?_
  refine lv_iload_n S.1 S.2.1 dX10_distanceByMatchings_2 rfl (lv_at hl 2 rfl) ?_
  refine fx_cVi (As := [.int 2, .int 1]) (rest := []) S hG (k524_X10_areNone (by omega) h0) h0 rfl (cwV 2 S.2.2.2.2 gX10_distanceByMatchings_X10_areNone rfl rfl rfl (by decide +kernel) ⟨Nat.le_of_ble_eq_true rfl, Nat.le_of_ble_eq_true rfl⟩) rfl hl.1 rfl (Nat.le_of_ble_eq_true rfl) dX10_distanceByMatchings_3 ⟨Nat.le_of_ble_eq_true rfl, Nat.le_of_ble_eq_true rfl⟩ (fun rv_1 _ H locs hp hG => ?_)
  subst rv_1
  refine lv_if_eq (tgt := 11) S.1 S.2.1 dX10_distanceByMatchings_6 (by decide) (fun _ => ?_) (fun c => absurd (by decide) c)
  refine lv_aload_n S.1 S.2.1 dX10_distanceByMatchings_11 rfl (lv_at hl 0 rfl) ?_
  refine gx_get (C := RX10) (T := TX10) (N := 31) S hG fu_s i_X10_distanceByMatchings_X10 rfl 0 (by decide) (by decide +kernel) rfl dX10_distanceByMatchings_12 ?_
  refine lv_iload_n S.1 S.2.1 dX10_distanceByMatchings_15 rfl (lv_at hl 1 rfl) ?_
  refine gx_aldq (x := (N0 + 176)) S hG 6 rfl (fu_at (by omega) h1) rfl (fin_l (by decide)) (rfl) dX10_distanceByMatchings_16 ?_
  refine gx_getN (C := RX9) (T := TX9) (N := 5) S hG (fu_at (by omega) h2) i_X10_distanceByMatchings_X9 rfl 4 (by decide) (List.mem_of_getElem? (i := 4) rfl) rfl dX10_distanceByMatchings_17 ?_
  refine lv_bipush (v := 7) S.1 S.2.1 dX10_distanceByMatchings_20 (by decide) ?_
  refine lv_icmp_gt (tgt := 39) S.1 S.2.1 dX10_distanceByMatchings_22 (by decide) (fun c => absurd c (by decide)) (fun _ => ?_)
  refine lv_aload_n S.1 S.2.1 dX10_distanceByMatchings_25 rfl (lv_at hl 0 rfl) ?_
  refine gx_get (C := RX10) (T := TX10) (N := 31) S hG fu_s i_X10_distanceByMatchings_X10 rfl 0 (by decide) (by decide +kernel) rfl dX10_distanceByMatchings_26 ?_
  refine lv_iload_n S.1 S.2.1 dX10_distanceByMatchings_29 rfl (lv_at hl 2 rfl) ?_
  refine gx_aldq (x := (N0 + 171)) S hG 6 rfl (fu_at (by omega) h1) rfl (fin_l (by decide)) (rfl) dX10_distanceByMatchings_30 ?_
  refine gx_getN (C := RX9) (T := TX9) (N := 5) S hG (fu_at (by omega) h3) i_X10_distanceByMatchings_X9 rfl 4 (by decide) (List.mem_of_getElem? (i := 4) rfl) rfl dX10_distanceByMatchings_31 ?_
  refine lv_bipush (v := 7) S.1 S.2.1 dX10_distanceByMatchings_34 (by decide) ?_
  refine lv_icmp_le (tgt := 47) S.1 S.2.1 dX10_distanceByMatchings_36 (by decide) (fun _ => ?_) (fun c => absurd (by decide) c)
  refine lv_aload_n S.1 S.2.1 dX10_distanceByMatchings_47 rfl (lv_at hl 0 rfl) ?_
  refine lv_aload_n S.1 S.2.1 dX10_distanceByMatchings_48 rfl (lv_at hl 0 rfl) ?_
  refine gx_get (C := RX10) (T := TX10) (N := 31) S hG fu_s i_X10_distanceByMatchings_X10 rfl 0 (by decide) (by decide +kernel) rfl dX10_distanceByMatchings_49 ?_
  refine lv_iload_n S.1 S.2.1 dX10_distanceByMatchings_52 rfl (lv_at hl 1 rfl) ?_
  refine gx_aldq (x := (N0 + 176)) S hG 6 rfl (fu_at (by omega) h1) rfl (fin_l (by decide)) (rfl) dX10_distanceByMatchings_53 ?_
  refine lv_aload_n S.1 S.2.1 dX10_distanceByMatchings_54 rfl (lv_at hl 0 rfl) ?_
  refine gx_get (C := RX10) (T := TX10) (N := 31) S hG fu_s i_X10_distanceByMatchings_X10 rfl 0 (by decide) (by decide +kernel) rfl dX10_distanceByMatchings_55 ?_
  refine lv_iload_n S.1 S.2.1 dX10_distanceByMatchings_58 rfl (lv_at hl 2 rfl) ?_
  refine gx_aldq (x := (N0 + 171)) S hG 6 rfl (fu_at (by omega) h1) rfl (fin_l (by decide)) (rfl) dX10_distanceByMatchings_59 ?_
  refine fx_cVi (As := [.ref (N0 + 176), .ref (N0 + 171)]) (rest := []) S hG (k1276_X10_fills (by omega) (fu_at (by omega) h2) (fu_at (by omega) h3) (fu_at (by omega) h4) (fu_at (by omega) h5) (fu_at (by omega) h6) (fu_at (by omega) h7) fu_s (fu_at (by omega) h8) (fu_at (by omega) h9)) fu_s rfl (cwV 2 S.2.2.2.2 gX10_distanceByMatchings_X10_fills rfl rfl rfl (by decide +kernel) ⟨Nat.le_of_ble_eq_true rfl, Nat.le_of_ble_eq_true rfl⟩) rfl hl.1 rfl (Nat.le_of_ble_eq_true rfl) dX10_distanceByMatchings_60 ⟨Nat.le_of_ble_eq_true rfl, Nat.le_of_ble_eq_true rfl⟩ (fun rv_2 _ H locs hp hG => ?_)
  subst rv_2
  refine W.widen (k := 4) (n := 2) (by decide) (by decide) ?_
  have hG : fG N0 D vwCl (fty cI cC cL cD cII cTr cTm cIt cB) (fen ql) s (fblk (fu (fu F (N0 + 164) (.inr (12, [.ref (N0 + 165), .int 0, .ref (N0 + 181), .int 0, .int 0, .int 0, .int (-1), .ref (ql 24), .ref (N0 + 182), .ref (N0 + 187), .ref (N0 + 208), .ref (N0 + 209), .ref (N0 + 210), .ref (N0 + 211), .ref (N0 + 212), .int 0, .ref (N0 + 213), .ref (N0 + 218), .ref (N0 + 223), .ref (N0 + 224), .ref (N0 + 225), .ref (N0 + 226), .ref (N0 + 227), .int 0, .int 0, .ref (N0 + 228), .null, .int (-1), .int 0, .int 0, .int 0]))) (N0 + 188) (.inl (cI, 20, .inl (upd (fun _ => 0) 0 0)))) n [.inl (cI, 0, .inl (fun _ => 0)), .inl (cI, 0, .inl (fun _ => 0)), .inl (cII, 1, .inr (.inr (.inr (.inr (fun j => if j < 1 then some ((n + 3) + j) else none))))), .inl (cI, 1, .inl (fun _ => 0))]) (n + 4) H locs := hG.weak (fun a e h => by
    rcases fblk_cases 4 rfl h with ⟨k, rfl, hlt, hk⟩ | ⟨hout, h⟩
    · rcases (show k = 0 ∨ k = 1 ∨ k = 2 ∨ k = 3 by omega) with rfl | rfl | rfl | rfl
      · cases (show some (.inl (cI, 0, .inl (fun _ => 0))) = some e from hk); exact (fblk_at 0 (by omega) rfl)
      · cases (show some (.inl (cI, 0, .inl (fun _ => 0))) = some e from hk); exact (fblk_at 1 (by omega) rfl)
      · cases (show some (.inl (cII, 1, .inr (.inr (.inr (.inr (fun j => if j < 1 then some ((n + 3) + j) else none)))))) = some e from hk); exact (fblk_at 2 (by omega) rfl)
      · cases (show some (.inl (cI, 1, .inl (fun _ => 0))) = some e from hk); exact (fblk_at 3 (by omega) rfl)
    · rcases fu_cases h with ⟨rfl, he⟩ | ⟨hne0, h⟩
      · cases he; exact (fblk_sk 4 rfl (by omega) fu_s)
      · skip
        rcases fu_cases h with ⟨rfl, he⟩ | ⟨hne1, h⟩
        · cases he; exact (fblk_sk 4 rfl (by omega) (fu_at (by omega) fu_s))
        · exact (fblk_sk 4 rfl (by omega) (fu_at (by omega) (fu_at (by omega) h))))
  exact fx_iret S hr hlocks () hG (rfl) dX10_distanceByMatchings_63
theorem k1359_X6_costOfTried {n : Nat} (hn : N0 + 231 ≤ n) (h0 : F (N0 + 157) = some (.inr (7, [.ref (N0 + 158), .ref (N0 + 159), .ref (N0 + 160), .ref (N0 + 161), .ref (N0 + 162), .ref (N0 + 163), .int 1]))) (h1 : F (N0 + 63) = some (.inr (8, [.ref (N0 + 64), .int 4]))) (h2 : F (N0 + 64) = some (.inl (cI, 7, .inl (upd (fun _ => 0) 0 0)))) (h3 : F (N0 + 158) = some (.inl (cC, 20, .inl (upd (fun _ => 0) 0 97)))) (h4 : F (N0 + 160) = some (.inl (cI, 20, .inl (fun _ => 0)))) : Met l yX6_costOfTried wsX6_costOfTried ({ frames := 1, cells := 0, slots := 0, locals := 24 }) (va_Pc [.ref (N0 + 63), .ref (N0 + 157), .ref (N0 + 157)] (fP N0 D vwCl (fty cI cC cL cD cII cTr cTm cIt cB) (fen ql) F n)) (fQi N0 D vwCl (fty cI cC cL cD cII cTr cTm cIt cB) (fun (r : Int32) (_ : Unit) => r = 0) (fun _ => F) (fun _ => n)) 0 0 (fA N0) := by
  refine fx_start 6 rfl rfl (Nat.le_of_ble_eq_true rfl) ?_ rfl
  intro p e s m below meth c ls S hr hlocks hin hG hl
  have hl : lv_has ls 6 [(0, .ref (N0 + 63)), (1, .ref (N0 + 157)), (2, .ref (N0 + 157))] := hl
  have lt_h0 := hG.1.lt h0
  have lt_h1 := hG.1.lt h1
  have lt_h2 := hG.1.lt h2
  have lt_h3 := hG.1.lt h3
  have lt_h4 := hG.1.lt h4
  refine lv_iconst (v := 2) S.1 S.2.1 dX6_costOfTried_0 (by decide) ?_
  refine lv_aload_n S.1 S.2.1 dX6_costOfTried_1 rfl (lv_at hl 1 rfl) ?_
  refine gx_get (C := RX5) (T := TX5) (N := 7) S hG h0 i_X6_costOfTried_X5 rfl 6 (by decide) (by decide +kernel) rfl dX6_costOfTried_2 ?_
  refine lv_aload_n S.1 S.2.1 dX6_costOfTried_5 rfl (lv_at hl 2 rfl) ?_
  refine gx_get (C := RX5) (T := TX5) (N := 7) S hG h0 i_X6_costOfTried_X5 rfl 6 (by decide) (by decide +kernel) rfl dX6_costOfTried_6 ?_
  refine lv_iadd S.1 S.2.1 dX6_costOfTried_9 ?_
  refine fx_topi (y := 2) (by decide) ?_
  refine lv_imul S.1 S.2.1 dX6_costOfTried_10 ?_
  refine fx_topi (y := 4) (by decide) ?_
  refine lv_istore_n (lv' := [(3, .int 4), (0, .ref (N0 + 63)), (1, .ref (N0 + 157)), (2, .ref (N0 + 157))]) S.1 S.2.1 dX6_costOfTried_11 rfl hl (by decide) rfl (fun ls hl => ?_)
  refine lv_iconst (v := 0) S.1 S.2.1 dX6_costOfTried_12 (by decide) ?_
  refine lv_istore (lv' := [(4, .int 0), (3, .int 4), (0, .ref (N0 + 63)), (1, .ref (N0 + 157)), (2, .ref (N0 + 157))]) S.1 S.2.1 dX6_costOfTried_13 hl (by decide) rfl (fun ls hl => ?_)
  refine lv_iload S.1 S.2.1 dX6_costOfTried_15 (lv_at hl 0 rfl) ?_
  refine lv_aload_n S.1 S.2.1 dX6_costOfTried_17 rfl (lv_at hl 3 rfl) ?_
  refine gx_get (C := RX5) (T := TX5) (N := 7) S hG h0 i_X6_costOfTried_X5 rfl 6 (by decide) (by decide +kernel) rfl dX6_costOfTried_18 ?_
  refine lv_icmp_ge (tgt := 66) S.1 S.2.1 dX6_costOfTried_21 (by decide) (fun c => absurd c (by decide)) (fun _ => ?_)
  refine lv_iload S.1 S.2.1 dX6_costOfTried_24 (lv_at hl 0 rfl) ?_
  refine lv_bipush (v := 7) S.1 S.2.1 dX6_costOfTried_26 (by decide) ?_
  refine lv_icmp_ge (tgt := 66) S.1 S.2.1 dX6_costOfTried_28 (by decide) (fun c => absurd c (by decide)) (fun _ => ?_)
  refine lv_aload_n S.1 S.2.1 dX6_costOfTried_31 rfl (lv_at hl 2 rfl) ?_
  refine gx_get (C := RX6) (T := TX6) (N := 2) S hG h1 i_X6_costOfTried_X6 rfl 0 (by decide) (by decide +kernel) rfl dX6_costOfTried_32 ?_
  refine lv_iload S.1 S.2.1 dX6_costOfTried_35 (lv_at hl 0 rfl) ?_
  refine gx_iald (v := 0) S hG 0 h2 rfl (fin_l (by decide)) (by decide) dX6_costOfTried_37 ?_
  refine lv_istore (lv' := [(5, .int 0), (4, .int 0), (3, .int 4), (0, .ref (N0 + 63)), (1, .ref (N0 + 157)), (2, .ref (N0 + 157))]) S.1 S.2.1 dX6_costOfTried_38 hl (by decide) rfl (fun ls hl => ?_)
  refine lv_iload S.1 S.2.1 dX6_costOfTried_40 (lv_at hl 0 rfl) ?_
  refine lv_iconst (v := (-1)) S.1 S.2.1 dX6_costOfTried_42 (by decide) ?_
  refine lv_icmp_eq (tgt := 60) S.1 S.2.1 dX6_costOfTried_43 (by decide) (fun c => absurd c (by decide)) (fun _ => ?_)
  refine lv_iload_n S.1 S.2.1 dX6_costOfTried_46 rfl (lv_at hl 2 rfl) ?_
  refine lv_aload_n S.1 S.2.1 dX6_costOfTried_47 rfl (lv_at hl 4 rfl) ?_
  refine lv_iload S.1 S.2.1 dX6_costOfTried_48 (lv_at hl 1 rfl) ?_
  refine lv_aload_n S.1 S.2.1 dX6_costOfTried_50 rfl (lv_at hl 5 rfl) ?_
  refine lv_iload S.1 S.2.1 dX6_costOfTried_51 (lv_at hl 0 rfl) ?_
  refine fx_cSNi (host := "TreeDiffer") (As := [.ref (N0 + 157), .int 0, .ref (N0 + 157), .int 0]) (rest := [.int 4]) S hG (k1280_X7_changeCost (by omega) h0 h3 h4) ⟨(va_cnB 4 S.2.2.2.2 gX6_costOfTried_X7_changeCost_n52 rfl rfl rfl (hG.nest (show _ ∈ fen2.2.2.1 from by decide)) (S.2.2.2.2 (.initialized RX7) (by decide +kernel)) (by decide +kernel) ⟨Nat.le_of_ble_eq_true rfl, Nat.le_of_ble_eq_true rfl⟩), S.2.2.2.2 (.static yX7_changeCost) (by decide +kernel), trivial⟩ rfl hl.1 rfl (Nat.le_of_ble_eq_true rfl) dX6_costOfTried_53 ⟨Nat.le_of_ble_eq_true rfl, Nat.le_of_ble_eq_true rfl⟩ (fun rv_1 _ H locs hp hG => ?_)
  subst rv_1
  refine lv_iconst (v := 4) S.1 S.2.1 dX6_costOfTried_56 (by decide) ?_
  refine lv_isub S.1 S.2.1 dX6_costOfTried_57 ?_
  refine fx_topi (y := (-4)) (by decide) ?_
  refine lv_iadd S.1 S.2.1 dX6_costOfTried_58 ?_
  refine fx_topi (y := 0) (by decide) ?_
  refine lv_istore_n (lv' := [(3, .int 0), (5, .int 0), (4, .int 0), (0, .ref (N0 + 63)), (1, .ref (N0 + 157)), (2, .ref (N0 + 157))]) S.1 S.2.1 dX6_costOfTried_59 rfl hl (by decide) rfl (fun ls hl => ?_)
  refine lv_iinc (v := 1) (lv' := [(4, .int 1), (3, .int 0), (5, .int 0), (0, .ref (N0 + 63)), (1, .ref (N0 + 157)), (2, .ref (N0 + 157))]) S.1 S.2.1 dX6_costOfTried_60 hl (k := 2) rfl (by decide) (by decide) rfl (fun ls hl => ?_)
  refine lv_goto (tgt := 15) S.1 S.2.1 dX6_costOfTried_63 (by decide) ?_
  refine lv_iload S.1 S.2.1 dX6_costOfTried_15 (lv_at hl 0 rfl) ?_
  refine lv_aload_n S.1 S.2.1 dX6_costOfTried_17 rfl (lv_at hl 4 rfl) ?_
  refine gx_get (C := RX5) (T := TX5) (N := 7) S hG h0 i_X6_costOfTried_X5 rfl 6 (by decide) (by decide +kernel) rfl dX6_costOfTried_18 ?_
  refine lv_icmp_ge (tgt := 66) S.1 S.2.1 dX6_costOfTried_21 (by decide) (fun _ => ?_) (fun c => absurd (by decide) c)
  refine lv_iload_n S.1 S.2.1 dX6_costOfTried_66 rfl (lv_at hl 1 rfl) ?_
  exact fx_iret S hr hlocks () hG (rfl) dX6_costOfTried_67
theorem k1360_X6_tryFrom {n : Nat} (hn : N0 + 231 ≤ n) (h0 : F (N0 + 157) = some (.inr (7, [.ref (N0 + 158), .ref (N0 + 159), .ref (N0 + 160), .ref (N0 + 161), .ref (N0 + 162), .ref (N0 + 163), .int 1]))) (h1 : F (N0 + 63) = some (.inr (8, [.ref (N0 + 64), .int 4]))) (h2 : F (N0 + 64) = some (.inl (cI, 7, .inl (upd (fun _ => 0) 0 0)))) (h3 : F (N0 + 158) = some (.inl (cC, 20, .inl (upd (fun _ => 0) 0 97)))) (h4 : F (N0 + 160) = some (.inl (cI, 20, .inl (fun _ => 0)))) : Met l yX6_tryFrom wsX6_tryFrom ({ frames := 2, cells := 0, slots := 0, locals := 49 }) (va_Pc [.ref (N0 + 63), .ref (N0 + 157), .ref (N0 + 157), .int 1] (fP N0 D vwCl (fty cI cC cL cD cII cTr cTm cIt cB) (fen ql) F n)) (fQv N0 D vwCl (fty cI cC cL cD cII cTr cTm cIt cB) (fun (_ : Unit) => True) (fun _ => (fu F (N0 + 63) (.inr (8, [.ref (N0 + 64), .int 0])))) (fun _ => n)) 0 0 (fA N0) := by
  refine fx_start 5 rfl rfl (Nat.le_of_ble_eq_true rfl) ?_ rfl
  intro p e s m below meth c ls S hr hlocks hin hG hl
  have hl : lv_has ls 5 [(0, .ref (N0 + 63)), (1, .ref (N0 + 157)), (2, .ref (N0 + 157)), (3, .int 1)] := hl
  have lt_h0 := hG.1.lt h0
  have lt_h1 := hG.1.lt h1
  have lt_h2 := hG.1.lt h2
  have lt_h3 := hG.1.lt h3
  have lt_h4 := hG.1.lt h4
  refine lv_iload_n S.1 S.2.1 dX6_tryFrom_0 rfl (lv_at hl 3 rfl) ?_
  refine lv_iconst (v := 1) S.1 S.2.1 dX6_tryFrom_1 (by decide) ?_
  refine lv_icmp_lt (tgt := 19) S.1 S.2.1 dX6_tryFrom_2 (by decide) (fun c => absurd c (by decide)) (fun _ => ?_)
  refine lv_iload_n S.1 S.2.1 dX6_tryFrom_5 rfl (lv_at hl 3 rfl) ?_
  refine lv_bipush (v := 7) S.1 S.2.1 dX6_tryFrom_6 (by decide) ?_
  refine lv_icmp_ge (tgt := 19) S.1 S.2.1 dX6_tryFrom_8 (by decide) (fun c => absurd c (by decide)) (fun _ => ?_)
  refine lv_iload_n S.1 S.2.1 dX6_tryFrom_11 rfl (lv_at hl 3 rfl) ?_
  refine lv_aload_n S.1 S.2.1 dX6_tryFrom_12 rfl (lv_at hl 1 rfl) ?_
  refine gx_get (C := RX5) (T := TX5) (N := 7) S hG h0 i_X6_tryFrom_X5 rfl 6 (by decide) (by decide +kernel) rfl dX6_tryFrom_13 ?_
  refine lv_icmp_lt (tgt := 37) S.1 S.2.1 dX6_tryFrom_16 (by decide) (fun c => absurd c (by decide)) (fun _ => ?_)
  refine lv_aload_n S.1 S.2.1 dX6_tryFrom_19 rfl (lv_at hl 0 rfl) ?_
  refine lv_aload_n S.1 S.2.1 dX6_tryFrom_20 rfl (lv_at hl 0 rfl) ?_
  refine gx_get (C := RX6) (T := TX6) (N := 2) S hG h1 i_X6_tryFrom_X6 rfl 1 (by decide) (by decide +kernel) rfl dX6_tryFrom_21 ?_
  refine lv_aload_n S.1 S.2.1 dX6_tryFrom_24 rfl (lv_at hl 0 rfl) ?_
  refine lv_aload_n S.1 S.2.1 dX6_tryFrom_25 rfl (lv_at hl 1 rfl) ?_
  refine lv_aload_n S.1 S.2.1 dX6_tryFrom_26 rfl (lv_at hl 2 rfl) ?_
  refine fx_cVi (As := [.ref (N0 + 157), .ref (N0 + 157)]) (rest := [.int 4, .ref (N0 + 63)]) S hG (k1359_X6_costOfTried (by omega) h0 h1 h2 h3 h4) h1 rfl (cwV 2 S.2.2.2.2 gX6_tryFrom_X6_costOfTried rfl rfl rfl (by decide +kernel) ⟨Nat.le_of_ble_eq_true rfl, Nat.le_of_ble_eq_true rfl⟩) rfl hl.1 rfl (Nat.le_of_ble_eq_true rfl) dX6_tryFrom_27 ⟨Nat.le_of_ble_eq_true rfl, Nat.le_of_ble_eq_true rfl⟩ (fun rv_1 _ H locs hp hG => ?_)
  subst rv_1
  refine gx_mmin S hl.1 (by decide +kernel) (by decide +kernel) (by decide +kernel) (by decide +kernel) (Nat.le_of_ble_eq_true rfl) (Nat.le_of_ble_eq_true rfl) (by decide) (by decide) dX6_tryFrom_30 ?_
  refine fx_topi (y := 0) (by decide) ?_
  refine gx_put (C := RX6) (T := TX6) (N := 2) (ty := .int) (v := .int 0) (fs' := [.ref (N0 + 64), .int 0]) S hG h1 i_X6_tryFrom_X6 rfl 1 (by decide) tyX6 tyX6_ok nmX6 (by decide +kernel) rfl (by decide +kernel) rfl rfl (Nat.le_of_ble_eq_true rfl) rfl dX6_tryFrom_33 (fun H locs hG => ?_)
  exact fx_vret S hr hlocks () hG trivial dX6_tryFrom_36
theorem k1361_X6_leastCost {n : Nat} (hn : N0 + 231 ≤ n) (h0 : F (N0 + 63) = some (.inr (8, [.ref (N0 + 64), .int 0]))) (h1 : F (N0 + 64) = some (.inl (cI, 7, .inl (fun _ => 0)))) (h2 : F (N0 + 157) = some (.inr (7, [.ref (N0 + 158), .ref (N0 + 159), .ref (N0 + 160), .ref (N0 + 161), .ref (N0 + 162), .ref (N0 + 163), .int 1]))) (h3 : F (N0 + 158) = some (.inl (cC, 20, .inl (upd (fun _ => 0) 0 97)))) (h4 : F (N0 + 160) = some (.inl (cI, 20, .inl (fun _ => 0)))) : Met l yX6_leastCost wsX6_leastCost ({ frames := 3, cells := 0, slots := 0, locals := 73 }) (va_Pc [.ref (N0 + 63), .ref (N0 + 157), .ref (N0 + 157)] (fP N0 D vwCl (fty cI cC cL cD cII cTr cTm cIt cB) (fen ql) F n)) (fQi N0 D vwCl (fty cI cC cL cD cII cTr cTm cIt cB) (fun (r : Int32) (_ : Unit) => r = 0) (fun _ => (fu (fu F (N0 + 64) (.inl (cI, 7, .inl (upd (fun _ => 0) 0 0)))) (N0 + 63) (.inr (8, [.ref (N0 + 64), .int 0])))) (fun _ => n)) 0 0 (fA N0) := by
  refine fx_start 3 rfl rfl (Nat.le_of_ble_eq_true rfl) ?_ rfl
  intro p e s m below meth c ls S hr hlocks hin hG hl
  have hl : lv_has ls 3 [(0, .ref (N0 + 63)), (1, .ref (N0 + 157)), (2, .ref (N0 + 157))] := hl
  have lt_h0 := hG.1.lt h0
  have lt_h1 := hG.1.lt h1
  have lt_h2 := hG.1.lt h2
  have lt_h3 := hG.1.lt h3
  have lt_h4 := hG.1.lt h4
  refine lv_aload_n S.1 S.2.1 dX6_leastCost_0 rfl (lv_at hl 0 rfl) ?_
  refine gx_get (C := RX6) (T := TX6) (N := 2) S hG h0 i_X6_leastCost_X6 rfl 0 (by decide) (by decide +kernel) rfl dX6_leastCost_1 ?_
  refine lv_iconst (v := 0) S.1 S.2.1 dX6_leastCost_4 (by decide) ?_
  refine lv_iconst (v := 0) S.1 S.2.1 dX6_leastCost_5 (by decide) ?_
  refine gx_iast (f' := upd (fun _ => 0) 0 0) S hG 0 h1 rfl (fin_l (by decide)) dX6_leastCost_6 (rfl) (fun H locs hG => ?_)
  refine lv_aload_n S.1 S.2.1 dX6_leastCost_7 rfl (lv_at hl 0 rfl) ?_
  refine lv_iconst (v := 2) S.1 S.2.1 dX6_leastCost_8 (by decide) ?_
  refine lv_aload_n S.1 S.2.1 dX6_leastCost_9 rfl (lv_at hl 1 rfl) ?_
  refine gx_get (C := RX5) (T := TX5) (N := 7) S hG (fu_at (by omega) h2) i_X6_leastCost_X5 rfl 6 (by decide) (by decide +kernel) rfl dX6_leastCost_10 ?_
  refine lv_aload_n S.1 S.2.1 dX6_leastCost_13 rfl (lv_at hl 2 rfl) ?_
  refine gx_get (C := RX5) (T := TX5) (N := 7) S hG (fu_at (by omega) h2) i_X6_leastCost_X5 rfl 6 (by decide) (by decide +kernel) rfl dX6_leastCost_14 ?_
  refine lv_iadd S.1 S.2.1 dX6_leastCost_17 ?_
  refine fx_topi (y := 2) (by decide) ?_
  refine lv_imul S.1 S.2.1 dX6_leastCost_18 ?_
  refine fx_topi (y := 4) (by decide) ?_
  refine gx_put (C := RX6) (T := TX6) (N := 2) (ty := .int) (v := .int 4) (fs' := [.ref (N0 + 64), .int 4]) S hG (fu_at (by omega) h0) i_X6_leastCost_X6 rfl 1 (by decide) tyX6 tyX6_ok nmX6 (by decide +kernel) rfl (by decide +kernel) rfl rfl (Nat.le_of_ble_eq_true rfl) rfl dX6_leastCost_19 (fun H locs hG => ?_)
  refine lv_aload_n S.1 S.2.1 dX6_leastCost_22 rfl (lv_at hl 0 rfl) ?_
  refine lv_aload_n S.1 S.2.1 dX6_leastCost_23 rfl (lv_at hl 1 rfl) ?_
  refine lv_aload_n S.1 S.2.1 dX6_leastCost_24 rfl (lv_at hl 2 rfl) ?_
  refine lv_iconst (v := 1) S.1 S.2.1 dX6_leastCost_25 (by decide) ?_
  refine fx_cSv (As := [.ref (N0 + 63), .ref (N0 + 157), .ref (N0 + 157), .int 1]) (rest := []) S hG (k1360_X6_tryFrom (by omega) (fu_at (by omega) (fu_at (by omega) h2)) fu_s (fu_at (by omega) fu_s) (fu_at (by omega) (fu_at (by omega) h3)) (fu_at (by omega) (fu_at (by omega) h4))) (cwS 4 S.2.2.2.2 gX6_leastCost_X6_tryFrom rfl rfl rfl (by decide +kernel) ⟨Nat.le_of_ble_eq_true rfl, Nat.le_of_ble_eq_true rfl⟩) rfl hl.1 rfl (Nat.le_of_ble_eq_true rfl) dX6_leastCost_26 ⟨Nat.le_of_ble_eq_true rfl, Nat.le_of_ble_eq_true rfl⟩ (fun _ H locs hp hG => ?_)
  refine lv_aload_n S.1 S.2.1 dX6_leastCost_29 rfl (lv_at hl 0 rfl) ?_
  refine gx_get (C := RX6) (T := TX6) (N := 2) S hG fu_s i_X6_leastCost_X6 rfl 1 (by decide) (by decide +kernel) rfl dX6_leastCost_30 ?_
  have hG : fG N0 D vwCl (fty cI cC cL cD cII cTr cTm cIt cB) (fen ql) s (fu (fu F (N0 + 64) (.inl (cI, 7, .inl (upd (fun _ => 0) 0 0)))) (N0 + 63) (.inr (8, [.ref (N0 + 64), .int 0]))) n H locs := hG.weak (fun a e h => by
    rcases fu_cases h with ⟨rfl, he⟩ | ⟨hne0, h⟩
    · cases he; exact fu_s
    · skip
      rcases fu_cases h with ⟨rfl, he⟩ | ⟨hne1, h⟩
      · cases he; exact (fu_at (by omega) (fu_at (by omega) fu_s))
      · exact (fu_at (by omega) (fu_at (by omega) (fu_at (by omega) h))))
  exact fx_iret S hr hlocks () hG (rfl) dX6_leastCost_33
theorem k1362_X7_distanceByMatchings {n : Nat} (hn : N0 + 231 ≤ n) (h0 : F N0 = some (.inr (9, [.ref (N0 + 1), .ref (N0 + 2), .ref (N0 + 11), .ref (N0 + 13), .ref (N0 + 63), .ref (N0 + 65), .ref (N0 + 85), .int (-1), .int (-1), .int 32]))) (h1 : F (N0 + 1) = some (.inl (cTr, 3, .inr (.inr (.inr (.inr (va_up (va_up (va_up (fun _ => none) 0 (some (N0 + 143))) 1 (some (N0 + 150))) 2 (some (N0 + 157))))))))) (h2 : F (N0 + 157) = some (.inr (7, [.ref (N0 + 158), .ref (N0 + 159), .ref (N0 + 160), .ref (N0 + 161), .ref (N0 + 162), .ref (N0 + 163), .int 1]))) (h3 : F (N0 + 63) = some (.inr (8, [.ref (N0 + 64), .int 0]))) (h4 : F (N0 + 64) = some (.inl (cI, 7, .inl (fun _ => 0)))) (h5 : F (N0 + 158) = some (.inl (cC, 20, .inl (upd (fun _ => 0) 0 97)))) (h6 : F (N0 + 160) = some (.inl (cI, 20, .inl (fun _ => 0)))) : Met l yX7_distanceByMatchings wsX7_distanceByMatchings ({ frames := 4, cells := 0, slots := 0, locals := 95 }) (va_Pc [.ref N0, .int 2, .int 2] (fP N0 D vwCl (fty cI cC cL cD cII cTr cTm cIt cB) (fen ql) F n)) (fQi N0 D vwCl (fty cI cC cL cD cII cTr cTm cIt cB) (fun (r : Int32) (_ : Unit) => r = 0) (fun _ => (fu (fu F (N0 + 64) (.inl (cI, 7, .inl (upd (fun _ => 0) 0 0)))) (N0 + 63) (.inr (8, [.ref (N0 + 64), .int 0])))) (fun _ => n)) 0 0 (fA N0) := by
  refine fx_start 5 rfl rfl (Nat.le_of_ble_eq_true rfl) ?_ rfl
  intro p e s m below meth c ls S hr hlocks hin hG hl
  have hl : lv_has ls 5 [(0, .ref N0), (1, .int 2), (2, .int 2)] := hl
  have lt_h0 := hG.1.lt h0
  have lt_h1 := hG.1.lt h1
  have lt_h2 := hG.1.lt h2
  have lt_h3 := hG.1.lt h3
  have lt_h4 := hG.1.lt h4
  have lt_h5 := hG.1.lt h5
  have lt_h6 := hG.1.lt h6
  refine lv_aload_n S.1 S.2.1 dX7_distanceByMatchings_0 rfl (lv_at hl 0 rfl) ?_
  refine lv_iload_n S.1 S.2.1 dX7_distanceByMatchings_1 rfl (lv_at hl 1 rfl) ?_
  refine fx_cVr (As := [.int 2]) (rest := []) S hG (k48_X7_treeAt (by omega) h0 h1) h0 rfl (cwV 1 S.2.2.2.2 gX7_distanceByMatchings_X7_treeAt rfl rfl rfl (by decide +kernel) ⟨Nat.le_of_ble_eq_true rfl, Nat.le_of_ble_eq_true rfl⟩) rfl hl.1 rfl (Nat.le_of_ble_eq_true rfl) dX7_distanceByMatchings_2 ⟨Nat.le_of_ble_eq_true rfl, Nat.le_of_ble_eq_true rfl⟩ (fun rv_1 _ H locs hp hG => ?_)
  subst rv_1
  refine lv_astore_n (lv' := [(3, .ref (N0 + 157)), (0, .ref N0), (1, .int 2), (2, .int 2)]) S.1 S.2.1 dX7_distanceByMatchings_5 rfl hl (by decide) rfl (fun ls hl => ?_)
  refine lv_aload_n S.1 S.2.1 dX7_distanceByMatchings_6 rfl (lv_at hl 1 rfl) ?_
  refine lv_iload_n S.1 S.2.1 dX7_distanceByMatchings_7 rfl (lv_at hl 3 rfl) ?_
  refine fx_cVr (As := [.int 2]) (rest := []) S hG (k48_X7_treeAt (by omega) h0 h1) h0 rfl (cwV 1 S.2.2.2.2 gX7_distanceByMatchings_X7_treeAt rfl rfl rfl (by decide +kernel) ⟨Nat.le_of_ble_eq_true rfl, Nat.le_of_ble_eq_true rfl⟩) rfl hl.1 rfl (Nat.le_of_ble_eq_true rfl) dX7_distanceByMatchings_8 ⟨Nat.le_of_ble_eq_true rfl, Nat.le_of_ble_eq_true rfl⟩ (fun rv_2 _ H locs hp hG => ?_)
  subst rv_2
  refine lv_astore (lv' := [(4, .ref (N0 + 157)), (3, .ref (N0 + 157)), (0, .ref N0), (1, .int 2), (2, .int 2)]) S.1 S.2.1 dX7_distanceByMatchings_11 hl (by decide) rfl (fun ls hl => ?_)
  refine lv_aload_n S.1 S.2.1 dX7_distanceByMatchings_13 rfl (lv_at hl 1 rfl) ?_
  refine gx_get (C := RX5) (T := TX5) (N := 7) S hG h2 i_X7_distanceByMatchings_X5 rfl 6 (by decide) (by decide +kernel) rfl dX7_distanceByMatchings_14 ?_
  refine lv_bipush (v := 7) S.1 S.2.1 dX7_distanceByMatchings_17 (by decide) ?_
  refine lv_icmp_gt (tgt := 32) S.1 S.2.1 dX7_distanceByMatchings_19 (by decide) (fun c => absurd c (by decide)) (fun _ => ?_)
  refine lv_aload S.1 S.2.1 dX7_distanceByMatchings_22 (lv_at hl 0 rfl) ?_
  refine gx_get (C := RX5) (T := TX5) (N := 7) S hG h2 i_X7_distanceByMatchings_X5 rfl 6 (by decide) (by decide +kernel) rfl dX7_distanceByMatchings_24 ?_
  refine lv_bipush (v := 7) S.1 S.2.1 dX7_distanceByMatchings_27 (by decide) ?_
  refine lv_icmp_le (tgt := 42) S.1 S.2.1 dX7_distanceByMatchings_29 (by decide) (fun _ => ?_) (fun c => absurd (by decide) c)
  refine lv_aload_n S.1 S.2.1 dX7_distanceByMatchings_42 rfl (lv_at hl 2 rfl) ?_
  refine gx_get (C := RX7) (T := TX7) (N := 10) S hG h0 i_X7_distanceByMatchings_X7 rfl 4 (by decide) (by decide +kernel) rfl dX7_distanceByMatchings_43 ?_
  refine lv_aload_n S.1 S.2.1 dX7_distanceByMatchings_46 rfl (lv_at hl 1 rfl) ?_
  refine lv_aload S.1 S.2.1 dX7_distanceByMatchings_47 (lv_at hl 0 rfl) ?_
  refine fx_cVi (As := [.ref (N0 + 157), .ref (N0 + 157)]) (rest := []) S hG (k1361_X6_leastCost (by omega) h3 h4 h2 h5 h6) h3 rfl (cwV 2 S.2.2.2.2 gX7_distanceByMatchings_X6_leastCost rfl rfl rfl (by decide +kernel) ⟨Nat.le_of_ble_eq_true rfl, Nat.le_of_ble_eq_true rfl⟩) rfl hl.1 rfl (Nat.le_of_ble_eq_true rfl) dX7_distanceByMatchings_49 ⟨Nat.le_of_ble_eq_true rfl, Nat.le_of_ble_eq_true rfl⟩ (fun rv_3 _ H locs hp hG => ?_)
  subst rv_3
  exact fx_iret S hr hlocks () hG (rfl) dX7_distanceByMatchings_52
theorem k1363_L_distanceByMatchings {n : Nat} (hn : N0 + 231 ≤ n) (h0 : F N0 = some (.inr (9, [.ref (N0 + 1), .ref (N0 + 2), .ref (N0 + 11), .ref (N0 + 13), .ref (N0 + 63), .ref (N0 + 65), .ref (N0 + 85), .int (-1), .int (-1), .int 32]))) (h1 : F (N0 + 1) = some (.inl (cTr, 3, .inr (.inr (.inr (.inr (va_up (va_up (va_up (fun _ => none) 0 (some (N0 + 143))) 1 (some (N0 + 150))) 2 (some (N0 + 157))))))))) (h2 : F (N0 + 157) = some (.inr (7, [.ref (N0 + 158), .ref (N0 + 159), .ref (N0 + 160), .ref (N0 + 161), .ref (N0 + 162), .ref (N0 + 163), .int 1]))) (h3 : F (N0 + 63) = some (.inr (8, [.ref (N0 + 64), .int 0]))) (h4 : F (N0 + 64) = some (.inl (cI, 7, .inl (fun _ => 0)))) (h5 : F (N0 + 158) = some (.inl (cC, 20, .inl (upd (fun _ => 0) 0 97)))) (h6 : F (N0 + 160) = some (.inl (cI, 20, .inl (fun _ => 0)))) (h7 : F (N0 + 229) = some (.inl (cL, 1, .inr (.inl (fun _ => 0))))) : Met l yL_distanceByMatchings wsL_distanceByMatchings ({ frames := 5, cells := 0, slots := 0, locals := 119 }) (va_Pc [.ref N0, .int 2, .int 2, .ref (N0 + 229)] (fP N0 D vwCl (fty cI cC cL cD cII cTr cTm cIt cB) (fen ql) F n)) (fQi N0 D vwCl (fty cI cC cL cD cII cTr cTm cIt cB) (fun (r : Int32) (_ : Unit) => r = 0) (fun _ => (fu (fu (fu F (N0 + 64) (.inl (cI, 7, .inl (upd (fun _ => 0) 0 0)))) (N0 + 63) (.inr (8, [.ref (N0 + 64), .int 0]))) (N0 + 229) (.inl (cL, 1, .inr (.inl (vp_updL (fun _ => 0) 0 0)))))) (fun _ => n)) 0 0 (fA N0) := by
  refine fx_startW (hh := [(0, 10, 13, 19), (0, 10, 17, 47)]) 5 rfl rfl (Nat.le_of_ble_eq_true rfl) ?_ rfl
  intro p e s m below meth c ls S htab hr hlocks hG hl
  have hl : lv_has ls 5 [(0, .ref N0), (1, .int 2), (2, .int 2), (3, .ref (N0 + 229))] := hl
  have lt_h0 := hG.1.lt h0
  have lt_h1 := hG.1.lt h1
  have lt_h2 := hG.1.lt h2
  have lt_h3 := hG.1.lt h3
  have lt_h4 := hG.1.lt h4
  have lt_h5 := hG.1.lt h5
  have lt_h6 := hG.1.lt h6
  have lt_h7 := hG.1.lt h7
  refine lv_aload_n S.1 S.2.1 dL_distanceByMatchings_0 rfl (lv_at hl 3 rfl) ?_
  refine lv_iconst (v := 0) S.1 S.2.1 dL_distanceByMatchings_1 (by decide) ?_
  refine lv_aload_n S.1 S.2.1 dL_distanceByMatchings_2 rfl (lv_at hl 0 rfl) ?_
  refine lv_iload_n S.1 S.2.1 dL_distanceByMatchings_3 rfl (lv_at hl 1 rfl) ?_
  refine lv_iload_n S.1 S.2.1 dL_distanceByMatchings_4 rfl (lv_at hl 2 rfl) ?_
  refine fx_cVi (As := [.int 2, .int 2]) (rest := [.int 0, .ref (N0 + 229)]) S hG (k1362_X7_distanceByMatchings (by omega) h0 h1 h2 h3 h4 h5 h6) h0 rfl (cwV 2 S.2.2.2.2 gL_distanceByMatchings_X7_distanceByMatchings rfl rfl rfl (by decide +kernel) ⟨Nat.le_of_ble_eq_true rfl, Nat.le_of_ble_eq_true rfl⟩) rfl hl.1 rfl (Nat.le_of_ble_eq_true rfl) dL_distanceByMatchings_5 ⟨Nat.le_of_ble_eq_true rfl, Nat.le_of_ble_eq_true rfl⟩ (fun rv_1 _ H locs hp hG => ?_)
  subst rv_1
  refine lv_i2l (v := 0) S.1 S.2.1 dL_distanceByMatchings_8 (by decide) ?_
  refine gx_last (f' := vp_updL (fun _ => 0) 0 0) S hG 2 (fu_at (by omega) (fu_at (by omega) h7)) rfl (fin_l (by decide)) dL_distanceByMatchings_9 rfl (fun H locs hG => ?_)
  refine lv_goto (tgt := 21) S.1 S.2.1 dL_distanceByMatchings_10 (by decide) ?_
  refine lv_iconst (v := 0) S.1 S.2.1 dL_distanceByMatchings_21 (by decide) ?_
  exact fx_iret S hr hlocks () hG (rfl) dL_distanceByMatchings_22
theorem k1364_X10_distanceByMatchings {n : Nat} (hn : N0 + 231 ≤ n) (h0 : F (N0 + 164) = some (.inr (12, [.ref (N0 + 165), .int 0, .ref (N0 + 181), .int 0, .int 0, .int 0, .int (-1), .ref (ql 24), .ref (N0 + 182), .ref (N0 + 187), .ref (N0 + 208), .ref (N0 + 209), .ref (N0 + 210), .ref (N0 + 211), .ref (N0 + 212), .int 0, .ref (N0 + 213), .ref (N0 + 218), .ref (N0 + 223), .ref (N0 + 224), .ref (N0 + 225), .ref (N0 + 226), .ref (N0 + 227), .int 0, .int 0, .ref (N0 + 228), .null, .int (-1), .int 0, .int 0, .int 0]))) (h1 : F (N0 + 165) = some (.inl (cTm, 3, .inr (.inr (.inr (.inr (va_up (va_up (va_up (fun _ => none) 0 (some (N0 + 166))) 1 (some (N0 + 171))) 2 (some (N0 + 176))))))))) (h2 : F (N0 + 176) = some (.inr (11, [.ref (N0 + 177), .ref (N0 + 178), .ref (N0 + 179), .ref (N0 + 180), .int 1]))) (h3 : F (N0 + 177) = some (.inl (cI, 20, .inl (upd (fun _ => 0) 0 97)))) (h4 : F (N0 + 179) = some (.inl (cI, 20, .inl (upd (fun _ => 0) 0 0)))) (h5 : F (N0 + 187) = some (.inl (cII, 20, .inr (.inr (.inr (.inr (fun j => if j < 20 then some ((N0 + 188) + j) else none))))))) (h6 : F (N0 + 188) = some (.inl (cI, 20, .inl (fun _ => 0)))) : Met l yX10_distanceByMatchings wsX10_distanceByMatchings ({ frames := 3, cells := 4, slots := 2, locals := 72 }) (va_Pc [.ref (N0 + 164), .int 2, .int 2] (fP N0 D vwCl (fty cI cC cL cD cII cTr cTm cIt cB) (fen ql) F n)) (fQi N0 D vwCl (fty cI cC cL cD cII cTr cTm cIt cB) (fun (r : Int32) (_ : Unit) => r = 0) (fun _ => (fblk (fu (fu F (N0 + 164) (.inr (12, [.ref (N0 + 165), .int 0, .ref (N0 + 181), .int 0, .int 0, .int 0, .int (-1), .ref (ql 24), .ref (N0 + 182), .ref (N0 + 187), .ref (N0 + 208), .ref (N0 + 209), .ref (N0 + 210), .ref (N0 + 211), .ref (N0 + 212), .int 0, .ref (N0 + 213), .ref (N0 + 218), .ref (N0 + 223), .ref (N0 + 224), .ref (N0 + 225), .ref (N0 + 226), .ref (N0 + 227), .int 0, .int 0, .ref (N0 + 228), .null, .int (-1), .int 0, .int 0, .int 0]))) (N0 + 188) (.inl (cI, 20, .inl (upd (fun _ => 0) 0 0)))) n [.inl (cI, 0, .inl (fun _ => 0)), .inl (cI, 0, .inl (fun _ => 0)), .inl (cII, 1, .inr (.inr (.inr (.inr (fun j => if j < 1 then some ((n + 3) + j) else none))))), .inl (cI, 1, .inl (fun _ => 0))])) (fun _ => (n + 4))) 4 2 (fA N0) := by
  refine fx_start 3 rfl rfl (Nat.le_of_ble_eq_true rfl) ?_ rfl
  intro p e s m below meth c ls S hr hlocks hin hG hl
  have hl : lv_has ls 3 [(0, .ref (N0 + 164)), (1, .int 2), (2, .int 2)] := hl
  have lt_h0 := hG.1.lt h0
  have lt_h1 := hG.1.lt h1
  have lt_h2 := hG.1.lt h2
  have lt_h3 := hG.1.lt h3
  have lt_h4 := hG.1.lt h4
  have lt_h5 := hG.1.lt h5
  have lt_h6 := hG.1.lt h6
  refine lv_aload_n S.1 S.2.1 dX10_distanceByMatchings_0 rfl (lv_at hl 0 rfl) ?_
  refine lv_iload_n S.1 S.2.1 dX10_distanceByMatchings_1 rfl (lv_at hl 1 rfl) ?_
  refine lv_iload_n S.1 S.2.1 dX10_distanceByMatchings_2 rfl (lv_at hl 2 rfl) ?_
  refine fx_cVi (As := [.int 2, .int 2]) (rest := []) S hG (k530_X10_areNone (by omega) h0) h0 rfl (cwV 2 S.2.2.2.2 gX10_distanceByMatchings_X10_areNone rfl rfl rfl (by decide +kernel) ⟨Nat.le_of_ble_eq_true rfl, Nat.le_of_ble_eq_true rfl⟩) rfl hl.1 rfl (Nat.le_of_ble_eq_true rfl) dX10_distanceByMatchings_3 ⟨Nat.le_of_ble_eq_true rfl, Nat.le_of_ble_eq_true rfl⟩ (fun rv_1 _ H locs hp hG => ?_)
  subst rv_1
  refine lv_if_eq (tgt := 11) S.1 S.2.1 dX10_distanceByMatchings_6 (by decide) (fun _ => ?_) (fun c => absurd (by decide) c)
  refine lv_aload_n S.1 S.2.1 dX10_distanceByMatchings_11 rfl (lv_at hl 0 rfl) ?_
  refine gx_get (C := RX10) (T := TX10) (N := 31) S hG fu_s i_X10_distanceByMatchings_X10 rfl 0 (by decide) (by decide +kernel) rfl dX10_distanceByMatchings_12 ?_
  refine lv_iload_n S.1 S.2.1 dX10_distanceByMatchings_15 rfl (lv_at hl 1 rfl) ?_
  refine gx_aldq (x := (N0 + 176)) S hG 6 rfl (fu_at (by omega) h1) rfl (fin_l (by decide)) (rfl) dX10_distanceByMatchings_16 ?_
  refine gx_getN (C := RX9) (T := TX9) (N := 5) S hG (fu_at (by omega) h2) i_X10_distanceByMatchings_X9 rfl 4 (by decide) (List.mem_of_getElem? (i := 4) rfl) rfl dX10_distanceByMatchings_17 ?_
  refine lv_bipush (v := 7) S.1 S.2.1 dX10_distanceByMatchings_20 (by decide) ?_
  refine lv_icmp_gt (tgt := 39) S.1 S.2.1 dX10_distanceByMatchings_22 (by decide) (fun c => absurd c (by decide)) (fun _ => ?_)
  refine lv_aload_n S.1 S.2.1 dX10_distanceByMatchings_25 rfl (lv_at hl 0 rfl) ?_
  refine gx_get (C := RX10) (T := TX10) (N := 31) S hG fu_s i_X10_distanceByMatchings_X10 rfl 0 (by decide) (by decide +kernel) rfl dX10_distanceByMatchings_26 ?_
  refine lv_iload_n S.1 S.2.1 dX10_distanceByMatchings_29 rfl (lv_at hl 2 rfl) ?_
  refine gx_aldq (x := (N0 + 176)) S hG 6 rfl (fu_at (by omega) h1) rfl (fin_l (by decide)) (rfl) dX10_distanceByMatchings_30 ?_
  refine gx_getN (C := RX9) (T := TX9) (N := 5) S hG (fu_at (by omega) h2) i_X10_distanceByMatchings_X9 rfl 4 (by decide) (List.mem_of_getElem? (i := 4) rfl) rfl dX10_distanceByMatchings_31 ?_
  refine lv_bipush (v := 7) S.1 S.2.1 dX10_distanceByMatchings_34 (by decide) ?_
  refine lv_icmp_le (tgt := 47) S.1 S.2.1 dX10_distanceByMatchings_36 (by decide) (fun _ => ?_) (fun c => absurd (by decide) c)
  refine lv_aload_n S.1 S.2.1 dX10_distanceByMatchings_47 rfl (lv_at hl 0 rfl) ?_
  refine lv_aload_n S.1 S.2.1 dX10_distanceByMatchings_48 rfl (lv_at hl 0 rfl) ?_
  refine gx_get (C := RX10) (T := TX10) (N := 31) S hG fu_s i_X10_distanceByMatchings_X10 rfl 0 (by decide) (by decide +kernel) rfl dX10_distanceByMatchings_49 ?_
  refine lv_iload_n S.1 S.2.1 dX10_distanceByMatchings_52 rfl (lv_at hl 1 rfl) ?_
  refine gx_aldq (x := (N0 + 176)) S hG 6 rfl (fu_at (by omega) h1) rfl (fin_l (by decide)) (rfl) dX10_distanceByMatchings_53 ?_
  refine lv_aload_n S.1 S.2.1 dX10_distanceByMatchings_54 rfl (lv_at hl 0 rfl) ?_
  refine gx_get (C := RX10) (T := TX10) (N := 31) S hG fu_s i_X10_distanceByMatchings_X10 rfl 0 (by decide) (by decide +kernel) rfl dX10_distanceByMatchings_55 ?_
  refine lv_iload_n S.1 S.2.1 dX10_distanceByMatchings_58 rfl (lv_at hl 2 rfl) ?_
  refine gx_aldq (x := (N0 + 176)) S hG 6 rfl (fu_at (by omega) h1) rfl (fin_l (by decide)) (rfl) dX10_distanceByMatchings_59 ?_
  refine fx_cVi (As := [.ref (N0 + 176), .ref (N0 + 176)]) (rest := []) S hG (k1285_X10_fills (by omega) (fu_at (by omega) h2) (fu_at (by omega) h3) (fu_at (by omega) h4) fu_s (fu_at (by omega) h5) (fu_at (by omega) h6)) fu_s rfl (cwV 2 S.2.2.2.2 gX10_distanceByMatchings_X10_fills rfl rfl rfl (by decide +kernel) ⟨Nat.le_of_ble_eq_true rfl, Nat.le_of_ble_eq_true rfl⟩) rfl hl.1 rfl (Nat.le_of_ble_eq_true rfl) dX10_distanceByMatchings_60 ⟨Nat.le_of_ble_eq_true rfl, Nat.le_of_ble_eq_true rfl⟩ (fun rv_2 _ H locs hp hG => ?_)
  subst rv_2
  refine W.widen (k := 4) (n := 2) (by decide) (by decide) ?_
  have hG : fG N0 D vwCl (fty cI cC cL cD cII cTr cTm cIt cB) (fen ql) s (fblk (fu (fu F (N0 + 164) (.inr (12, [.ref (N0 + 165), .int 0, .ref (N0 + 181), .int 0, .int 0, .int 0, .int (-1), .ref (ql 24), .ref (N0 + 182), .ref (N0 + 187), .ref (N0 + 208), .ref (N0 + 209), .ref (N0 + 210), .ref (N0 + 211), .ref (N0 + 212), .int 0, .ref (N0 + 213), .ref (N0 + 218), .ref (N0 + 223), .ref (N0 + 224), .ref (N0 + 225), .ref (N0 + 226), .ref (N0 + 227), .int 0, .int 0, .ref (N0 + 228), .null, .int (-1), .int 0, .int 0, .int 0]))) (N0 + 188) (.inl (cI, 20, .inl (upd (fun _ => 0) 0 0)))) n [.inl (cI, 0, .inl (fun _ => 0)), .inl (cI, 0, .inl (fun _ => 0)), .inl (cII, 1, .inr (.inr (.inr (.inr (fun j => if j < 1 then some ((n + 3) + j) else none))))), .inl (cI, 1, .inl (fun _ => 0))]) (n + 4) H locs := hG.weak (fun a e h => by
    rcases fblk_cases 4 rfl h with ⟨k, rfl, hlt, hk⟩ | ⟨hout, h⟩
    · rcases (show k = 0 ∨ k = 1 ∨ k = 2 ∨ k = 3 by omega) with rfl | rfl | rfl | rfl
      · cases (show some (.inl (cI, 0, .inl (fun _ => 0))) = some e from hk); exact (fblk_at 0 (by omega) rfl)
      · cases (show some (.inl (cI, 0, .inl (fun _ => 0))) = some e from hk); exact (fblk_at 1 (by omega) rfl)
      · cases (show some (.inl (cII, 1, .inr (.inr (.inr (.inr (fun j => if j < 1 then some ((n + 3) + j) else none)))))) = some e from hk); exact (fblk_at 2 (by omega) rfl)
      · cases (show some (.inl (cI, 1, .inl (fun _ => 0))) = some e from hk); exact (fblk_at 3 (by omega) rfl)
    · rcases fu_cases h with ⟨rfl, he⟩ | ⟨hne0, h⟩
      · cases he; exact (fblk_sk 4 rfl (by omega) fu_s)
      · skip
        rcases fu_cases h with ⟨rfl, he⟩ | ⟨hne1, h⟩
        · cases he; exact (fblk_sk 4 rfl (by omega) (fu_at (by omega) fu_s))
        · exact (fblk_sk 4 rfl (by omega) (fu_at (by omega) (fu_at (by omega) h))))
  exact fx_iret S hr hlocks () hG (rfl) dX10_distanceByMatchings_63
theorem k1365_X7_distanceByMatchings {n : Nat} {a2 : Int32} (g_a2_ge_3 : 3 ≤ a2) (hst : l.stackTraces = false) (hn : N0 + 231 ≤ n) (h0 : F N0 = some (.inr (9, [.ref (N0 + 1), .ref (N0 + 2), .ref (N0 + 11), .ref (N0 + 13), .ref (N0 + 63), .ref (N0 + 65), .ref (N0 + 85), .int (-1), .int (-1), .int 32]))) (h1 : F (N0 + 1) = some (.inl (cTr, 3, .inr (.inr (.inr (.inr (va_up (va_up (va_up (fun _ => none) 0 (some (N0 + 143))) 1 (some (N0 + 150))) 2 (some (N0 + 157))))))))) : vx_Met l yX7_distanceByMatchings wsX7_distanceByMatchings ({ frames := 7, cells := 1, slots := 6, locals := 103 }) (va_Pc [.ref N0, .int 2, .int a2] (fP N0 D vwCl (fty cI cC cL cD cII cTr cTm cIt cB) (fen ql) F n)) (fNo N0 D vwCl (fty cI cC cL cD cII cTr cTm cIt cB) F n) (fXC N0 D vwCl (fty cI cC cL cD cII cTr cTm cIt cB) "java/lang/IndexOutOfBoundsException" F n) 1 6 (fA N0) := by
  refine fx_startX 5 rfl rfl (Nat.le_of_ble_eq_true rfl) ?_ rfl
  intro p e s m below meth c ls S htab hlocks hG hl
  have hl : lv_has ls 5 [(0, .ref N0), (1, .int 2), (2, .int a2)] := hl
  have lt_h0 := hG.1.lt h0
  have lt_h1 := hG.1.lt h1
  refine lv_aload_n S.1 S.2.1 dX7_distanceByMatchings_0 rfl (lv_at hl 0 rfl) ?_
  refine lv_iload_n S.1 S.2.1 dX7_distanceByMatchings_1 rfl (lv_at hl 1 rfl) ?_
  refine fx_cVr (As := [.int 2]) (rest := []) S hG (k48_X7_treeAt (by omega) h0 h1) h0 rfl (cwV 1 S.2.2.2.2 gX7_distanceByMatchings_X7_treeAt rfl rfl rfl (by decide +kernel) ⟨Nat.le_of_ble_eq_true rfl, Nat.le_of_ble_eq_true rfl⟩) rfl hl.1 rfl (Nat.le_of_ble_eq_true rfl) dX7_distanceByMatchings_2 ⟨Nat.le_of_ble_eq_true rfl, Nat.le_of_ble_eq_true rfl⟩ (fun rv_1 _ H locs hp hG => ?_)
  subst rv_1
  refine lv_astore_n (lv' := [(3, .ref (N0 + 157)), (0, .ref N0), (1, .int 2), (2, .int a2)]) S.1 S.2.1 dX7_distanceByMatchings_5 rfl hl (by decide) rfl (fun ls hl => ?_)
  refine lv_aload_n S.1 S.2.1 dX7_distanceByMatchings_6 rfl (lv_at hl 1 rfl) ?_
  refine lv_iload_n S.1 S.2.1 dX7_distanceByMatchings_7 rfl (lv_at hl 3 rfl) ?_
  refine fx_xV (As := [.int a2]) (rest := []) S hG (k478_X7_treeAt g_a2_ge_3 hst (by omega)) h0 rfl (cwV 1 S.2.2.2.2 gX7_distanceByMatchings_X7_treeAt rfl rfl rfl (by decide +kernel) ⟨Nat.le_of_ble_eq_true rfl, Nat.le_of_ble_eq_true rfl⟩) rfl hl.1 rfl (Nat.le_of_ble_eq_true rfl) dX7_distanceByMatchings_8 ⟨Nat.le_of_ble_eq_true rfl, Nat.le_of_ble_eq_true rfl⟩ (fun ceq_2 q_2 H locs n_3 hn_3 hG h1q_2 h2q_2 h3q_2 => ?_)
  exact fx_out htab hlocks hG (by omega) h1q_2 h2q_2 h3q_2 (by decide) (by decide)
theorem k1366_L_distanceByMatchings {n : Nat} {a2 : Int32} (g_a2_ge_3 : 3 ≤ a2) (hst : l.stackTraces = false) (hn : N0 + 231 ≤ n) (h0 : F N0 = some (.inr (9, [.ref (N0 + 1), .ref (N0 + 2), .ref (N0 + 11), .ref (N0 + 13), .ref (N0 + 63), .ref (N0 + 65), .ref (N0 + 85), .int (-1), .int (-1), .int 32]))) (h1 : F (N0 + 1) = some (.inl (cTr, 3, .inr (.inr (.inr (.inr (va_up (va_up (va_up (fun _ => none) 0 (some (N0 + 143))) 1 (some (N0 + 150))) 2 (some (N0 + 157))))))))) : Met l yL_distanceByMatchings wsL_distanceByMatchings ({ frames := 8, cells := 1, slots := 6, locals := 127 }) (va_Pc [.ref N0, .int 2, .int a2, .ref (N0 + 229)] (fP N0 D vwCl (fty cI cC cL cD cII cTr cTm cIt cB) (fen ql) F n)) (fQi N0 D vwCl (fty cI cC cL cD cII cTr cTm cIt cB) (fun (r : Int32) (u : Nat) => r = 1 ∧ n ≤ u) (fun _ => F) (fun u => u)) 1 6 (fA N0) := by
  refine fx_startW (hh := [(0, 10, 13, 19), (0, 10, 17, 47)]) 5 rfl rfl (Nat.le_of_ble_eq_true rfl) ?_ rfl
  intro p e s m below meth c ls S htab hr hlocks hG hl
  have hl : lv_has ls 5 [(0, .ref N0), (1, .int 2), (2, .int a2), (3, .ref (N0 + 229))] := hl
  have lt_h0 := hG.1.lt h0
  have lt_h1 := hG.1.lt h1
  refine lv_aload_n S.1 S.2.1 dL_distanceByMatchings_0 rfl (lv_at hl 3 rfl) ?_
  refine lv_iconst (v := 0) S.1 S.2.1 dL_distanceByMatchings_1 (by decide) ?_
  refine lv_aload_n S.1 S.2.1 dL_distanceByMatchings_2 rfl (lv_at hl 0 rfl) ?_
  refine lv_iload_n S.1 S.2.1 dL_distanceByMatchings_3 rfl (lv_at hl 1 rfl) ?_
  refine lv_iload_n S.1 S.2.1 dL_distanceByMatchings_4 rfl (lv_at hl 2 rfl) ?_
  refine fx_xV (As := [.int 2, .int a2]) (rest := [.int 0, .ref (N0 + 229)]) S hG (k1365_X7_distanceByMatchings g_a2_ge_3 hst (by omega) h0 h1) h0 rfl (cwV 2 S.2.2.2.2 gL_distanceByMatchings_X7_distanceByMatchings rfl rfl rfl (by decide +kernel) ⟨Nat.le_of_ble_eq_true rfl, Nat.le_of_ble_eq_true rfl⟩) rfl hl.1 rfl (Nat.le_of_ble_eq_true rfl) dL_distanceByMatchings_5 ⟨Nat.le_of_ble_eq_true rfl, Nat.le_of_ble_eq_true rfl⟩ (fun ceq_1 q_1 H locs n_2 hn_2 hG h1q_1 h2q_1 h3q_1 => ?_)
  refine fx_catch (hh := [(0, 10, 13, 19), (0, 10, 17, 47)]) S htab hG h1q_1 h2q_1 h3q_1 [] ⟨0, 10, 13, 19⟩ [⟨0, 10, 17, 47⟩] rfl [] (fun z hz => absurd hz List.not_mem_nil) (by decide) (by decide) (by decide +kernel) (List.mem_of_getElem? (i := 2) rfl) ?_
  refine lv_astore (lv' := [(4, .ref q_1), (0, .ref N0), (1, .int 2), (2, .int a2), (3, .ref (N0 + 229))]) S.1 S.2.1 dL_distanceByMatchings_13 hl (by decide) rfl (fun ls hl => ?_)
  refine lv_iconst (v := 1) S.1 S.2.1 dL_distanceByMatchings_15 (by decide) ?_
  exact fx_iret S hr hlocks n_2 hG (⟨rfl, hn_2⟩) dL_distanceByMatchings_16
theorem k1367_X10_distanceByMatchings {n : Nat} {a2 : Int32} (g_a2_ge_3 : 3 ≤ a2) (hn : N0 + 231 ≤ n) (h0 : F (N0 + 164) = some (.inr (12, [.ref (N0 + 165), .int 0, .ref (N0 + 181), .int 0, .int 0, .int 0, .int (-1), .ref (ql 24), .ref (N0 + 182), .ref (N0 + 187), .ref (N0 + 208), .ref (N0 + 209), .ref (N0 + 210), .ref (N0 + 211), .ref (N0 + 212), .int 0, .ref (N0 + 213), .ref (N0 + 218), .ref (N0 + 223), .ref (N0 + 224), .ref (N0 + 225), .ref (N0 + 226), .ref (N0 + 227), .int 0, .int 0, .ref (N0 + 228), .null, .int (-1), .int 0, .int 0, .int 0]))) : Met l yX10_distanceByMatchings wsX10_distanceByMatchings ({ frames := 3, cells := 0, slots := 0, locals := 64 }) (va_Pc [.ref (N0 + 164), .int 2, .int a2] (fP N0 D vwCl (fty cI cC cL cD cII cTr cTm cIt cB) (fen ql) F n)) (fQi N0 D vwCl (fty cI cC cL cD cII cTr cTm cIt cB) (fun (r : Int32) (_ : Unit) => r = 0) (fun _ => (fu F (N0 + 164) (.inr (12, [.ref (N0 + 165), .int 1, .ref (N0 + 181), .int 0, .int 0, .int 0, .int (-1), .ref (ql 24), .ref (N0 + 182), .ref (N0 + 187), .ref (N0 + 208), .ref (N0 + 209), .ref (N0 + 210), .ref (N0 + 211), .ref (N0 + 212), .int 0, .ref (N0 + 213), .ref (N0 + 218), .ref (N0 + 223), .ref (N0 + 224), .ref (N0 + 225), .ref (N0 + 226), .ref (N0 + 227), .int 0, .int 0, .ref (N0 + 228), .null, .int (-1), .int 0, .int 0, .int 0])))) (fun _ => n)) 0 0 (fA N0) := by
  refine fx_start 3 rfl rfl (Nat.le_of_ble_eq_true rfl) ?_ rfl
  intro p e s m below meth c ls S hr hlocks hin hG hl
  have hl : lv_has ls 3 [(0, .ref (N0 + 164)), (1, .int 2), (2, .int a2)] := hl
  have lt_h0 := hG.1.lt h0
  refine lv_aload_n S.1 S.2.1 dX10_distanceByMatchings_0 rfl (lv_at hl 0 rfl) ?_
  refine lv_iload_n S.1 S.2.1 dX10_distanceByMatchings_1 rfl (lv_at hl 1 rfl) ?_
  refine lv_iload_n S.1 S.2.1 dX10_distanceByMatchings_2 rfl (lv_at hl 2 rfl) ?_
  refine fx_cVi (As := [.int 2, .int a2]) (rest := []) S hG (k535_X10_areNone g_a2_ge_3 (by omega) h0) h0 rfl (cwV 2 S.2.2.2.2 gX10_distanceByMatchings_X10_areNone rfl rfl rfl (by decide +kernel) ⟨Nat.le_of_ble_eq_true rfl, Nat.le_of_ble_eq_true rfl⟩) rfl hl.1 rfl (Nat.le_of_ble_eq_true rfl) dX10_distanceByMatchings_3 ⟨Nat.le_of_ble_eq_true rfl, Nat.le_of_ble_eq_true rfl⟩ (fun rv_1 _ H locs hp hG => ?_)
  subst rv_1
  refine lv_if_eq (tgt := 11) S.1 S.2.1 dX10_distanceByMatchings_6 (by decide) (fun c => absurd c (by decide)) (fun _ => ?_)
  refine lv_iconst (v := 0) S.1 S.2.1 dX10_distanceByMatchings_9 (by decide) ?_
  exact fx_iret S hr hlocks () hG (rfl) dX10_distanceByMatchings_10
theorem k1368_X7_distanceByMatchings {n : Nat} {a1 : Int32} {a2 : Int32} (g_a1_ge_3 : 3 ≤ a1) (hst : l.stackTraces = false) (hn : N0 + 231 ≤ n) (h0 : F N0 = some (.inr (9, [.ref (N0 + 1), .ref (N0 + 2), .ref (N0 + 11), .ref (N0 + 13), .ref (N0 + 63), .ref (N0 + 65), .ref (N0 + 85), .int (-1), .int (-1), .int 32]))) : vx_Met l yX7_distanceByMatchings wsX7_distanceByMatchings ({ frames := 7, cells := 1, slots := 6, locals := 103 }) (va_Pc [.ref N0, .int a1, .int a2] (fP N0 D vwCl (fty cI cC cL cD cII cTr cTm cIt cB) (fen ql) F n)) (fNo N0 D vwCl (fty cI cC cL cD cII cTr cTm cIt cB) F n) (fXC N0 D vwCl (fty cI cC cL cD cII cTr cTm cIt cB) "java/lang/IndexOutOfBoundsException" F n) 1 6 (fA N0) := by
  refine fx_startX 5 rfl rfl (Nat.le_of_ble_eq_true rfl) ?_ rfl
  intro p e s m below meth c ls S htab hlocks hG hl
  have hl : lv_has ls 5 [(0, .ref N0), (1, .int a1), (2, .int a2)] := hl
  have lt_h0 := hG.1.lt h0
  refine lv_aload_n S.1 S.2.1 dX7_distanceByMatchings_0 rfl (lv_at hl 0 rfl) ?_
  refine lv_iload_n S.1 S.2.1 dX7_distanceByMatchings_1 rfl (lv_at hl 1 rfl) ?_
  refine fx_xV (As := [.int a1]) (rest := []) S hG (k54_X7_treeAt g_a1_ge_3 hst (by omega)) h0 rfl (cwV 1 S.2.2.2.2 gX7_distanceByMatchings_X7_treeAt rfl rfl rfl (by decide +kernel) ⟨Nat.le_of_ble_eq_true rfl, Nat.le_of_ble_eq_true rfl⟩) rfl hl.1 rfl (Nat.le_of_ble_eq_true rfl) dX7_distanceByMatchings_2 ⟨Nat.le_of_ble_eq_true rfl, Nat.le_of_ble_eq_true rfl⟩ (fun ceq_1 q_1 H locs n_2 hn_2 hG h1q_1 h2q_1 h3q_1 => ?_)
  exact fx_out htab hlocks hG (by omega) h1q_1 h2q_1 h3q_1 (by decide) (by decide)
theorem k1369_L_distanceByMatchings {n : Nat} {a1 : Int32} {a2 : Int32} (g_a1_ge_3 : 3 ≤ a1) (hst : l.stackTraces = false) (hn : N0 + 231 ≤ n) (h0 : F N0 = some (.inr (9, [.ref (N0 + 1), .ref (N0 + 2), .ref (N0 + 11), .ref (N0 + 13), .ref (N0 + 63), .ref (N0 + 65), .ref (N0 + 85), .int (-1), .int (-1), .int 32]))) : Met l yL_distanceByMatchings wsL_distanceByMatchings ({ frames := 8, cells := 1, slots := 6, locals := 127 }) (va_Pc [.ref N0, .int a1, .int a2, .ref (N0 + 229)] (fP N0 D vwCl (fty cI cC cL cD cII cTr cTm cIt cB) (fen ql) F n)) (fQi N0 D vwCl (fty cI cC cL cD cII cTr cTm cIt cB) (fun (r : Int32) (u : Nat) => r = 1 ∧ n ≤ u) (fun _ => F) (fun u => u)) 1 6 (fA N0) := by
  refine fx_startW (hh := [(0, 10, 13, 19), (0, 10, 17, 47)]) 5 rfl rfl (Nat.le_of_ble_eq_true rfl) ?_ rfl
  intro p e s m below meth c ls S htab hr hlocks hG hl
  have hl : lv_has ls 5 [(0, .ref N0), (1, .int a1), (2, .int a2), (3, .ref (N0 + 229))] := hl
  have lt_h0 := hG.1.lt h0
  refine lv_aload_n S.1 S.2.1 dL_distanceByMatchings_0 rfl (lv_at hl 3 rfl) ?_
  refine lv_iconst (v := 0) S.1 S.2.1 dL_distanceByMatchings_1 (by decide) ?_
  refine lv_aload_n S.1 S.2.1 dL_distanceByMatchings_2 rfl (lv_at hl 0 rfl) ?_
  refine lv_iload_n S.1 S.2.1 dL_distanceByMatchings_3 rfl (lv_at hl 1 rfl) ?_
  refine lv_iload_n S.1 S.2.1 dL_distanceByMatchings_4 rfl (lv_at hl 2 rfl) ?_
  refine fx_xV (As := [.int a1, .int a2]) (rest := [.int 0, .ref (N0 + 229)]) S hG (k1368_X7_distanceByMatchings g_a1_ge_3 hst (by omega) h0) h0 rfl (cwV 2 S.2.2.2.2 gL_distanceByMatchings_X7_distanceByMatchings rfl rfl rfl (by decide +kernel) ⟨Nat.le_of_ble_eq_true rfl, Nat.le_of_ble_eq_true rfl⟩) rfl hl.1 rfl (Nat.le_of_ble_eq_true rfl) dL_distanceByMatchings_5 ⟨Nat.le_of_ble_eq_true rfl, Nat.le_of_ble_eq_true rfl⟩ (fun ceq_1 q_1 H locs n_2 hn_2 hG h1q_1 h2q_1 h3q_1 => ?_)
  refine fx_catch (hh := [(0, 10, 13, 19), (0, 10, 17, 47)]) S htab hG h1q_1 h2q_1 h3q_1 [] ⟨0, 10, 13, 19⟩ [⟨0, 10, 17, 47⟩] rfl [] (fun z hz => absurd hz List.not_mem_nil) (by decide) (by decide) (by decide +kernel) (List.mem_of_getElem? (i := 2) rfl) ?_
  refine lv_astore (lv' := [(4, .ref q_1), (0, .ref N0), (1, .int a1), (2, .int a2), (3, .ref (N0 + 229))]) S.1 S.2.1 dL_distanceByMatchings_13 hl (by decide) rfl (fun ls hl => ?_)
  refine lv_iconst (v := 1) S.1 S.2.1 dL_distanceByMatchings_15 (by decide) ?_
  exact fx_iret S hr hlocks n_2 hG (⟨rfl, hn_2⟩) dL_distanceByMatchings_16
theorem k1370_X10_distanceByMatchings {n : Nat} {a1 : Int32} {a2 : Int32} (g_a1_ge_3 : 3 ≤ a1) (hn : N0 + 231 ≤ n) (h0 : F (N0 + 164) = some (.inr (12, [.ref (N0 + 165), .int 0, .ref (N0 + 181), .int 0, .int 0, .int 0, .int (-1), .ref (ql 24), .ref (N0 + 182), .ref (N0 + 187), .ref (N0 + 208), .ref (N0 + 209), .ref (N0 + 210), .ref (N0 + 211), .ref (N0 + 212), .int 0, .ref (N0 + 213), .ref (N0 + 218), .ref (N0 + 223), .ref (N0 + 224), .ref (N0 + 225), .ref (N0 + 226), .ref (N0 + 227), .int 0, .int 0, .ref (N0 + 228), .null, .int (-1), .int 0, .int 0, .int 0]))) : Met l yX10_distanceByMatchings wsX10_distanceByMatchings ({ frames := 3, cells := 0, slots := 0, locals := 64 }) (va_Pc [.ref (N0 + 164), .int a1, .int a2] (fP N0 D vwCl (fty cI cC cL cD cII cTr cTm cIt cB) (fen ql) F n)) (fQi N0 D vwCl (fty cI cC cL cD cII cTr cTm cIt cB) (fun (r : Int32) (_ : Unit) => r = 0) (fun _ => (fu F (N0 + 164) (.inr (12, [.ref (N0 + 165), .int 1, .ref (N0 + 181), .int 0, .int 0, .int 0, .int (-1), .ref (ql 24), .ref (N0 + 182), .ref (N0 + 187), .ref (N0 + 208), .ref (N0 + 209), .ref (N0 + 210), .ref (N0 + 211), .ref (N0 + 212), .int 0, .ref (N0 + 213), .ref (N0 + 218), .ref (N0 + 223), .ref (N0 + 224), .ref (N0 + 225), .ref (N0 + 226), .ref (N0 + 227), .int 0, .int 0, .ref (N0 + 228), .null, .int (-1), .int 0, .int 0, .int 0])))) (fun _ => n)) 0 0 (fA N0) := by
  refine fx_start 3 rfl rfl (Nat.le_of_ble_eq_true rfl) ?_ rfl
  intro p e s m below meth c ls S hr hlocks hin hG hl
  have hl : lv_has ls 3 [(0, .ref (N0 + 164)), (1, .int a1), (2, .int a2)] := hl
  have lt_h0 := hG.1.lt h0
  refine lv_aload_n S.1 S.2.1 dX10_distanceByMatchings_0 rfl (lv_at hl 0 rfl) ?_
  refine lv_iload_n S.1 S.2.1 dX10_distanceByMatchings_1 rfl (lv_at hl 1 rfl) ?_
  refine lv_iload_n S.1 S.2.1 dX10_distanceByMatchings_2 rfl (lv_at hl 2 rfl) ?_
  refine fx_cVi (As := [.int a1, .int a2]) (rest := []) S hG (k539_X10_areNone g_a1_ge_3 (by omega) h0) h0 rfl (cwV 2 S.2.2.2.2 gX10_distanceByMatchings_X10_areNone rfl rfl rfl (by decide +kernel) ⟨Nat.le_of_ble_eq_true rfl, Nat.le_of_ble_eq_true rfl⟩) rfl hl.1 rfl (Nat.le_of_ble_eq_true rfl) dX10_distanceByMatchings_3 ⟨Nat.le_of_ble_eq_true rfl, Nat.le_of_ble_eq_true rfl⟩ (fun rv_1 _ H locs hp hG => ?_)
  subst rv_1
  refine lv_if_eq (tgt := 11) S.1 S.2.1 dX10_distanceByMatchings_6 (by decide) (fun c => absurd c (by decide)) (fun _ => ?_)
  refine lv_iconst (v := 0) S.1 S.2.1 dX10_distanceByMatchings_9 (by decide) ?_
  exact fx_iret S hr hlocks () hG (rfl) dX10_distanceByMatchings_10
theorem l24_0 {p : Program} {e : Env} {s : State} {m : MethodId} {below : List Frame} {meth : Method} {c : Code} {b : Nat} {xs : Nat → Int32} {H : Heap} {locs : List Loc} {ls : Array Slot} {n : Nat} {a1 a2 a3 a4 : Int32} (g_a1_le_m1 : a1 ≤ (-1)) (S : CallFix p m c cL_law 9 s #[.ref b] wsL_law "TreeDifferLaw") (hr : meth.sig.returnType = ret) (hlocks : meth.locks = false) (hst : l.stackTraces = false) (hX : va_X b 5 xs s s.heap) (hbl : b < s.heap.size ∧ b < N0) (hN : s.heap.size = N0) (hn : N0 + 231 ≤ n) (hx1 : xs 1 = a1) (hx2 : xs 2 = a2) (hx3 : xs 3 = a3) (hx4 : xs 4 = a4) (h0 : F N0 = some (.inr (9, [.ref (N0 + 1), .ref (N0 + 2), .ref (N0 + 11), .ref (N0 + 13), .ref (N0 + 63), .ref (N0 + 65), .ref (N0 + 85), .int (-1), .int (-1), .int 32]))) (h1 : F (N0 + 164) = some (.inr (12, [.ref (N0 + 165), .int 0, .ref (N0 + 181), .int 0, .int 0, .int 0, .int (-1), .ref (ql 24), .ref (N0 + 182), .ref (N0 + 187), .ref (N0 + 208), .ref (N0 + 209), .ref (N0 + 210), .ref (N0 + 211), .ref (N0 + 212), .int 0, .ref (N0 + 213), .ref (N0 + 218), .ref (N0 + 223), .ref (N0 + 224), .ref (N0 + 225), .ref (N0 + 226), .ref (N0 + 227), .int 0, .int 0, .ref (N0 + 228), .null, .int (-1), .int 0, .int 0, .int 0]))) (hG : fG N0 D vwCl (fty cI cC cL cD cII cTr cTm cIt cB) (fen ql) s F n H locs) (hl : lv_has ls 9 [(0, .ref b), (1, .ref N0), (2, .ref (N0 + 164)), (3, .ref (N0 + 229)), (4, .ref (N0 + 230)), (5, .int 0)]) : W p l e { frames := 2048, cells := 600002, slots := 7302232, locals := 84000 } s m #[.ref b] below meth c H locs 231 4980 (lw_Z below #[.ref b] s) (F0 m 1861 ls []) := by
  have lt_h0 := hG.1.lt h0
  have lt_h1 := hG.1.lt h1
  refine lv_aload_n S.1 S.2.1 dL_law_1861 rfl (lv_at hl 1 rfl) ?_
  refine lv_aload_n S.1 S.2.1 dL_law_1862 rfl (lv_at hl 0 rfl) ?_
  refine lv_iload S.1 S.2.1 dL_law_1863 (lv_at hl 5 rfl) ?_
  refine lv_iconst (v := 1) S.1 S.2.1 dL_law_1865 (by decide) ?_
  refine lv_iadd S.1 S.2.1 dL_law_1866 ?_
  refine fx_topi (y := 1) (by decide) ?_
  refine gx_sld (v := a1) S hG hX hbl (fin_l (by decide)) hx1 dL_law_1867 ?_
  refine lv_aload_n S.1 S.2.1 dL_law_1868 rfl (lv_at hl 0 rfl) ?_
  refine lv_iload S.1 S.2.1 dL_law_1869 (lv_at hl 5 rfl) ?_
  refine lv_iconst (v := 2) S.1 S.2.1 dL_law_1871 (by decide) ?_
  refine lv_iadd S.1 S.2.1 dL_law_1872 ?_
  refine fx_topi (y := 2) (by decide) ?_
  refine gx_sld (v := a2) S hG hX hbl (fin_l (by decide)) hx2 dL_law_1873 ?_
  refine lv_aload_n S.1 S.2.1 dL_law_1874 rfl (lv_at hl 3 rfl) ?_
  refine fx_cTi (As := [.ref N0, .int a1, .int a2, .ref (N0 + 229)]) (rest := []) S hG (k1294_L_distanceByMatchings g_a1_le_m1 hst (by omega) h0) (vx_cwSW 4 S.2.2.2.2 gL_law_L_distanceByMatchings rfl rfl rfl (by decide +kernel) ⟨Nat.le_of_ble_eq_true rfl, Nat.le_of_ble_eq_true rfl⟩) rfl hl.1 rfl (Nat.le_of_ble_eq_true rfl) dL_law_1875 ⟨Nat.le_of_ble_eq_true rfl, Nat.le_of_ble_eq_true rfl⟩ (fun rv_u_1 u_1 H locs hp hG => ?_)
  obtain ⟨rfl, hu_1⟩ := hp
  refine W.widen (k := 232) (n := 4986) (by decide) (by decide) ?_
  refine lv_istore (lv' := [(6, .int 1), (0, .ref b), (1, .ref N0), (2, .ref (N0 + 164)), (3, .ref (N0 + 229)), (4, .ref (N0 + 230)), (5, .int 0)]) S.1 S.2.1 dL_law_1878 hl (by decide) rfl (fun ls hl => ?_)
  refine lv_aload_n S.1 S.2.1 dL_law_1880 rfl (lv_at hl 3 rfl) ?_
  refine lv_aload_n S.1 S.2.1 dL_law_1881 rfl (lv_at hl 1 rfl) ?_
  refine lv_iload S.1 S.2.1 dL_law_1882 (lv_at hl 6 rfl) ?_
  refine lv_iconst (v := 1) S.1 S.2.1 dL_law_1884 (by decide) ?_
  refine lv_iadd S.1 S.2.1 dL_law_1885 ?_
  refine fx_topi (y := 1) (by decide) ?_
  refine gx_sld (v := a1) S hG hX hbl (fin_l (by decide)) hx1 dL_law_1886 ?_
  refine lv_aload_n S.1 S.2.1 dL_law_1887 rfl (lv_at hl 1 rfl) ?_
  refine lv_iload S.1 S.2.1 dL_law_1888 (lv_at hl 6 rfl) ?_
  refine lv_iconst (v := 2) S.1 S.2.1 dL_law_1890 (by decide) ?_
  refine lv_iadd S.1 S.2.1 dL_law_1891 ?_
  refine fx_topi (y := 2) (by decide) ?_
  refine gx_sld (v := a2) S hG hX hbl (fin_l (by decide)) hx2 dL_law_1892 ?_
  refine fx_cVi (As := [.int a1, .int a2]) (rest := []) S hG (k1295_X10_distanceByMatchings g_a1_le_m1 (by omega) h1) h1 rfl (cwV 2 S.2.2.2.2 gL_law_X10_distanceByMatchings rfl rfl rfl (by decide +kernel) ⟨Nat.le_of_ble_eq_true rfl, Nat.le_of_ble_eq_true rfl⟩) rfl hl.1 rfl (Nat.le_of_ble_eq_true rfl) dL_law_1893 ⟨Nat.le_of_ble_eq_true rfl, Nat.le_of_ble_eq_true rfl⟩ (fun rv_2 _ H locs hp hG => ?_)
  subst rv_2
  refine lv_istore (lv' := [(7, .int 0), (6, .int 1), (0, .ref b), (1, .ref N0), (2, .ref (N0 + 164)), (3, .ref (N0 + 229)), (4, .ref (N0 + 230)), (5, .int 0)]) S.1 S.2.1 dL_law_1896 hl (by decide) rfl (fun ls hl => ?_)
  refine lv_aload_n S.1 S.2.1 dL_law_1898 rfl (lv_at hl 4 rfl) ?_
  refine fx_cVi (As := []) (rest := []) S hG (k25_X10_thrown (by omega) fu_s) fu_s rfl (cwV 0 S.2.2.2.2 gL_law_X10_thrown rfl rfl rfl (by decide +kernel) ⟨Nat.le_of_ble_eq_true rfl, Nat.le_of_ble_eq_true rfl⟩) rfl hl.1 rfl (Nat.le_of_ble_eq_true rfl) dL_law_1899 ⟨Nat.le_of_ble_eq_true rfl, Nat.le_of_ble_eq_true rfl⟩ (fun rv_3 _ H locs hp hG => ?_)
  subst rv_3
  refine lv_iload S.1 S.2.1 dL_law_1902 (lv_at hl 1 rfl) ?_
  refine lv_icmp_eq (tgt := 1909) S.1 S.2.1 dL_law_1904 (by decide) (fun _ => ?_) (fun c => absurd (by decide) c)
  refine lv_iload S.1 S.2.1 dL_law_1909 (lv_at hl 1 rfl) ?_
  refine lv_if_ne (tgt := 1926) S.1 S.2.1 dL_law_1911 (by decide) (fun _ => ?_) (fun c => absurd c (by decide))
  refine lv_goto (tgt := 2650) S.1 S.2.1 dL_law_1926 (by decide) ?_
  refine lv_iinc (v := 5) (lv' := [(5, .int 5), (7, .int 0), (6, .int 1), (0, .ref b), (1, .ref N0), (2, .ref (N0 + 164)), (3, .ref (N0 + 229)), (4, .ref (N0 + 230))]) S.1 S.2.1 dL_law_2650 hl (k := 7) rfl (by decide) (by decide) rfl (fun ls hl => ?_)
  refine lv_goto (tgt := 28) S.1 S.2.1 dL_law_2653 (by decide) ?_
  refine lv_iload S.1 S.2.1 dL_law_28 (lv_at hl 0 rfl) ?_
  refine lv_aload_n S.1 S.2.1 dL_law_30 rfl (lv_at hl 3 rfl) ?_
  refine gx_slen (v := 5) S hG hX hbl rfl dL_law_31 ?_
  refine lv_iconst (v := 5) S.1 S.2.1 dL_law_32 (by decide) ?_
  refine lv_isub S.1 S.2.1 dL_law_33 ?_
  refine fx_topi (y := 0) (by decide) ?_
  refine lv_icmp_gt (tgt := 2656) S.1 S.2.1 dL_law_34 (by decide) (fun _ => ?_) (fun c => absurd (by decide) c)
  refine lv_iconst (v := 1) S.1 S.2.1 dL_law_2656 (by decide) ?_
  refine va_forget (fun q hq => by rw [hN]; exact hG.2.1.2.2 q hq) ?_
  refine W.widen (k := 600002) (n := 7302232) (by decide) (by decide) ?_
  exact lw_ret (d0 := s.drawn) (Drawn.sameBut.refl _ _) S.1 S.2.1 hr hlocks dL_law_2657
theorem l24_1 {p : Program} {e : Env} {s : State} {m : MethodId} {below : List Frame} {meth : Method} {c : Code} {b : Nat} {xs : Nat → Int32} {H : Heap} {locs : List Loc} {ls : Array Slot} {n : Nat} {a2 a3 a4 : Int32} (g_a2_le_m1 : a2 ≤ (-1)) (S : CallFix p m c cL_law 9 s #[.ref b] wsL_law "TreeDifferLaw") (hr : meth.sig.returnType = ret) (hlocks : meth.locks = false) (hst : l.stackTraces = false) (hX : va_X b 5 xs s s.heap) (hbl : b < s.heap.size ∧ b < N0) (hN : s.heap.size = N0) (hn : N0 + 231 ≤ n) (hx1 : xs 1 = 0) (hx2 : xs 2 = a2) (hx3 : xs 3 = a3) (hx4 : xs 4 = a4) (h0 : F N0 = some (.inr (9, [.ref (N0 + 1), .ref (N0 + 2), .ref (N0 + 11), .ref (N0 + 13), .ref (N0 + 63), .ref (N0 + 65), .ref (N0 + 85), .int (-1), .int (-1), .int 32]))) (h1 : F (N0 + 1) = some (.inl (cTr, 3, .inr (.inr (.inr (.inr (va_up (va_up (va_up (fun _ => none) 0 (some (N0 + 143))) 1 (some (N0 + 150))) 2 (some (N0 + 157))))))))) (h2 : F (N0 + 164) = some (.inr (12, [.ref (N0 + 165), .int 0, .ref (N0 + 181), .int 0, .int 0, .int 0, .int (-1), .ref (ql 24), .ref (N0 + 182), .ref (N0 + 187), .ref (N0 + 208), .ref (N0 + 209), .ref (N0 + 210), .ref (N0 + 211), .ref (N0 + 212), .int 0, .ref (N0 + 213), .ref (N0 + 218), .ref (N0 + 223), .ref (N0 + 224), .ref (N0 + 225), .ref (N0 + 226), .ref (N0 + 227), .int 0, .int 0, .ref (N0 + 228), .null, .int (-1), .int 0, .int 0, .int 0]))) (hG : fG N0 D vwCl (fty cI cC cL cD cII cTr cTm cIt cB) (fen ql) s F n H locs) (hl : lv_has ls 9 [(0, .ref b), (1, .ref N0), (2, .ref (N0 + 164)), (3, .ref (N0 + 229)), (4, .ref (N0 + 230)), (5, .int 0)]) : W p l e { frames := 2048, cells := 600002, slots := 7302232, locals := 84000 } s m #[.ref b] below meth c H locs 231 4980 (lw_Z below #[.ref b] s) (F0 m 1861 ls []) := by
  have lt_h0 := hG.1.lt h0
  have lt_h1 := hG.1.lt h1
  have lt_h2 := hG.1.lt h2
  refine lv_aload_n S.1 S.2.1 dL_law_1861 rfl (lv_at hl 1 rfl) ?_
  refine lv_aload_n S.1 S.2.1 dL_law_1862 rfl (lv_at hl 0 rfl) ?_
  refine lv_iload S.1 S.2.1 dL_law_1863 (lv_at hl 5 rfl) ?_
  refine lv_iconst (v := 1) S.1 S.2.1 dL_law_1865 (by decide) ?_
  refine lv_iadd S.1 S.2.1 dL_law_1866 ?_
  refine fx_topi (y := 1) (by decide) ?_
  refine gx_sld (v := 0) S hG hX hbl (fin_l (by decide)) hx1 dL_law_1867 ?_
  refine lv_aload_n S.1 S.2.1 dL_law_1868 rfl (lv_at hl 0 rfl) ?_
  refine lv_iload S.1 S.2.1 dL_law_1869 (lv_at hl 5 rfl) ?_
  refine lv_iconst (v := 2) S.1 S.2.1 dL_law_1871 (by decide) ?_
  refine lv_iadd S.1 S.2.1 dL_law_1872 ?_
  refine fx_topi (y := 2) (by decide) ?_
  refine gx_sld (v := a2) S hG hX hbl (fin_l (by decide)) hx2 dL_law_1873 ?_
  refine lv_aload_n S.1 S.2.1 dL_law_1874 rfl (lv_at hl 3 rfl) ?_
  refine fx_cTi (As := [.ref N0, .int 0, .int a2, .ref (N0 + 229)]) (rest := []) S hG (k1297_L_distanceByMatchings g_a2_le_m1 hst (by omega) h0 h1) (vx_cwSW 4 S.2.2.2.2 gL_law_L_distanceByMatchings rfl rfl rfl (by decide +kernel) ⟨Nat.le_of_ble_eq_true rfl, Nat.le_of_ble_eq_true rfl⟩) rfl hl.1 rfl (Nat.le_of_ble_eq_true rfl) dL_law_1875 ⟨Nat.le_of_ble_eq_true rfl, Nat.le_of_ble_eq_true rfl⟩ (fun rv_u_1 u_1 H locs hp hG => ?_)
  obtain ⟨rfl, hu_1⟩ := hp
  refine W.widen (k := 232) (n := 4986) (by decide) (by decide) ?_
  refine lv_istore (lv' := [(6, .int 1), (0, .ref b), (1, .ref N0), (2, .ref (N0 + 164)), (3, .ref (N0 + 229)), (4, .ref (N0 + 230)), (5, .int 0)]) S.1 S.2.1 dL_law_1878 hl (by decide) rfl (fun ls hl => ?_)
  refine lv_aload_n S.1 S.2.1 dL_law_1880 rfl (lv_at hl 3 rfl) ?_
  refine lv_aload_n S.1 S.2.1 dL_law_1881 rfl (lv_at hl 1 rfl) ?_
  refine lv_iload S.1 S.2.1 dL_law_1882 (lv_at hl 6 rfl) ?_
  refine lv_iconst (v := 1) S.1 S.2.1 dL_law_1884 (by decide) ?_
  refine lv_iadd S.1 S.2.1 dL_law_1885 ?_
  refine fx_topi (y := 1) (by decide) ?_
  refine gx_sld (v := 0) S hG hX hbl (fin_l (by decide)) hx1 dL_law_1886 ?_
  refine lv_aload_n S.1 S.2.1 dL_law_1887 rfl (lv_at hl 1 rfl) ?_
  refine lv_iload S.1 S.2.1 dL_law_1888 (lv_at hl 6 rfl) ?_
  refine lv_iconst (v := 2) S.1 S.2.1 dL_law_1890 (by decide) ?_
  refine lv_iadd S.1 S.2.1 dL_law_1891 ?_
  refine fx_topi (y := 2) (by decide) ?_
  refine gx_sld (v := a2) S hG hX hbl (fin_l (by decide)) hx2 dL_law_1892 ?_
  refine fx_cVi (As := [.int 0, .int a2]) (rest := []) S hG (k1298_X10_distanceByMatchings g_a2_le_m1 (by omega) h2) h2 rfl (cwV 2 S.2.2.2.2 gL_law_X10_distanceByMatchings rfl rfl rfl (by decide +kernel) ⟨Nat.le_of_ble_eq_true rfl, Nat.le_of_ble_eq_true rfl⟩) rfl hl.1 rfl (Nat.le_of_ble_eq_true rfl) dL_law_1893 ⟨Nat.le_of_ble_eq_true rfl, Nat.le_of_ble_eq_true rfl⟩ (fun rv_2 _ H locs hp hG => ?_)
  subst rv_2
  refine lv_istore (lv' := [(7, .int 0), (6, .int 1), (0, .ref b), (1, .ref N0), (2, .ref (N0 + 164)), (3, .ref (N0 + 229)), (4, .ref (N0 + 230)), (5, .int 0)]) S.1 S.2.1 dL_law_1896 hl (by decide) rfl (fun ls hl => ?_)
  refine lv_aload_n S.1 S.2.1 dL_law_1898 rfl (lv_at hl 4 rfl) ?_
  refine fx_cVi (As := []) (rest := []) S hG (k25_X10_thrown (by omega) fu_s) fu_s rfl (cwV 0 S.2.2.2.2 gL_law_X10_thrown rfl rfl rfl (by decide +kernel) ⟨Nat.le_of_ble_eq_true rfl, Nat.le_of_ble_eq_true rfl⟩) rfl hl.1 rfl (Nat.le_of_ble_eq_true rfl) dL_law_1899 ⟨Nat.le_of_ble_eq_true rfl, Nat.le_of_ble_eq_true rfl⟩ (fun rv_3 _ H locs hp hG => ?_)
  subst rv_3
  refine lv_iload S.1 S.2.1 dL_law_1902 (lv_at hl 1 rfl) ?_
  refine lv_icmp_eq (tgt := 1909) S.1 S.2.1 dL_law_1904 (by decide) (fun _ => ?_) (fun c => absurd (by decide) c)
  refine lv_iload S.1 S.2.1 dL_law_1909 (lv_at hl 1 rfl) ?_
  refine lv_if_ne (tgt := 1926) S.1 S.2.1 dL_law_1911 (by decide) (fun _ => ?_) (fun c => absurd c (by decide))
  refine lv_goto (tgt := 2650) S.1 S.2.1 dL_law_1926 (by decide) ?_
  refine lv_iinc (v := 5) (lv' := [(5, .int 5), (7, .int 0), (6, .int 1), (0, .ref b), (1, .ref N0), (2, .ref (N0 + 164)), (3, .ref (N0 + 229)), (4, .ref (N0 + 230))]) S.1 S.2.1 dL_law_2650 hl (k := 7) rfl (by decide) (by decide) rfl (fun ls hl => ?_)
  refine lv_goto (tgt := 28) S.1 S.2.1 dL_law_2653 (by decide) ?_
  refine lv_iload S.1 S.2.1 dL_law_28 (lv_at hl 0 rfl) ?_
  refine lv_aload_n S.1 S.2.1 dL_law_30 rfl (lv_at hl 3 rfl) ?_
  refine gx_slen (v := 5) S hG hX hbl rfl dL_law_31 ?_
  refine lv_iconst (v := 5) S.1 S.2.1 dL_law_32 (by decide) ?_
  refine lv_isub S.1 S.2.1 dL_law_33 ?_
  refine fx_topi (y := 0) (by decide) ?_
  refine lv_icmp_gt (tgt := 2656) S.1 S.2.1 dL_law_34 (by decide) (fun _ => ?_) (fun c => absurd (by decide) c)
  refine lv_iconst (v := 1) S.1 S.2.1 dL_law_2656 (by decide) ?_
  refine va_forget (fun q hq => by rw [hN]; exact hG.2.1.2.2 q hq) ?_
  refine W.widen (k := 600002) (n := 7302232) (by decide) (by decide) ?_
  exact lw_ret (d0 := s.drawn) (Drawn.sameBut.refl _ _) S.1 S.2.1 hr hlocks dL_law_2657
theorem l24_2 {p : Program} {e : Env} {s : State} {m : MethodId} {below : List Frame} {meth : Method} {c : Code} {b : Nat} {xs : Nat → Int32} {H : Heap} {locs : List Loc} {ls : Array Slot} {n : Nat} {a3 a4 : Int32} (S : CallFix p m c cL_law 9 s #[.ref b] wsL_law "TreeDifferLaw") (hr : meth.sig.returnType = ret) (hlocks : meth.locks = false) (hst : l.stackTraces = false) (hX : va_X b 5 xs s s.heap) (hbl : b < s.heap.size ∧ b < N0) (hN : s.heap.size = N0) (hn : N0 + 231 ≤ n) (hx1 : xs 1 = 0) (hx2 : xs 2 = 0) (hx3 : xs 3 = a3) (hx4 : xs 4 = a4) (h0 : F N0 = some (.inr (9, [.ref (N0 + 1), .ref (N0 + 2), .ref (N0 + 11), .ref (N0 + 13), .ref (N0 + 63), .ref (N0 + 65), .ref (N0 + 85), .int (-1), .int (-1), .int 32]))) (h1 : F (N0 + 1) = some (.inl (cTr, 3, .inr (.inr (.inr (.inr (va_up (va_up (va_up (fun _ => none) 0 (some (N0 + 143))) 1 (some (N0 + 150))) 2 (some (N0 + 157))))))))) (h2 : F (N0 + 143) = some (.inr (7, [.ref (N0 + 144), .ref (N0 + 145), .ref (N0 + 146), .ref (N0 + 147), .ref (N0 + 148), .ref (N0 + 149), .int 1]))) (h3 : F (N0 + 63) = some (.inr (8, [.ref (N0 + 64), .int 0]))) (h4 : F (N0 + 64) = some (.inl (cI, 7, .inl (fun _ => 0)))) (h5 : F (N0 + 144) = some (.inl (cC, 20, .inl (upd (fun _ => 0) 0 97)))) (h6 : F (N0 + 146) = some (.inl (cI, 20, .inl (fun _ => 0)))) (h7 : F (N0 + 229) = some (.inl (cL, 1, .inr (.inl (fun _ => 0))))) (h8 : F (N0 + 164) = some (.inr (12, [.ref (N0 + 165), .int 0, .ref (N0 + 181), .int 0, .int 0, .int 0, .int (-1), .ref (ql 24), .ref (N0 + 182), .ref (N0 + 187), .ref (N0 + 208), .ref (N0 + 209), .ref (N0 + 210), .ref (N0 + 211), .ref (N0 + 212), .int 0, .ref (N0 + 213), .ref (N0 + 218), .ref (N0 + 223), .ref (N0 + 224), .ref (N0 + 225), .ref (N0 + 226), .ref (N0 + 227), .int 0, .int 0, .ref (N0 + 228), .null, .int (-1), .int 0, .int 0, .int 0]))) (h9 : F (N0 + 165) = some (.inl (cTm, 3, .inr (.inr (.inr (.inr (va_up (va_up (va_up (fun _ => none) 0 (some (N0 + 166))) 1 (some (N0 + 171))) 2 (some (N0 + 176))))))))) (h10 : F (N0 + 166) = some (.inr (11, [.ref (N0 + 167), .ref (N0 + 168), .ref (N0 + 169), .ref (N0 + 170), .int 1]))) (h11 : F (N0 + 167) = some (.inl (cI, 20, .inl (upd (fun _ => 0) 0 97)))) (h12 : F (N0 + 169) = some (.inl (cI, 20, .inl (upd (fun _ => 0) 0 0)))) (h13 : F (N0 + 187) = some (.inl (cII, 20, .inr (.inr (.inr (.inr (fun j => if j < 20 then some ((N0 + 188) + j) else none))))))) (h14 : F (N0 + 188) = some (.inl (cI, 20, .inl (fun _ => 0)))) (hG : fG N0 D vwCl (fty cI cC cL cD cII cTr cTm cIt cB) (fen ql) s F n H locs) (hl : lv_has ls 9 [(0, .ref b), (1, .ref N0), (2, .ref (N0 + 164)), (3, .ref (N0 + 229)), (4, .ref (N0 + 230)), (5, .int 0)]) : W p l e { frames := 2048, cells := 600002, slots := 7302232, locals := 84000 } s m #[.ref b] below meth c H locs 231 4980 (lw_Z below #[.ref b] s) (F0 m 1861 ls []) := by
  have lt_h0 := hG.1.lt h0
  have lt_h1 := hG.1.lt h1
  have lt_h2 := hG.1.lt h2
  have lt_h3 := hG.1.lt h3
  have lt_h4 := hG.1.lt h4
  have lt_h5 := hG.1.lt h5
  have lt_h6 := hG.1.lt h6
  have lt_h7 := hG.1.lt h7
  have lt_h8 := hG.1.lt h8
  have lt_h9 := hG.1.lt h9
  have lt_h10 := hG.1.lt h10
  have lt_h11 := hG.1.lt h11
  have lt_h12 := hG.1.lt h12
  have lt_h13 := hG.1.lt h13
  have lt_h14 := hG.1.lt h14
  refine lv_aload_n S.1 S.2.1 dL_law_1861 rfl (lv_at hl 1 rfl) ?_
  refine lv_aload_n S.1 S.2.1 dL_law_1862 rfl (lv_at hl 0 rfl) ?_
  refine lv_iload S.1 S.2.1 dL_law_1863 (lv_at hl 5 rfl) ?_
  refine lv_iconst (v := 1) S.1 S.2.1 dL_law_1865 (by decide) ?_
  refine lv_iadd S.1 S.2.1 dL_law_1866 ?_
  refine fx_topi (y := 1) (by decide) ?_
  refine gx_sld (v := 0) S hG hX hbl (fin_l (by decide)) hx1 dL_law_1867 ?_
  refine lv_aload_n S.1 S.2.1 dL_law_1868 rfl (lv_at hl 0 rfl) ?_
  refine lv_iload S.1 S.2.1 dL_law_1869 (lv_at hl 5 rfl) ?_
  refine lv_iconst (v := 2) S.1 S.2.1 dL_law_1871 (by decide) ?_
  refine lv_iadd S.1 S.2.1 dL_law_1872 ?_
  refine fx_topi (y := 2) (by decide) ?_
  refine gx_sld (v := 0) S hG hX hbl (fin_l (by decide)) hx2 dL_law_1873 ?_
  refine lv_aload_n S.1 S.2.1 dL_law_1874 rfl (lv_at hl 3 rfl) ?_
  refine fx_cTi (As := [.ref N0, .int 0, .int 0, .ref (N0 + 229)]) (rest := []) S hG (k1303_L_distanceByMatchings (by omega) h0 h1 h2 h3 h4 h5 h6 h7) (vx_cwSW 4 S.2.2.2.2 gL_law_L_distanceByMatchings rfl rfl rfl (by decide +kernel) ⟨Nat.le_of_ble_eq_true rfl, Nat.le_of_ble_eq_true rfl⟩) rfl hl.1 rfl (Nat.le_of_ble_eq_true rfl) dL_law_1875 ⟨Nat.le_of_ble_eq_true rfl, Nat.le_of_ble_eq_true rfl⟩ (fun rv_1 _ H locs hp hG => ?_)
  subst rv_1
  refine lv_istore (lv' := [(6, .int 0), (0, .ref b), (1, .ref N0), (2, .ref (N0 + 164)), (3, .ref (N0 + 229)), (4, .ref (N0 + 230)), (5, .int 0)]) S.1 S.2.1 dL_law_1878 hl (by decide) rfl (fun ls hl => ?_)
  refine lv_aload_n S.1 S.2.1 dL_law_1880 rfl (lv_at hl 3 rfl) ?_
  refine lv_aload_n S.1 S.2.1 dL_law_1881 rfl (lv_at hl 1 rfl) ?_
  refine lv_iload S.1 S.2.1 dL_law_1882 (lv_at hl 6 rfl) ?_
  refine lv_iconst (v := 1) S.1 S.2.1 dL_law_1884 (by decide) ?_
  refine lv_iadd S.1 S.2.1 dL_law_1885 ?_
  refine fx_topi (y := 1) (by decide) ?_
  refine gx_sld (v := 0) S hG hX hbl (fin_l (by decide)) hx1 dL_law_1886 ?_
  refine lv_aload_n S.1 S.2.1 dL_law_1887 rfl (lv_at hl 1 rfl) ?_
  refine lv_iload S.1 S.2.1 dL_law_1888 (lv_at hl 6 rfl) ?_
  refine lv_iconst (v := 2) S.1 S.2.1 dL_law_1890 (by decide) ?_
  refine lv_iadd S.1 S.2.1 dL_law_1891 ?_
  refine fx_topi (y := 2) (by decide) ?_
  refine gx_sld (v := 0) S hG hX hbl (fin_l (by decide)) hx2 dL_law_1892 ?_
  refine fx_cVi (As := [.int 0, .int 0]) (rest := []) S hG (k1304_X10_distanceByMatchings (by omega) (fu_at (by omega) (fu_at (by omega) (fu_at (by omega) h8))) (fu_at (by omega) (fu_at (by omega) (fu_at (by omega) h9))) (fu_at (by omega) (fu_at (by omega) (fu_at (by omega) h10))) (fu_at (by omega) (fu_at (by omega) (fu_at (by omega) h11))) (fu_at (by omega) (fu_at (by omega) (fu_at (by omega) h12))) (fu_at (by omega) (fu_at (by omega) (fu_at (by omega) h13))) (fu_at (by omega) (fu_at (by omega) (fu_at (by omega) h14)))) (fu_at (by omega) (fu_at (by omega) (fu_at (by omega) h8))) rfl (cwV 2 S.2.2.2.2 gL_law_X10_distanceByMatchings rfl rfl rfl (by decide +kernel) ⟨Nat.le_of_ble_eq_true rfl, Nat.le_of_ble_eq_true rfl⟩) rfl hl.1 rfl (Nat.le_of_ble_eq_true rfl) dL_law_1893 ⟨Nat.le_of_ble_eq_true rfl, Nat.le_of_ble_eq_true rfl⟩ (fun rv_2 _ H locs hp hG => ?_)
  subst rv_2
  refine W.widen (k := 235) (n := 4982) (by decide) (by decide) ?_
  refine lv_istore (lv' := [(7, .int 0), (6, .int 0), (0, .ref b), (1, .ref N0), (2, .ref (N0 + 164)), (3, .ref (N0 + 229)), (4, .ref (N0 + 230)), (5, .int 0)]) S.1 S.2.1 dL_law_1896 hl (by decide) rfl (fun ls hl => ?_)
  refine lv_aload_n S.1 S.2.1 dL_law_1898 rfl (lv_at hl 4 rfl) ?_
  refine fx_cVi (As := []) (rest := []) S hG (k117_X10_thrown (by omega) (fblk_sk 4 rfl (by omega) (fu_at (by omega) fu_s))) (fblk_sk 4 rfl (by omega) (fu_at (by omega) fu_s)) rfl (cwV 0 S.2.2.2.2 gL_law_X10_thrown rfl rfl rfl (by decide +kernel) ⟨Nat.le_of_ble_eq_true rfl, Nat.le_of_ble_eq_true rfl⟩) rfl hl.1 rfl (Nat.le_of_ble_eq_true rfl) dL_law_1899 ⟨Nat.le_of_ble_eq_true rfl, Nat.le_of_ble_eq_true rfl⟩ (fun rv_3 _ H locs hp hG => ?_)
  subst rv_3
  refine lv_iload S.1 S.2.1 dL_law_1902 (lv_at hl 1 rfl) ?_
  refine lv_icmp_eq (tgt := 1909) S.1 S.2.1 dL_law_1904 (by decide) (fun _ => ?_) (fun c => absurd (by decide) c)
  refine lv_iload S.1 S.2.1 dL_law_1909 (lv_at hl 1 rfl) ?_
  refine lv_if_ne (tgt := 1926) S.1 S.2.1 dL_law_1911 (by decide) (fun c => absurd (by decide) c) (fun _ => ?_)
  refine lv_aload_n S.1 S.2.1 dL_law_1914 rfl (lv_at hl 5 rfl) ?_
  refine lv_iconst (v := 0) S.1 S.2.1 dL_law_1915 (by decide) ?_
  refine gx_lald (v := 0) S hG 2 (fblk_sk 4 rfl (by omega) (fu_at (by omega) (fu_at (by omega) fu_s))) rfl (fin_l (by decide)) rfl dL_law_1916 ?_
  refine lv_iload S.1 S.2.1 dL_law_1917 (lv_at hl 0 rfl) ?_
  refine lv_i2l (v := 0) S.1 S.2.1 dL_law_1919 (by decide) ?_
  refine gx_lcmpEq S rfl dL_law_1920 ?_
  refine lv_if_eq (tgt := 1926) S.1 S.2.1 dL_law_1921 (by decide) (fun _ => ?_) (fun c => absurd (by decide) c)
  refine lv_goto (tgt := 2650) S.1 S.2.1 dL_law_1926 (by decide) ?_
  refine lv_iinc (v := 5) (lv' := [(5, .int 5), (7, .int 0), (6, .int 0), (0, .ref b), (1, .ref N0), (2, .ref (N0 + 164)), (3, .ref (N0 + 229)), (4, .ref (N0 + 230))]) S.1 S.2.1 dL_law_2650 hl (k := 7) rfl (by decide) (by decide) rfl (fun ls hl => ?_)
  refine lv_goto (tgt := 28) S.1 S.2.1 dL_law_2653 (by decide) ?_
  refine lv_iload S.1 S.2.1 dL_law_28 (lv_at hl 0 rfl) ?_
  refine lv_aload_n S.1 S.2.1 dL_law_30 rfl (lv_at hl 3 rfl) ?_
  refine gx_slen (v := 5) S hG hX hbl rfl dL_law_31 ?_
  refine lv_iconst (v := 5) S.1 S.2.1 dL_law_32 (by decide) ?_
  refine lv_isub S.1 S.2.1 dL_law_33 ?_
  refine fx_topi (y := 0) (by decide) ?_
  refine lv_icmp_gt (tgt := 2656) S.1 S.2.1 dL_law_34 (by decide) (fun _ => ?_) (fun c => absurd (by decide) c)
  refine lv_iconst (v := 1) S.1 S.2.1 dL_law_2656 (by decide) ?_
  refine va_forget (fun q hq => by rw [hN]; exact hG.2.1.2.2 q hq) ?_
  refine W.widen (k := 600002) (n := 7302232) (by decide) (by decide) ?_
  exact lw_ret (d0 := s.drawn) (Drawn.sameBut.refl _ _) S.1 S.2.1 hr hlocks dL_law_2657
theorem l24_3 {p : Program} {e : Env} {s : State} {m : MethodId} {below : List Frame} {meth : Method} {c : Code} {b : Nat} {xs : Nat → Int32} {H : Heap} {locs : List Loc} {ls : Array Slot} {n : Nat} {a3 a4 : Int32} (S : CallFix p m c cL_law 9 s #[.ref b] wsL_law "TreeDifferLaw") (hr : meth.sig.returnType = ret) (hlocks : meth.locks = false) (hst : l.stackTraces = false) (hX : va_X b 5 xs s s.heap) (hbl : b < s.heap.size ∧ b < N0) (hN : s.heap.size = N0) (hn : N0 + 231 ≤ n) (hx1 : xs 1 = 0) (hx2 : xs 2 = 1) (hx3 : xs 3 = a3) (hx4 : xs 4 = a4) (h0 : F N0 = some (.inr (9, [.ref (N0 + 1), .ref (N0 + 2), .ref (N0 + 11), .ref (N0 + 13), .ref (N0 + 63), .ref (N0 + 65), .ref (N0 + 85), .int (-1), .int (-1), .int 32]))) (h1 : F (N0 + 1) = some (.inl (cTr, 3, .inr (.inr (.inr (.inr (va_up (va_up (va_up (fun _ => none) 0 (some (N0 + 143))) 1 (some (N0 + 150))) 2 (some (N0 + 157))))))))) (h2 : F (N0 + 143) = some (.inr (7, [.ref (N0 + 144), .ref (N0 + 145), .ref (N0 + 146), .ref (N0 + 147), .ref (N0 + 148), .ref (N0 + 149), .int 1]))) (h3 : F (N0 + 150) = some (.inr (7, [.ref (N0 + 151), .ref (N0 + 152), .ref (N0 + 153), .ref (N0 + 154), .ref (N0 + 155), .ref (N0 + 156), .int 1]))) (h4 : F (N0 + 63) = some (.inr (8, [.ref (N0 + 64), .int 0]))) (h5 : F (N0 + 64) = some (.inl (cI, 7, .inl (fun _ => 0)))) (h6 : F (N0 + 144) = some (.inl (cC, 20, .inl (upd (fun _ => 0) 0 97)))) (h7 : F (N0 + 151) = some (.inl (cC, 20, .inl (upd (fun _ => 0) 0 97)))) (h8 : F (N0 + 146) = some (.inl (cI, 20, .inl (fun _ => 0)))) (h9 : F (N0 + 153) = some (.inl (cI, 20, .inl (fun _ => 0)))) (h10 : F (N0 + 229) = some (.inl (cL, 1, .inr (.inl (fun _ => 0))))) (h11 : F (N0 + 164) = some (.inr (12, [.ref (N0 + 165), .int 0, .ref (N0 + 181), .int 0, .int 0, .int 0, .int (-1), .ref (ql 24), .ref (N0 + 182), .ref (N0 + 187), .ref (N0 + 208), .ref (N0 + 209), .ref (N0 + 210), .ref (N0 + 211), .ref (N0 + 212), .int 0, .ref (N0 + 213), .ref (N0 + 218), .ref (N0 + 223), .ref (N0 + 224), .ref (N0 + 225), .ref (N0 + 226), .ref (N0 + 227), .int 0, .int 0, .ref (N0 + 228), .null, .int (-1), .int 0, .int 0, .int 0]))) (h12 : F (N0 + 165) = some (.inl (cTm, 3, .inr (.inr (.inr (.inr (va_up (va_up (va_up (fun _ => none) 0 (some (N0 + 166))) 1 (some (N0 + 171))) 2 (some (N0 + 176))))))))) (h13 : F (N0 + 166) = some (.inr (11, [.ref (N0 + 167), .ref (N0 + 168), .ref (N0 + 169), .ref (N0 + 170), .int 1]))) (h14 : F (N0 + 171) = some (.inr (11, [.ref (N0 + 172), .ref (N0 + 173), .ref (N0 + 174), .ref (N0 + 175), .int 1]))) (h15 : F (N0 + 167) = some (.inl (cI, 20, .inl (upd (fun _ => 0) 0 97)))) (h16 : F (N0 + 172) = some (.inl (cI, 20, .inl (upd (fun _ => 0) 0 97)))) (h17 : F (N0 + 169) = some (.inl (cI, 20, .inl (upd (fun _ => 0) 0 0)))) (h18 : F (N0 + 174) = some (.inl (cI, 20, .inl (upd (fun _ => 0) 0 0)))) (h19 : F (N0 + 187) = some (.inl (cII, 20, .inr (.inr (.inr (.inr (fun j => if j < 20 then some ((N0 + 188) + j) else none))))))) (h20 : F (N0 + 188) = some (.inl (cI, 20, .inl (fun _ => 0)))) (hG : fG N0 D vwCl (fty cI cC cL cD cII cTr cTm cIt cB) (fen ql) s F n H locs) (hl : lv_has ls 9 [(0, .ref b), (1, .ref N0), (2, .ref (N0 + 164)), (3, .ref (N0 + 229)), (4, .ref (N0 + 230)), (5, .int 0)]) : W p l e { frames := 2048, cells := 600002, slots := 7302232, locals := 84000 } s m #[.ref b] below meth c H locs 231 4980 (lw_Z below #[.ref b] s) (F0 m 1861 ls []) := by
  have lt_h0 := hG.1.lt h0
  have lt_h1 := hG.1.lt h1
  have lt_h2 := hG.1.lt h2
  have lt_h3 := hG.1.lt h3
  have lt_h4 := hG.1.lt h4
  have lt_h5 := hG.1.lt h5
  have lt_h6 := hG.1.lt h6
  have lt_h7 := hG.1.lt h7
  have lt_h8 := hG.1.lt h8
  have lt_h9 := hG.1.lt h9
  have lt_h10 := hG.1.lt h10
  have lt_h11 := hG.1.lt h11
  have lt_h12 := hG.1.lt h12
  have lt_h13 := hG.1.lt h13
  have lt_h14 := hG.1.lt h14
  have lt_h15 := hG.1.lt h15
  have lt_h16 := hG.1.lt h16
  have lt_h17 := hG.1.lt h17
  have lt_h18 := hG.1.lt h18
  have lt_h19 := hG.1.lt h19
  have lt_h20 := hG.1.lt h20
  refine lv_aload_n S.1 S.2.1 dL_law_1861 rfl (lv_at hl 1 rfl) ?_
  refine lv_aload_n S.1 S.2.1 dL_law_1862 rfl (lv_at hl 0 rfl) ?_
  refine lv_iload S.1 S.2.1 dL_law_1863 (lv_at hl 5 rfl) ?_
  refine lv_iconst (v := 1) S.1 S.2.1 dL_law_1865 (by decide) ?_
  refine lv_iadd S.1 S.2.1 dL_law_1866 ?_
  refine fx_topi (y := 1) (by decide) ?_
  refine gx_sld (v := 0) S hG hX hbl (fin_l (by decide)) hx1 dL_law_1867 ?_
  refine lv_aload_n S.1 S.2.1 dL_law_1868 rfl (lv_at hl 0 rfl) ?_
  refine lv_iload S.1 S.2.1 dL_law_1869 (lv_at hl 5 rfl) ?_
  refine lv_iconst (v := 2) S.1 S.2.1 dL_law_1871 (by decide) ?_
  refine lv_iadd S.1 S.2.1 dL_law_1872 ?_
  refine fx_topi (y := 2) (by decide) ?_
  refine gx_sld (v := 1) S hG hX hbl (fin_l (by decide)) hx2 dL_law_1873 ?_
  refine lv_aload_n S.1 S.2.1 dL_law_1874 rfl (lv_at hl 3 rfl) ?_
  refine fx_cTi (As := [.ref N0, .int 0, .int 1, .ref (N0 + 229)]) (rest := []) S hG (k1309_L_distanceByMatchings (by omega) h0 h1 h2 h3 h4 h5 h6 h7 h8 h9 h10) (vx_cwSW 4 S.2.2.2.2 gL_law_L_distanceByMatchings rfl rfl rfl (by decide +kernel) ⟨Nat.le_of_ble_eq_true rfl, Nat.le_of_ble_eq_true rfl⟩) rfl hl.1 rfl (Nat.le_of_ble_eq_true rfl) dL_law_1875 ⟨Nat.le_of_ble_eq_true rfl, Nat.le_of_ble_eq_true rfl⟩ (fun rv_1 _ H locs hp hG => ?_)
  subst rv_1
  refine lv_istore (lv' := [(6, .int 0), (0, .ref b), (1, .ref N0), (2, .ref (N0 + 164)), (3, .ref (N0 + 229)), (4, .ref (N0 + 230)), (5, .int 0)]) S.1 S.2.1 dL_law_1878 hl (by decide) rfl (fun ls hl => ?_)
  refine lv_aload_n S.1 S.2.1 dL_law_1880 rfl (lv_at hl 3 rfl) ?_
  refine lv_aload_n S.1 S.2.1 dL_law_1881 rfl (lv_at hl 1 rfl) ?_
  refine lv_iload S.1 S.2.1 dL_law_1882 (lv_at hl 6 rfl) ?_
  refine lv_iconst (v := 1) S.1 S.2.1 dL_law_1884 (by decide) ?_
  refine lv_iadd S.1 S.2.1 dL_law_1885 ?_
  refine fx_topi (y := 1) (by decide) ?_
  refine gx_sld (v := 0) S hG hX hbl (fin_l (by decide)) hx1 dL_law_1886 ?_
  refine lv_aload_n S.1 S.2.1 dL_law_1887 rfl (lv_at hl 1 rfl) ?_
  refine lv_iload S.1 S.2.1 dL_law_1888 (lv_at hl 6 rfl) ?_
  refine lv_iconst (v := 2) S.1 S.2.1 dL_law_1890 (by decide) ?_
  refine lv_iadd S.1 S.2.1 dL_law_1891 ?_
  refine fx_topi (y := 2) (by decide) ?_
  refine gx_sld (v := 1) S hG hX hbl (fin_l (by decide)) hx2 dL_law_1892 ?_
  refine fx_cVi (As := [.int 0, .int 1]) (rest := []) S hG (k1310_X10_distanceByMatchings (by omega) (fu_at (by omega) (fu_at (by omega) (fu_at (by omega) h11))) (fu_at (by omega) (fu_at (by omega) (fu_at (by omega) h12))) (fu_at (by omega) (fu_at (by omega) (fu_at (by omega) h13))) (fu_at (by omega) (fu_at (by omega) (fu_at (by omega) h14))) (fu_at (by omega) (fu_at (by omega) (fu_at (by omega) h15))) (fu_at (by omega) (fu_at (by omega) (fu_at (by omega) h16))) (fu_at (by omega) (fu_at (by omega) (fu_at (by omega) h17))) (fu_at (by omega) (fu_at (by omega) (fu_at (by omega) h18))) (fu_at (by omega) (fu_at (by omega) (fu_at (by omega) h19))) (fu_at (by omega) (fu_at (by omega) (fu_at (by omega) h20)))) (fu_at (by omega) (fu_at (by omega) (fu_at (by omega) h11))) rfl (cwV 2 S.2.2.2.2 gL_law_X10_distanceByMatchings rfl rfl rfl (by decide +kernel) ⟨Nat.le_of_ble_eq_true rfl, Nat.le_of_ble_eq_true rfl⟩) rfl hl.1 rfl (Nat.le_of_ble_eq_true rfl) dL_law_1893 ⟨Nat.le_of_ble_eq_true rfl, Nat.le_of_ble_eq_true rfl⟩ (fun rv_2 _ H locs hp hG => ?_)
  subst rv_2
  refine W.widen (k := 235) (n := 4982) (by decide) (by decide) ?_
  refine lv_istore (lv' := [(7, .int 0), (6, .int 0), (0, .ref b), (1, .ref N0), (2, .ref (N0 + 164)), (3, .ref (N0 + 229)), (4, .ref (N0 + 230)), (5, .int 0)]) S.1 S.2.1 dL_law_1896 hl (by decide) rfl (fun ls hl => ?_)
  refine lv_aload_n S.1 S.2.1 dL_law_1898 rfl (lv_at hl 4 rfl) ?_
  refine fx_cVi (As := []) (rest := []) S hG (k117_X10_thrown (by omega) (fblk_sk 4 rfl (by omega) (fu_at (by omega) fu_s))) (fblk_sk 4 rfl (by omega) (fu_at (by omega) fu_s)) rfl (cwV 0 S.2.2.2.2 gL_law_X10_thrown rfl rfl rfl (by decide +kernel) ⟨Nat.le_of_ble_eq_true rfl, Nat.le_of_ble_eq_true rfl⟩) rfl hl.1 rfl (Nat.le_of_ble_eq_true rfl) dL_law_1899 ⟨Nat.le_of_ble_eq_true rfl, Nat.le_of_ble_eq_true rfl⟩ (fun rv_3 _ H locs hp hG => ?_)
  subst rv_3
  refine lv_iload S.1 S.2.1 dL_law_1902 (lv_at hl 1 rfl) ?_
  refine lv_icmp_eq (tgt := 1909) S.1 S.2.1 dL_law_1904 (by decide) (fun _ => ?_) (fun c => absurd (by decide) c)
  refine lv_iload S.1 S.2.1 dL_law_1909 (lv_at hl 1 rfl) ?_
  refine lv_if_ne (tgt := 1926) S.1 S.2.1 dL_law_1911 (by decide) (fun c => absurd (by decide) c) (fun _ => ?_)
  refine lv_aload_n S.1 S.2.1 dL_law_1914 rfl (lv_at hl 5 rfl) ?_
  refine lv_iconst (v := 0) S.1 S.2.1 dL_law_1915 (by decide) ?_
  refine gx_lald (v := 0) S hG 2 (fblk_sk 4 rfl (by omega) (fu_at (by omega) (fu_at (by omega) fu_s))) rfl (fin_l (by decide)) rfl dL_law_1916 ?_
  refine lv_iload S.1 S.2.1 dL_law_1917 (lv_at hl 0 rfl) ?_
  refine lv_i2l (v := 0) S.1 S.2.1 dL_law_1919 (by decide) ?_
  refine gx_lcmpEq S rfl dL_law_1920 ?_
  refine lv_if_eq (tgt := 1926) S.1 S.2.1 dL_law_1921 (by decide) (fun _ => ?_) (fun c => absurd (by decide) c)
  refine lv_goto (tgt := 2650) S.1 S.2.1 dL_law_1926 (by decide) ?_
  refine lv_iinc (v := 5) (lv' := [(5, .int 5), (7, .int 0), (6, .int 0), (0, .ref b), (1, .ref N0), (2, .ref (N0 + 164)), (3, .ref (N0 + 229)), (4, .ref (N0 + 230))]) S.1 S.2.1 dL_law_2650 hl (k := 7) rfl (by decide) (by decide) rfl (fun ls hl => ?_)
  refine lv_goto (tgt := 28) S.1 S.2.1 dL_law_2653 (by decide) ?_
  refine lv_iload S.1 S.2.1 dL_law_28 (lv_at hl 0 rfl) ?_
  refine lv_aload_n S.1 S.2.1 dL_law_30 rfl (lv_at hl 3 rfl) ?_
  refine gx_slen (v := 5) S hG hX hbl rfl dL_law_31 ?_
  refine lv_iconst (v := 5) S.1 S.2.1 dL_law_32 (by decide) ?_
  refine lv_isub S.1 S.2.1 dL_law_33 ?_
  refine fx_topi (y := 0) (by decide) ?_
  refine lv_icmp_gt (tgt := 2656) S.1 S.2.1 dL_law_34 (by decide) (fun _ => ?_) (fun c => absurd (by decide) c)
  refine lv_iconst (v := 1) S.1 S.2.1 dL_law_2656 (by decide) ?_
  refine va_forget (fun q hq => by rw [hN]; exact hG.2.1.2.2 q hq) ?_
  refine W.widen (k := 600002) (n := 7302232) (by decide) (by decide) ?_
  exact lw_ret (d0 := s.drawn) (Drawn.sameBut.refl _ _) S.1 S.2.1 hr hlocks dL_law_2657
theorem l24_4 {p : Program} {e : Env} {s : State} {m : MethodId} {below : List Frame} {meth : Method} {c : Code} {b : Nat} {xs : Nat → Int32} {H : Heap} {locs : List Loc} {ls : Array Slot} {n : Nat} {a3 a4 : Int32} (S : CallFix p m c cL_law 9 s #[.ref b] wsL_law "TreeDifferLaw") (hr : meth.sig.returnType = ret) (hlocks : meth.locks = false) (hst : l.stackTraces = false) (hX : va_X b 5 xs s s.heap) (hbl : b < s.heap.size ∧ b < N0) (hN : s.heap.size = N0) (hn : N0 + 231 ≤ n) (hx1 : xs 1 = 0) (hx2 : xs 2 = 2) (hx3 : xs 3 = a3) (hx4 : xs 4 = a4) (h0 : F N0 = some (.inr (9, [.ref (N0 + 1), .ref (N0 + 2), .ref (N0 + 11), .ref (N0 + 13), .ref (N0 + 63), .ref (N0 + 65), .ref (N0 + 85), .int (-1), .int (-1), .int 32]))) (h1 : F (N0 + 1) = some (.inl (cTr, 3, .inr (.inr (.inr (.inr (va_up (va_up (va_up (fun _ => none) 0 (some (N0 + 143))) 1 (some (N0 + 150))) 2 (some (N0 + 157))))))))) (h2 : F (N0 + 143) = some (.inr (7, [.ref (N0 + 144), .ref (N0 + 145), .ref (N0 + 146), .ref (N0 + 147), .ref (N0 + 148), .ref (N0 + 149), .int 1]))) (h3 : F (N0 + 157) = some (.inr (7, [.ref (N0 + 158), .ref (N0 + 159), .ref (N0 + 160), .ref (N0 + 161), .ref (N0 + 162), .ref (N0 + 163), .int 1]))) (h4 : F (N0 + 63) = some (.inr (8, [.ref (N0 + 64), .int 0]))) (h5 : F (N0 + 64) = some (.inl (cI, 7, .inl (fun _ => 0)))) (h6 : F (N0 + 144) = some (.inl (cC, 20, .inl (upd (fun _ => 0) 0 97)))) (h7 : F (N0 + 158) = some (.inl (cC, 20, .inl (upd (fun _ => 0) 0 97)))) (h8 : F (N0 + 146) = some (.inl (cI, 20, .inl (fun _ => 0)))) (h9 : F (N0 + 160) = some (.inl (cI, 20, .inl (fun _ => 0)))) (h10 : F (N0 + 229) = some (.inl (cL, 1, .inr (.inl (fun _ => 0))))) (h11 : F (N0 + 164) = some (.inr (12, [.ref (N0 + 165), .int 0, .ref (N0 + 181), .int 0, .int 0, .int 0, .int (-1), .ref (ql 24), .ref (N0 + 182), .ref (N0 + 187), .ref (N0 + 208), .ref (N0 + 209), .ref (N0 + 210), .ref (N0 + 211), .ref (N0 + 212), .int 0, .ref (N0 + 213), .ref (N0 + 218), .ref (N0 + 223), .ref (N0 + 224), .ref (N0 + 225), .ref (N0 + 226), .ref (N0 + 227), .int 0, .int 0, .ref (N0 + 228), .null, .int (-1), .int 0, .int 0, .int 0]))) (h12 : F (N0 + 165) = some (.inl (cTm, 3, .inr (.inr (.inr (.inr (va_up (va_up (va_up (fun _ => none) 0 (some (N0 + 166))) 1 (some (N0 + 171))) 2 (some (N0 + 176))))))))) (h13 : F (N0 + 166) = some (.inr (11, [.ref (N0 + 167), .ref (N0 + 168), .ref (N0 + 169), .ref (N0 + 170), .int 1]))) (h14 : F (N0 + 176) = some (.inr (11, [.ref (N0 + 177), .ref (N0 + 178), .ref (N0 + 179), .ref (N0 + 180), .int 1]))) (h15 : F (N0 + 167) = some (.inl (cI, 20, .inl (upd (fun _ => 0) 0 97)))) (h16 : F (N0 + 177) = some (.inl (cI, 20, .inl (upd (fun _ => 0) 0 97)))) (h17 : F (N0 + 169) = some (.inl (cI, 20, .inl (upd (fun _ => 0) 0 0)))) (h18 : F (N0 + 179) = some (.inl (cI, 20, .inl (upd (fun _ => 0) 0 0)))) (h19 : F (N0 + 187) = some (.inl (cII, 20, .inr (.inr (.inr (.inr (fun j => if j < 20 then some ((N0 + 188) + j) else none))))))) (h20 : F (N0 + 188) = some (.inl (cI, 20, .inl (fun _ => 0)))) (hG : fG N0 D vwCl (fty cI cC cL cD cII cTr cTm cIt cB) (fen ql) s F n H locs) (hl : lv_has ls 9 [(0, .ref b), (1, .ref N0), (2, .ref (N0 + 164)), (3, .ref (N0 + 229)), (4, .ref (N0 + 230)), (5, .int 0)]) : W p l e { frames := 2048, cells := 600002, slots := 7302232, locals := 84000 } s m #[.ref b] below meth c H locs 231 4980 (lw_Z below #[.ref b] s) (F0 m 1861 ls []) := by
  have lt_h0 := hG.1.lt h0
  have lt_h1 := hG.1.lt h1
  have lt_h2 := hG.1.lt h2
  have lt_h3 := hG.1.lt h3
  have lt_h4 := hG.1.lt h4
  have lt_h5 := hG.1.lt h5
  have lt_h6 := hG.1.lt h6
  have lt_h7 := hG.1.lt h7
  have lt_h8 := hG.1.lt h8
  have lt_h9 := hG.1.lt h9
  have lt_h10 := hG.1.lt h10
  have lt_h11 := hG.1.lt h11
  have lt_h12 := hG.1.lt h12
  have lt_h13 := hG.1.lt h13
  have lt_h14 := hG.1.lt h14
  have lt_h15 := hG.1.lt h15
  have lt_h16 := hG.1.lt h16
  have lt_h17 := hG.1.lt h17
  have lt_h18 := hG.1.lt h18
  have lt_h19 := hG.1.lt h19
  have lt_h20 := hG.1.lt h20
  refine lv_aload_n S.1 S.2.1 dL_law_1861 rfl (lv_at hl 1 rfl) ?_
  refine lv_aload_n S.1 S.2.1 dL_law_1862 rfl (lv_at hl 0 rfl) ?_
  refine lv_iload S.1 S.2.1 dL_law_1863 (lv_at hl 5 rfl) ?_
  refine lv_iconst (v := 1) S.1 S.2.1 dL_law_1865 (by decide) ?_
  refine lv_iadd S.1 S.2.1 dL_law_1866 ?_
  refine fx_topi (y := 1) (by decide) ?_
  refine gx_sld (v := 0) S hG hX hbl (fin_l (by decide)) hx1 dL_law_1867 ?_
  refine lv_aload_n S.1 S.2.1 dL_law_1868 rfl (lv_at hl 0 rfl) ?_
  refine lv_iload S.1 S.2.1 dL_law_1869 (lv_at hl 5 rfl) ?_
  refine lv_iconst (v := 2) S.1 S.2.1 dL_law_1871 (by decide) ?_
  refine lv_iadd S.1 S.2.1 dL_law_1872 ?_
  refine fx_topi (y := 2) (by decide) ?_
  refine gx_sld (v := 2) S hG hX hbl (fin_l (by decide)) hx2 dL_law_1873 ?_
  refine lv_aload_n S.1 S.2.1 dL_law_1874 rfl (lv_at hl 3 rfl) ?_
  refine fx_cTi (As := [.ref N0, .int 0, .int 2, .ref (N0 + 229)]) (rest := []) S hG (k1315_L_distanceByMatchings (by omega) h0 h1 h2 h3 h4 h5 h6 h7 h8 h9 h10) (vx_cwSW 4 S.2.2.2.2 gL_law_L_distanceByMatchings rfl rfl rfl (by decide +kernel) ⟨Nat.le_of_ble_eq_true rfl, Nat.le_of_ble_eq_true rfl⟩) rfl hl.1 rfl (Nat.le_of_ble_eq_true rfl) dL_law_1875 ⟨Nat.le_of_ble_eq_true rfl, Nat.le_of_ble_eq_true rfl⟩ (fun rv_1 _ H locs hp hG => ?_)
  subst rv_1
  refine lv_istore (lv' := [(6, .int 0), (0, .ref b), (1, .ref N0), (2, .ref (N0 + 164)), (3, .ref (N0 + 229)), (4, .ref (N0 + 230)), (5, .int 0)]) S.1 S.2.1 dL_law_1878 hl (by decide) rfl (fun ls hl => ?_)
  refine lv_aload_n S.1 S.2.1 dL_law_1880 rfl (lv_at hl 3 rfl) ?_
  refine lv_aload_n S.1 S.2.1 dL_law_1881 rfl (lv_at hl 1 rfl) ?_
  refine lv_iload S.1 S.2.1 dL_law_1882 (lv_at hl 6 rfl) ?_
  refine lv_iconst (v := 1) S.1 S.2.1 dL_law_1884 (by decide) ?_
  refine lv_iadd S.1 S.2.1 dL_law_1885 ?_
  refine fx_topi (y := 1) (by decide) ?_
  refine gx_sld (v := 0) S hG hX hbl (fin_l (by decide)) hx1 dL_law_1886 ?_
  refine lv_aload_n S.1 S.2.1 dL_law_1887 rfl (lv_at hl 1 rfl) ?_
  refine lv_iload S.1 S.2.1 dL_law_1888 (lv_at hl 6 rfl) ?_
  refine lv_iconst (v := 2) S.1 S.2.1 dL_law_1890 (by decide) ?_
  refine lv_iadd S.1 S.2.1 dL_law_1891 ?_
  refine fx_topi (y := 2) (by decide) ?_
  refine gx_sld (v := 2) S hG hX hbl (fin_l (by decide)) hx2 dL_law_1892 ?_
  refine fx_cVi (As := [.int 0, .int 2]) (rest := []) S hG (k1316_X10_distanceByMatchings (by omega) (fu_at (by omega) (fu_at (by omega) (fu_at (by omega) h11))) (fu_at (by omega) (fu_at (by omega) (fu_at (by omega) h12))) (fu_at (by omega) (fu_at (by omega) (fu_at (by omega) h13))) (fu_at (by omega) (fu_at (by omega) (fu_at (by omega) h14))) (fu_at (by omega) (fu_at (by omega) (fu_at (by omega) h15))) (fu_at (by omega) (fu_at (by omega) (fu_at (by omega) h16))) (fu_at (by omega) (fu_at (by omega) (fu_at (by omega) h17))) (fu_at (by omega) (fu_at (by omega) (fu_at (by omega) h18))) (fu_at (by omega) (fu_at (by omega) (fu_at (by omega) h19))) (fu_at (by omega) (fu_at (by omega) (fu_at (by omega) h20)))) (fu_at (by omega) (fu_at (by omega) (fu_at (by omega) h11))) rfl (cwV 2 S.2.2.2.2 gL_law_X10_distanceByMatchings rfl rfl rfl (by decide +kernel) ⟨Nat.le_of_ble_eq_true rfl, Nat.le_of_ble_eq_true rfl⟩) rfl hl.1 rfl (Nat.le_of_ble_eq_true rfl) dL_law_1893 ⟨Nat.le_of_ble_eq_true rfl, Nat.le_of_ble_eq_true rfl⟩ (fun rv_2 _ H locs hp hG => ?_)
  subst rv_2
  refine W.widen (k := 235) (n := 4982) (by decide) (by decide) ?_
  refine lv_istore (lv' := [(7, .int 0), (6, .int 0), (0, .ref b), (1, .ref N0), (2, .ref (N0 + 164)), (3, .ref (N0 + 229)), (4, .ref (N0 + 230)), (5, .int 0)]) S.1 S.2.1 dL_law_1896 hl (by decide) rfl (fun ls hl => ?_)
  refine lv_aload_n S.1 S.2.1 dL_law_1898 rfl (lv_at hl 4 rfl) ?_
  refine fx_cVi (As := []) (rest := []) S hG (k117_X10_thrown (by omega) (fblk_sk 4 rfl (by omega) (fu_at (by omega) fu_s))) (fblk_sk 4 rfl (by omega) (fu_at (by omega) fu_s)) rfl (cwV 0 S.2.2.2.2 gL_law_X10_thrown rfl rfl rfl (by decide +kernel) ⟨Nat.le_of_ble_eq_true rfl, Nat.le_of_ble_eq_true rfl⟩) rfl hl.1 rfl (Nat.le_of_ble_eq_true rfl) dL_law_1899 ⟨Nat.le_of_ble_eq_true rfl, Nat.le_of_ble_eq_true rfl⟩ (fun rv_3 _ H locs hp hG => ?_)
  subst rv_3
  refine lv_iload S.1 S.2.1 dL_law_1902 (lv_at hl 1 rfl) ?_
  refine lv_icmp_eq (tgt := 1909) S.1 S.2.1 dL_law_1904 (by decide) (fun _ => ?_) (fun c => absurd (by decide) c)
  refine lv_iload S.1 S.2.1 dL_law_1909 (lv_at hl 1 rfl) ?_
  refine lv_if_ne (tgt := 1926) S.1 S.2.1 dL_law_1911 (by decide) (fun c => absurd (by decide) c) (fun _ => ?_)
  refine lv_aload_n S.1 S.2.1 dL_law_1914 rfl (lv_at hl 5 rfl) ?_
  refine lv_iconst (v := 0) S.1 S.2.1 dL_law_1915 (by decide) ?_
  refine gx_lald (v := 0) S hG 2 (fblk_sk 4 rfl (by omega) (fu_at (by omega) (fu_at (by omega) fu_s))) rfl (fin_l (by decide)) rfl dL_law_1916 ?_
  refine lv_iload S.1 S.2.1 dL_law_1917 (lv_at hl 0 rfl) ?_
  refine lv_i2l (v := 0) S.1 S.2.1 dL_law_1919 (by decide) ?_
  refine gx_lcmpEq S rfl dL_law_1920 ?_
  refine lv_if_eq (tgt := 1926) S.1 S.2.1 dL_law_1921 (by decide) (fun _ => ?_) (fun c => absurd (by decide) c)
  refine lv_goto (tgt := 2650) S.1 S.2.1 dL_law_1926 (by decide) ?_
  refine lv_iinc (v := 5) (lv' := [(5, .int 5), (7, .int 0), (6, .int 0), (0, .ref b), (1, .ref N0), (2, .ref (N0 + 164)), (3, .ref (N0 + 229)), (4, .ref (N0 + 230))]) S.1 S.2.1 dL_law_2650 hl (k := 7) rfl (by decide) (by decide) rfl (fun ls hl => ?_)
  refine lv_goto (tgt := 28) S.1 S.2.1 dL_law_2653 (by decide) ?_
  refine lv_iload S.1 S.2.1 dL_law_28 (lv_at hl 0 rfl) ?_
  refine lv_aload_n S.1 S.2.1 dL_law_30 rfl (lv_at hl 3 rfl) ?_
  refine gx_slen (v := 5) S hG hX hbl rfl dL_law_31 ?_
  refine lv_iconst (v := 5) S.1 S.2.1 dL_law_32 (by decide) ?_
  refine lv_isub S.1 S.2.1 dL_law_33 ?_
  refine fx_topi (y := 0) (by decide) ?_
  refine lv_icmp_gt (tgt := 2656) S.1 S.2.1 dL_law_34 (by decide) (fun _ => ?_) (fun c => absurd (by decide) c)
  refine lv_iconst (v := 1) S.1 S.2.1 dL_law_2656 (by decide) ?_
  refine va_forget (fun q hq => by rw [hN]; exact hG.2.1.2.2 q hq) ?_
  refine W.widen (k := 600002) (n := 7302232) (by decide) (by decide) ?_
  exact lw_ret (d0 := s.drawn) (Drawn.sameBut.refl _ _) S.1 S.2.1 hr hlocks dL_law_2657
theorem l24_5 {p : Program} {e : Env} {s : State} {m : MethodId} {below : List Frame} {meth : Method} {c : Code} {b : Nat} {xs : Nat → Int32} {H : Heap} {locs : List Loc} {ls : Array Slot} {n : Nat} {a2 a3 a4 : Int32} (g_a2_ge_3 : 3 ≤ a2) (S : CallFix p m c cL_law 9 s #[.ref b] wsL_law "TreeDifferLaw") (hr : meth.sig.returnType = ret) (hlocks : meth.locks = false) (hst : l.stackTraces = false) (hX : va_X b 5 xs s s.heap) (hbl : b < s.heap.size ∧ b < N0) (hN : s.heap.size = N0) (hn : N0 + 231 ≤ n) (hx1 : xs 1 = 0) (hx2 : xs 2 = a2) (hx3 : xs 3 = a3) (hx4 : xs 4 = a4) (h0 : F N0 = some (.inr (9, [.ref (N0 + 1), .ref (N0 + 2), .ref (N0 + 11), .ref (N0 + 13), .ref (N0 + 63), .ref (N0 + 65), .ref (N0 + 85), .int (-1), .int (-1), .int 32]))) (h1 : F (N0 + 1) = some (.inl (cTr, 3, .inr (.inr (.inr (.inr (va_up (va_up (va_up (fun _ => none) 0 (some (N0 + 143))) 1 (some (N0 + 150))) 2 (some (N0 + 157))))))))) (h2 : F (N0 + 164) = some (.inr (12, [.ref (N0 + 165), .int 0, .ref (N0 + 181), .int 0, .int 0, .int 0, .int (-1), .ref (ql 24), .ref (N0 + 182), .ref (N0 + 187), .ref (N0 + 208), .ref (N0 + 209), .ref (N0 + 210), .ref (N0 + 211), .ref (N0 + 212), .int 0, .ref (N0 + 213), .ref (N0 + 218), .ref (N0 + 223), .ref (N0 + 224), .ref (N0 + 225), .ref (N0 + 226), .ref (N0 + 227), .int 0, .int 0, .ref (N0 + 228), .null, .int (-1), .int 0, .int 0, .int 0]))) (hG : fG N0 D vwCl (fty cI cC cL cD cII cTr cTm cIt cB) (fen ql) s F n H locs) (hl : lv_has ls 9 [(0, .ref b), (1, .ref N0), (2, .ref (N0 + 164)), (3, .ref (N0 + 229)), (4, .ref (N0 + 230)), (5, .int 0)]) : W p l e { frames := 2048, cells := 600002, slots := 7302232, locals := 84000 } s m #[.ref b] below meth c H locs 231 4980 (lw_Z below #[.ref b] s) (F0 m 1861 ls []) := by
  have lt_h0 := hG.1.lt h0
  have lt_h1 := hG.1.lt h1
  have lt_h2 := hG.1.lt h2
  refine lv_aload_n S.1 S.2.1 dL_law_1861 rfl (lv_at hl 1 rfl) ?_
  refine lv_aload_n S.1 S.2.1 dL_law_1862 rfl (lv_at hl 0 rfl) ?_
  refine lv_iload S.1 S.2.1 dL_law_1863 (lv_at hl 5 rfl) ?_
  refine lv_iconst (v := 1) S.1 S.2.1 dL_law_1865 (by decide) ?_
  refine lv_iadd S.1 S.2.1 dL_law_1866 ?_
  refine fx_topi (y := 1) (by decide) ?_
  refine gx_sld (v := 0) S hG hX hbl (fin_l (by decide)) hx1 dL_law_1867 ?_
  refine lv_aload_n S.1 S.2.1 dL_law_1868 rfl (lv_at hl 0 rfl) ?_
  refine lv_iload S.1 S.2.1 dL_law_1869 (lv_at hl 5 rfl) ?_
  refine lv_iconst (v := 2) S.1 S.2.1 dL_law_1871 (by decide) ?_
  refine lv_iadd S.1 S.2.1 dL_law_1872 ?_
  refine fx_topi (y := 2) (by decide) ?_
  refine gx_sld (v := a2) S hG hX hbl (fin_l (by decide)) hx2 dL_law_1873 ?_
  refine lv_aload_n S.1 S.2.1 dL_law_1874 rfl (lv_at hl 3 rfl) ?_
  refine fx_cTi (As := [.ref N0, .int 0, .int a2, .ref (N0 + 229)]) (rest := []) S hG (k1318_L_distanceByMatchings g_a2_ge_3 hst (by omega) h0 h1) (vx_cwSW 4 S.2.2.2.2 gL_law_L_distanceByMatchings rfl rfl rfl (by decide +kernel) ⟨Nat.le_of_ble_eq_true rfl, Nat.le_of_ble_eq_true rfl⟩) rfl hl.1 rfl (Nat.le_of_ble_eq_true rfl) dL_law_1875 ⟨Nat.le_of_ble_eq_true rfl, Nat.le_of_ble_eq_true rfl⟩ (fun rv_u_1 u_1 H locs hp hG => ?_)
  obtain ⟨rfl, hu_1⟩ := hp
  refine W.widen (k := 232) (n := 4986) (by decide) (by decide) ?_
  refine lv_istore (lv' := [(6, .int 1), (0, .ref b), (1, .ref N0), (2, .ref (N0 + 164)), (3, .ref (N0 + 229)), (4, .ref (N0 + 230)), (5, .int 0)]) S.1 S.2.1 dL_law_1878 hl (by decide) rfl (fun ls hl => ?_)
  refine lv_aload_n S.1 S.2.1 dL_law_1880 rfl (lv_at hl 3 rfl) ?_
  refine lv_aload_n S.1 S.2.1 dL_law_1881 rfl (lv_at hl 1 rfl) ?_
  refine lv_iload S.1 S.2.1 dL_law_1882 (lv_at hl 6 rfl) ?_
  refine lv_iconst (v := 1) S.1 S.2.1 dL_law_1884 (by decide) ?_
  refine lv_iadd S.1 S.2.1 dL_law_1885 ?_
  refine fx_topi (y := 1) (by decide) ?_
  refine gx_sld (v := 0) S hG hX hbl (fin_l (by decide)) hx1 dL_law_1886 ?_
  refine lv_aload_n S.1 S.2.1 dL_law_1887 rfl (lv_at hl 1 rfl) ?_
  refine lv_iload S.1 S.2.1 dL_law_1888 (lv_at hl 6 rfl) ?_
  refine lv_iconst (v := 2) S.1 S.2.1 dL_law_1890 (by decide) ?_
  refine lv_iadd S.1 S.2.1 dL_law_1891 ?_
  refine fx_topi (y := 2) (by decide) ?_
  refine gx_sld (v := a2) S hG hX hbl (fin_l (by decide)) hx2 dL_law_1892 ?_
  refine fx_cVi (As := [.int 0, .int a2]) (rest := []) S hG (k1319_X10_distanceByMatchings g_a2_ge_3 (by omega) h2) h2 rfl (cwV 2 S.2.2.2.2 gL_law_X10_distanceByMatchings rfl rfl rfl (by decide +kernel) ⟨Nat.le_of_ble_eq_true rfl, Nat.le_of_ble_eq_true rfl⟩) rfl hl.1 rfl (Nat.le_of_ble_eq_true rfl) dL_law_1893 ⟨Nat.le_of_ble_eq_true rfl, Nat.le_of_ble_eq_true rfl⟩ (fun rv_2 _ H locs hp hG => ?_)
  subst rv_2
  refine lv_istore (lv' := [(7, .int 0), (6, .int 1), (0, .ref b), (1, .ref N0), (2, .ref (N0 + 164)), (3, .ref (N0 + 229)), (4, .ref (N0 + 230)), (5, .int 0)]) S.1 S.2.1 dL_law_1896 hl (by decide) rfl (fun ls hl => ?_)
  refine lv_aload_n S.1 S.2.1 dL_law_1898 rfl (lv_at hl 4 rfl) ?_
  refine fx_cVi (As := []) (rest := []) S hG (k25_X10_thrown (by omega) fu_s) fu_s rfl (cwV 0 S.2.2.2.2 gL_law_X10_thrown rfl rfl rfl (by decide +kernel) ⟨Nat.le_of_ble_eq_true rfl, Nat.le_of_ble_eq_true rfl⟩) rfl hl.1 rfl (Nat.le_of_ble_eq_true rfl) dL_law_1899 ⟨Nat.le_of_ble_eq_true rfl, Nat.le_of_ble_eq_true rfl⟩ (fun rv_3 _ H locs hp hG => ?_)
  subst rv_3
  refine lv_iload S.1 S.2.1 dL_law_1902 (lv_at hl 1 rfl) ?_
  refine lv_icmp_eq (tgt := 1909) S.1 S.2.1 dL_law_1904 (by decide) (fun _ => ?_) (fun c => absurd (by decide) c)
  refine lv_iload S.1 S.2.1 dL_law_1909 (lv_at hl 1 rfl) ?_
  refine lv_if_ne (tgt := 1926) S.1 S.2.1 dL_law_1911 (by decide) (fun _ => ?_) (fun c => absurd c (by decide))
  refine lv_goto (tgt := 2650) S.1 S.2.1 dL_law_1926 (by decide) ?_
  refine lv_iinc (v := 5) (lv' := [(5, .int 5), (7, .int 0), (6, .int 1), (0, .ref b), (1, .ref N0), (2, .ref (N0 + 164)), (3, .ref (N0 + 229)), (4, .ref (N0 + 230))]) S.1 S.2.1 dL_law_2650 hl (k := 7) rfl (by decide) (by decide) rfl (fun ls hl => ?_)
  refine lv_goto (tgt := 28) S.1 S.2.1 dL_law_2653 (by decide) ?_
  refine lv_iload S.1 S.2.1 dL_law_28 (lv_at hl 0 rfl) ?_
  refine lv_aload_n S.1 S.2.1 dL_law_30 rfl (lv_at hl 3 rfl) ?_
  refine gx_slen (v := 5) S hG hX hbl rfl dL_law_31 ?_
  refine lv_iconst (v := 5) S.1 S.2.1 dL_law_32 (by decide) ?_
  refine lv_isub S.1 S.2.1 dL_law_33 ?_
  refine fx_topi (y := 0) (by decide) ?_
  refine lv_icmp_gt (tgt := 2656) S.1 S.2.1 dL_law_34 (by decide) (fun _ => ?_) (fun c => absurd (by decide) c)
  refine lv_iconst (v := 1) S.1 S.2.1 dL_law_2656 (by decide) ?_
  refine va_forget (fun q hq => by rw [hN]; exact hG.2.1.2.2 q hq) ?_
  refine W.widen (k := 600002) (n := 7302232) (by decide) (by decide) ?_
  exact lw_ret (d0 := s.drawn) (Drawn.sameBut.refl _ _) S.1 S.2.1 hr hlocks dL_law_2657
theorem l24_6 {p : Program} {e : Env} {s : State} {m : MethodId} {below : List Frame} {meth : Method} {c : Code} {b : Nat} {xs : Nat → Int32} {H : Heap} {locs : List Loc} {ls : Array Slot} {n : Nat} {a2 a3 a4 : Int32} (g_a2_le_m1 : a2 ≤ (-1)) (S : CallFix p m c cL_law 9 s #[.ref b] wsL_law "TreeDifferLaw") (hr : meth.sig.returnType = ret) (hlocks : meth.locks = false) (hst : l.stackTraces = false) (hX : va_X b 5 xs s s.heap) (hbl : b < s.heap.size ∧ b < N0) (hN : s.heap.size = N0) (hn : N0 + 231 ≤ n) (hx1 : xs 1 = 1) (hx2 : xs 2 = a2) (hx3 : xs 3 = a3) (hx4 : xs 4 = a4) (h0 : F N0 = some (.inr (9, [.ref (N0 + 1), .ref (N0 + 2), .ref (N0 + 11), .ref (N0 + 13), .ref (N0 + 63), .ref (N0 + 65), .ref (N0 + 85), .int (-1), .int (-1), .int 32]))) (h1 : F (N0 + 1) = some (.inl (cTr, 3, .inr (.inr (.inr (.inr (va_up (va_up (va_up (fun _ => none) 0 (some (N0 + 143))) 1 (some (N0 + 150))) 2 (some (N0 + 157))))))))) (h2 : F (N0 + 164) = some (.inr (12, [.ref (N0 + 165), .int 0, .ref (N0 + 181), .int 0, .int 0, .int 0, .int (-1), .ref (ql 24), .ref (N0 + 182), .ref (N0 + 187), .ref (N0 + 208), .ref (N0 + 209), .ref (N0 + 210), .ref (N0 + 211), .ref (N0 + 212), .int 0, .ref (N0 + 213), .ref (N0 + 218), .ref (N0 + 223), .ref (N0 + 224), .ref (N0 + 225), .ref (N0 + 226), .ref (N0 + 227), .int 0, .int 0, .ref (N0 + 228), .null, .int (-1), .int 0, .int 0, .int 0]))) (hG : fG N0 D vwCl (fty cI cC cL cD cII cTr cTm cIt cB) (fen ql) s F n H locs) (hl : lv_has ls 9 [(0, .ref b), (1, .ref N0), (2, .ref (N0 + 164)), (3, .ref (N0 + 229)), (4, .ref (N0 + 230)), (5, .int 0)]) : W p l e { frames := 2048, cells := 600002, slots := 7302232, locals := 84000 } s m #[.ref b] below meth c H locs 231 4980 (lw_Z below #[.ref b] s) (F0 m 1861 ls []) := by
  have lt_h0 := hG.1.lt h0
  have lt_h1 := hG.1.lt h1
  have lt_h2 := hG.1.lt h2
  refine lv_aload_n S.1 S.2.1 dL_law_1861 rfl (lv_at hl 1 rfl) ?_
  refine lv_aload_n S.1 S.2.1 dL_law_1862 rfl (lv_at hl 0 rfl) ?_
  refine lv_iload S.1 S.2.1 dL_law_1863 (lv_at hl 5 rfl) ?_
  refine lv_iconst (v := 1) S.1 S.2.1 dL_law_1865 (by decide) ?_
  refine lv_iadd S.1 S.2.1 dL_law_1866 ?_
  refine fx_topi (y := 1) (by decide) ?_
  refine gx_sld (v := 1) S hG hX hbl (fin_l (by decide)) hx1 dL_law_1867 ?_
  refine lv_aload_n S.1 S.2.1 dL_law_1868 rfl (lv_at hl 0 rfl) ?_
  refine lv_iload S.1 S.2.1 dL_law_1869 (lv_at hl 5 rfl) ?_
  refine lv_iconst (v := 2) S.1 S.2.1 dL_law_1871 (by decide) ?_
  refine lv_iadd S.1 S.2.1 dL_law_1872 ?_
  refine fx_topi (y := 2) (by decide) ?_
  refine gx_sld (v := a2) S hG hX hbl (fin_l (by decide)) hx2 dL_law_1873 ?_
  refine lv_aload_n S.1 S.2.1 dL_law_1874 rfl (lv_at hl 3 rfl) ?_
  refine fx_cTi (As := [.ref N0, .int 1, .int a2, .ref (N0 + 229)]) (rest := []) S hG (k1321_L_distanceByMatchings g_a2_le_m1 hst (by omega) h0 h1) (vx_cwSW 4 S.2.2.2.2 gL_law_L_distanceByMatchings rfl rfl rfl (by decide +kernel) ⟨Nat.le_of_ble_eq_true rfl, Nat.le_of_ble_eq_true rfl⟩) rfl hl.1 rfl (Nat.le_of_ble_eq_true rfl) dL_law_1875 ⟨Nat.le_of_ble_eq_true rfl, Nat.le_of_ble_eq_true rfl⟩ (fun rv_u_1 u_1 H locs hp hG => ?_)
  obtain ⟨rfl, hu_1⟩ := hp
  refine W.widen (k := 232) (n := 4986) (by decide) (by decide) ?_
  refine lv_istore (lv' := [(6, .int 1), (0, .ref b), (1, .ref N0), (2, .ref (N0 + 164)), (3, .ref (N0 + 229)), (4, .ref (N0 + 230)), (5, .int 0)]) S.1 S.2.1 dL_law_1878 hl (by decide) rfl (fun ls hl => ?_)
  refine lv_aload_n S.1 S.2.1 dL_law_1880 rfl (lv_at hl 3 rfl) ?_
  refine lv_aload_n S.1 S.2.1 dL_law_1881 rfl (lv_at hl 1 rfl) ?_
  refine lv_iload S.1 S.2.1 dL_law_1882 (lv_at hl 6 rfl) ?_
  refine lv_iconst (v := 1) S.1 S.2.1 dL_law_1884 (by decide) ?_
  refine lv_iadd S.1 S.2.1 dL_law_1885 ?_
  refine fx_topi (y := 1) (by decide) ?_
  refine gx_sld (v := 1) S hG hX hbl (fin_l (by decide)) hx1 dL_law_1886 ?_
  refine lv_aload_n S.1 S.2.1 dL_law_1887 rfl (lv_at hl 1 rfl) ?_
  refine lv_iload S.1 S.2.1 dL_law_1888 (lv_at hl 6 rfl) ?_
  refine lv_iconst (v := 2) S.1 S.2.1 dL_law_1890 (by decide) ?_
  refine lv_iadd S.1 S.2.1 dL_law_1891 ?_
  refine fx_topi (y := 2) (by decide) ?_
  refine gx_sld (v := a2) S hG hX hbl (fin_l (by decide)) hx2 dL_law_1892 ?_
  refine fx_cVi (As := [.int 1, .int a2]) (rest := []) S hG (k1322_X10_distanceByMatchings g_a2_le_m1 (by omega) h2) h2 rfl (cwV 2 S.2.2.2.2 gL_law_X10_distanceByMatchings rfl rfl rfl (by decide +kernel) ⟨Nat.le_of_ble_eq_true rfl, Nat.le_of_ble_eq_true rfl⟩) rfl hl.1 rfl (Nat.le_of_ble_eq_true rfl) dL_law_1893 ⟨Nat.le_of_ble_eq_true rfl, Nat.le_of_ble_eq_true rfl⟩ (fun rv_2 _ H locs hp hG => ?_)
  subst rv_2
  refine lv_istore (lv' := [(7, .int 0), (6, .int 1), (0, .ref b), (1, .ref N0), (2, .ref (N0 + 164)), (3, .ref (N0 + 229)), (4, .ref (N0 + 230)), (5, .int 0)]) S.1 S.2.1 dL_law_1896 hl (by decide) rfl (fun ls hl => ?_)
  refine lv_aload_n S.1 S.2.1 dL_law_1898 rfl (lv_at hl 4 rfl) ?_
  refine fx_cVi (As := []) (rest := []) S hG (k25_X10_thrown (by omega) fu_s) fu_s rfl (cwV 0 S.2.2.2.2 gL_law_X10_thrown rfl rfl rfl (by decide +kernel) ⟨Nat.le_of_ble_eq_true rfl, Nat.le_of_ble_eq_true rfl⟩) rfl hl.1 rfl (Nat.le_of_ble_eq_true rfl) dL_law_1899 ⟨Nat.le_of_ble_eq_true rfl, Nat.le_of_ble_eq_true rfl⟩ (fun rv_3 _ H locs hp hG => ?_)
  subst rv_3
  refine lv_iload S.1 S.2.1 dL_law_1902 (lv_at hl 1 rfl) ?_
  refine lv_icmp_eq (tgt := 1909) S.1 S.2.1 dL_law_1904 (by decide) (fun _ => ?_) (fun c => absurd (by decide) c)
  refine lv_iload S.1 S.2.1 dL_law_1909 (lv_at hl 1 rfl) ?_
  refine lv_if_ne (tgt := 1926) S.1 S.2.1 dL_law_1911 (by decide) (fun _ => ?_) (fun c => absurd c (by decide))
  refine lv_goto (tgt := 2650) S.1 S.2.1 dL_law_1926 (by decide) ?_
  refine lv_iinc (v := 5) (lv' := [(5, .int 5), (7, .int 0), (6, .int 1), (0, .ref b), (1, .ref N0), (2, .ref (N0 + 164)), (3, .ref (N0 + 229)), (4, .ref (N0 + 230))]) S.1 S.2.1 dL_law_2650 hl (k := 7) rfl (by decide) (by decide) rfl (fun ls hl => ?_)
  refine lv_goto (tgt := 28) S.1 S.2.1 dL_law_2653 (by decide) ?_
  refine lv_iload S.1 S.2.1 dL_law_28 (lv_at hl 0 rfl) ?_
  refine lv_aload_n S.1 S.2.1 dL_law_30 rfl (lv_at hl 3 rfl) ?_
  refine gx_slen (v := 5) S hG hX hbl rfl dL_law_31 ?_
  refine lv_iconst (v := 5) S.1 S.2.1 dL_law_32 (by decide) ?_
  refine lv_isub S.1 S.2.1 dL_law_33 ?_
  refine fx_topi (y := 0) (by decide) ?_
  refine lv_icmp_gt (tgt := 2656) S.1 S.2.1 dL_law_34 (by decide) (fun _ => ?_) (fun c => absurd (by decide) c)
  refine lv_iconst (v := 1) S.1 S.2.1 dL_law_2656 (by decide) ?_
  refine va_forget (fun q hq => by rw [hN]; exact hG.2.1.2.2 q hq) ?_
  refine W.widen (k := 600002) (n := 7302232) (by decide) (by decide) ?_
  exact lw_ret (d0 := s.drawn) (Drawn.sameBut.refl _ _) S.1 S.2.1 hr hlocks dL_law_2657
theorem l24_7 {p : Program} {e : Env} {s : State} {m : MethodId} {below : List Frame} {meth : Method} {c : Code} {b : Nat} {xs : Nat → Int32} {H : Heap} {locs : List Loc} {ls : Array Slot} {n : Nat} {a3 a4 : Int32} (S : CallFix p m c cL_law 9 s #[.ref b] wsL_law "TreeDifferLaw") (hr : meth.sig.returnType = ret) (hlocks : meth.locks = false) (hst : l.stackTraces = false) (hX : va_X b 5 xs s s.heap) (hbl : b < s.heap.size ∧ b < N0) (hN : s.heap.size = N0) (hn : N0 + 231 ≤ n) (hx1 : xs 1 = 1) (hx2 : xs 2 = 0) (hx3 : xs 3 = a3) (hx4 : xs 4 = a4) (h0 : F N0 = some (.inr (9, [.ref (N0 + 1), .ref (N0 + 2), .ref (N0 + 11), .ref (N0 + 13), .ref (N0 + 63), .ref (N0 + 65), .ref (N0 + 85), .int (-1), .int (-1), .int 32]))) (h1 : F (N0 + 1) = some (.inl (cTr, 3, .inr (.inr (.inr (.inr (va_up (va_up (va_up (fun _ => none) 0 (some (N0 + 143))) 1 (some (N0 + 150))) 2 (some (N0 + 157))))))))) (h2 : F (N0 + 150) = some (.inr (7, [.ref (N0 + 151), .ref (N0 + 152), .ref (N0 + 153), .ref (N0 + 154), .ref (N0 + 155), .ref (N0 + 156), .int 1]))) (h3 : F (N0 + 143) = some (.inr (7, [.ref (N0 + 144), .ref (N0 + 145), .ref (N0 + 146), .ref (N0 + 147), .ref (N0 + 148), .ref (N0 + 149), .int 1]))) (h4 : F (N0 + 63) = some (.inr (8, [.ref (N0 + 64), .int 0]))) (h5 : F (N0 + 64) = some (.inl (cI, 7, .inl (fun _ => 0)))) (h6 : F (N0 + 151) = some (.inl (cC, 20, .inl (upd (fun _ => 0) 0 97)))) (h7 : F (N0 + 144) = some (.inl (cC, 20, .inl (upd (fun _ => 0) 0 97)))) (h8 : F (N0 + 153) = some (.inl (cI, 20, .inl (fun _ => 0)))) (h9 : F (N0 + 146) = some (.inl (cI, 20, .inl (fun _ => 0)))) (h10 : F (N0 + 229) = some (.inl (cL, 1, .inr (.inl (fun _ => 0))))) (h11 : F (N0 + 164) = some (.inr (12, [.ref (N0 + 165), .int 0, .ref (N0 + 181), .int 0, .int 0, .int 0, .int (-1), .ref (ql 24), .ref (N0 + 182), .ref (N0 + 187), .ref (N0 + 208), .ref (N0 + 209), .ref (N0 + 210), .ref (N0 + 211), .ref (N0 + 212), .int 0, .ref (N0 + 213), .ref (N0 + 218), .ref (N0 + 223), .ref (N0 + 224), .ref (N0 + 225), .ref (N0 + 226), .ref (N0 + 227), .int 0, .int 0, .ref (N0 + 228), .null, .int (-1), .int 0, .int 0, .int 0]))) (h12 : F (N0 + 165) = some (.inl (cTm, 3, .inr (.inr (.inr (.inr (va_up (va_up (va_up (fun _ => none) 0 (some (N0 + 166))) 1 (some (N0 + 171))) 2 (some (N0 + 176))))))))) (h13 : F (N0 + 171) = some (.inr (11, [.ref (N0 + 172), .ref (N0 + 173), .ref (N0 + 174), .ref (N0 + 175), .int 1]))) (h14 : F (N0 + 166) = some (.inr (11, [.ref (N0 + 167), .ref (N0 + 168), .ref (N0 + 169), .ref (N0 + 170), .int 1]))) (h15 : F (N0 + 172) = some (.inl (cI, 20, .inl (upd (fun _ => 0) 0 97)))) (h16 : F (N0 + 167) = some (.inl (cI, 20, .inl (upd (fun _ => 0) 0 97)))) (h17 : F (N0 + 174) = some (.inl (cI, 20, .inl (upd (fun _ => 0) 0 0)))) (h18 : F (N0 + 169) = some (.inl (cI, 20, .inl (upd (fun _ => 0) 0 0)))) (h19 : F (N0 + 187) = some (.inl (cII, 20, .inr (.inr (.inr (.inr (fun j => if j < 20 then some ((N0 + 188) + j) else none))))))) (h20 : F (N0 + 188) = some (.inl (cI, 20, .inl (fun _ => 0)))) (hG : fG N0 D vwCl (fty cI cC cL cD cII cTr cTm cIt cB) (fen ql) s F n H locs) (hl : lv_has ls 9 [(0, .ref b), (1, .ref N0), (2, .ref (N0 + 164)), (3, .ref (N0 + 229)), (4, .ref (N0 + 230)), (5, .int 0)]) : W p l e { frames := 2048, cells := 600002, slots := 7302232, locals := 84000 } s m #[.ref b] below meth c H locs 231 4980 (lw_Z below #[.ref b] s) (F0 m 1861 ls []) := by
  have lt_h0 := hG.1.lt h0
  have lt_h1 := hG.1.lt h1
  have lt_h2 := hG.1.lt h2
  have lt_h3 := hG.1.lt h3
  have lt_h4 := hG.1.lt h4
  have lt_h5 := hG.1.lt h5
  have lt_h6 := hG.1.lt h6
  have lt_h7 := hG.1.lt h7
  have lt_h8 := hG.1.lt h8
  have lt_h9 := hG.1.lt h9
  have lt_h10 := hG.1.lt h10
  have lt_h11 := hG.1.lt h11
  have lt_h12 := hG.1.lt h12
  have lt_h13 := hG.1.lt h13
  have lt_h14 := hG.1.lt h14
  have lt_h15 := hG.1.lt h15
  have lt_h16 := hG.1.lt h16
  have lt_h17 := hG.1.lt h17
  have lt_h18 := hG.1.lt h18
  have lt_h19 := hG.1.lt h19
  have lt_h20 := hG.1.lt h20
  refine lv_aload_n S.1 S.2.1 dL_law_1861 rfl (lv_at hl 1 rfl) ?_
  refine lv_aload_n S.1 S.2.1 dL_law_1862 rfl (lv_at hl 0 rfl) ?_
  refine lv_iload S.1 S.2.1 dL_law_1863 (lv_at hl 5 rfl) ?_
  refine lv_iconst (v := 1) S.1 S.2.1 dL_law_1865 (by decide) ?_
  refine lv_iadd S.1 S.2.1 dL_law_1866 ?_
  refine fx_topi (y := 1) (by decide) ?_
  refine gx_sld (v := 1) S hG hX hbl (fin_l (by decide)) hx1 dL_law_1867 ?_
  refine lv_aload_n S.1 S.2.1 dL_law_1868 rfl (lv_at hl 0 rfl) ?_
  refine lv_iload S.1 S.2.1 dL_law_1869 (lv_at hl 5 rfl) ?_
  refine lv_iconst (v := 2) S.1 S.2.1 dL_law_1871 (by decide) ?_
  refine lv_iadd S.1 S.2.1 dL_law_1872 ?_
  refine fx_topi (y := 2) (by decide) ?_
  refine gx_sld (v := 0) S hG hX hbl (fin_l (by decide)) hx2 dL_law_1873 ?_
  refine lv_aload_n S.1 S.2.1 dL_law_1874 rfl (lv_at hl 3 rfl) ?_
  refine fx_cTi (As := [.ref N0, .int 1, .int 0, .ref (N0 + 229)]) (rest := []) S hG (k1327_L_distanceByMatchings (by omega) h0 h1 h2 h3 h4 h5 h6 h7 h8 h9 h10) (vx_cwSW 4 S.2.2.2.2 gL_law_L_distanceByMatchings rfl rfl rfl (by decide +kernel) ⟨Nat.le_of_ble_eq_true rfl, Nat.le_of_ble_eq_true rfl⟩) rfl hl.1 rfl (Nat.le_of_ble_eq_true rfl) dL_law_1875 ⟨Nat.le_of_ble_eq_true rfl, Nat.le_of_ble_eq_true rfl⟩ (fun rv_1 _ H locs hp hG => ?_)
  subst rv_1
  refine lv_istore (lv' := [(6, .int 0), (0, .ref b), (1, .ref N0), (2, .ref (N0 + 164)), (3, .ref (N0 + 229)), (4, .ref (N0 + 230)), (5, .int 0)]) S.1 S.2.1 dL_law_1878 hl (by decide) rfl (fun ls hl => ?_)
  refine lv_aload_n S.1 S.2.1 dL_law_1880 rfl (lv_at hl 3 rfl) ?_
  refine lv_aload_n S.1 S.2.1 dL_law_1881 rfl (lv_at hl 1 rfl) ?_
  refine lv_iload S.1 S.2.1 dL_law_1882 (lv_at hl 6 rfl) ?_
  refine lv_iconst (v := 1) S.1 S.2.1 dL_law_1884 (by decide) ?_
  refine lv_iadd S.1 S.2.1 dL_law_1885 ?_
  refine fx_topi (y := 1) (by decide) ?_
  refine gx_sld (v := 1) S hG hX hbl (fin_l (by decide)) hx1 dL_law_1886 ?_
  refine lv_aload_n S.1 S.2.1 dL_law_1887 rfl (lv_at hl 1 rfl) ?_
  refine lv_iload S.1 S.2.1 dL_law_1888 (lv_at hl 6 rfl) ?_
  refine lv_iconst (v := 2) S.1 S.2.1 dL_law_1890 (by decide) ?_
  refine lv_iadd S.1 S.2.1 dL_law_1891 ?_
  refine fx_topi (y := 2) (by decide) ?_
  refine gx_sld (v := 0) S hG hX hbl (fin_l (by decide)) hx2 dL_law_1892 ?_
  refine fx_cVi (As := [.int 1, .int 0]) (rest := []) S hG (k1328_X10_distanceByMatchings (by omega) (fu_at (by omega) (fu_at (by omega) (fu_at (by omega) h11))) (fu_at (by omega) (fu_at (by omega) (fu_at (by omega) h12))) (fu_at (by omega) (fu_at (by omega) (fu_at (by omega) h13))) (fu_at (by omega) (fu_at (by omega) (fu_at (by omega) h14))) (fu_at (by omega) (fu_at (by omega) (fu_at (by omega) h15))) (fu_at (by omega) (fu_at (by omega) (fu_at (by omega) h16))) (fu_at (by omega) (fu_at (by omega) (fu_at (by omega) h17))) (fu_at (by omega) (fu_at (by omega) (fu_at (by omega) h18))) (fu_at (by omega) (fu_at (by omega) (fu_at (by omega) h19))) (fu_at (by omega) (fu_at (by omega) (fu_at (by omega) h20)))) (fu_at (by omega) (fu_at (by omega) (fu_at (by omega) h11))) rfl (cwV 2 S.2.2.2.2 gL_law_X10_distanceByMatchings rfl rfl rfl (by decide +kernel) ⟨Nat.le_of_ble_eq_true rfl, Nat.le_of_ble_eq_true rfl⟩) rfl hl.1 rfl (Nat.le_of_ble_eq_true rfl) dL_law_1893 ⟨Nat.le_of_ble_eq_true rfl, Nat.le_of_ble_eq_true rfl⟩ (fun rv_2 _ H locs hp hG => ?_)
  subst rv_2
  refine W.widen (k := 235) (n := 4982) (by decide) (by decide) ?_
  refine lv_istore (lv' := [(7, .int 0), (6, .int 0), (0, .ref b), (1, .ref N0), (2, .ref (N0 + 164)), (3, .ref (N0 + 229)), (4, .ref (N0 + 230)), (5, .int 0)]) S.1 S.2.1 dL_law_1896 hl (by decide) rfl (fun ls hl => ?_)
  refine lv_aload_n S.1 S.2.1 dL_law_1898 rfl (lv_at hl 4 rfl) ?_
  refine fx_cVi (As := []) (rest := []) S hG (k117_X10_thrown (by omega) (fblk_sk 4 rfl (by omega) (fu_at (by omega) fu_s))) (fblk_sk 4 rfl (by omega) (fu_at (by omega) fu_s)) rfl (cwV 0 S.2.2.2.2 gL_law_X10_thrown rfl rfl rfl (by decide +kernel) ⟨Nat.le_of_ble_eq_true rfl, Nat.le_of_ble_eq_true rfl⟩) rfl hl.1 rfl (Nat.le_of_ble_eq_true rfl) dL_law_1899 ⟨Nat.le_of_ble_eq_true rfl, Nat.le_of_ble_eq_true rfl⟩ (fun rv_3 _ H locs hp hG => ?_)
  subst rv_3
  refine lv_iload S.1 S.2.1 dL_law_1902 (lv_at hl 1 rfl) ?_
  refine lv_icmp_eq (tgt := 1909) S.1 S.2.1 dL_law_1904 (by decide) (fun _ => ?_) (fun c => absurd (by decide) c)
  refine lv_iload S.1 S.2.1 dL_law_1909 (lv_at hl 1 rfl) ?_
  refine lv_if_ne (tgt := 1926) S.1 S.2.1 dL_law_1911 (by decide) (fun c => absurd (by decide) c) (fun _ => ?_)
  refine lv_aload_n S.1 S.2.1 dL_law_1914 rfl (lv_at hl 5 rfl) ?_
  refine lv_iconst (v := 0) S.1 S.2.1 dL_law_1915 (by decide) ?_
  refine gx_lald (v := 0) S hG 2 (fblk_sk 4 rfl (by omega) (fu_at (by omega) (fu_at (by omega) fu_s))) rfl (fin_l (by decide)) rfl dL_law_1916 ?_
  refine lv_iload S.1 S.2.1 dL_law_1917 (lv_at hl 0 rfl) ?_
  refine lv_i2l (v := 0) S.1 S.2.1 dL_law_1919 (by decide) ?_
  refine gx_lcmpEq S rfl dL_law_1920 ?_
  refine lv_if_eq (tgt := 1926) S.1 S.2.1 dL_law_1921 (by decide) (fun _ => ?_) (fun c => absurd (by decide) c)
  refine lv_goto (tgt := 2650) S.1 S.2.1 dL_law_1926 (by decide) ?_
  refine lv_iinc (v := 5) (lv' := [(5, .int 5), (7, .int 0), (6, .int 0), (0, .ref b), (1, .ref N0), (2, .ref (N0 + 164)), (3, .ref (N0 + 229)), (4, .ref (N0 + 230))]) S.1 S.2.1 dL_law_2650 hl (k := 7) rfl (by decide) (by decide) rfl (fun ls hl => ?_)
  refine lv_goto (tgt := 28) S.1 S.2.1 dL_law_2653 (by decide) ?_
  refine lv_iload S.1 S.2.1 dL_law_28 (lv_at hl 0 rfl) ?_
  refine lv_aload_n S.1 S.2.1 dL_law_30 rfl (lv_at hl 3 rfl) ?_
  refine gx_slen (v := 5) S hG hX hbl rfl dL_law_31 ?_
  refine lv_iconst (v := 5) S.1 S.2.1 dL_law_32 (by decide) ?_
  refine lv_isub S.1 S.2.1 dL_law_33 ?_
  refine fx_topi (y := 0) (by decide) ?_
  refine lv_icmp_gt (tgt := 2656) S.1 S.2.1 dL_law_34 (by decide) (fun _ => ?_) (fun c => absurd (by decide) c)
  refine lv_iconst (v := 1) S.1 S.2.1 dL_law_2656 (by decide) ?_
  refine va_forget (fun q hq => by rw [hN]; exact hG.2.1.2.2 q hq) ?_
  refine W.widen (k := 600002) (n := 7302232) (by decide) (by decide) ?_
  exact lw_ret (d0 := s.drawn) (Drawn.sameBut.refl _ _) S.1 S.2.1 hr hlocks dL_law_2657
theorem l24_8 {p : Program} {e : Env} {s : State} {m : MethodId} {below : List Frame} {meth : Method} {c : Code} {b : Nat} {xs : Nat → Int32} {H : Heap} {locs : List Loc} {ls : Array Slot} {n : Nat} {a3 a4 : Int32} (S : CallFix p m c cL_law 9 s #[.ref b] wsL_law "TreeDifferLaw") (hr : meth.sig.returnType = ret) (hlocks : meth.locks = false) (hst : l.stackTraces = false) (hX : va_X b 5 xs s s.heap) (hbl : b < s.heap.size ∧ b < N0) (hN : s.heap.size = N0) (hn : N0 + 231 ≤ n) (hx1 : xs 1 = 1) (hx2 : xs 2 = 1) (hx3 : xs 3 = a3) (hx4 : xs 4 = a4) (h0 : F N0 = some (.inr (9, [.ref (N0 + 1), .ref (N0 + 2), .ref (N0 + 11), .ref (N0 + 13), .ref (N0 + 63), .ref (N0 + 65), .ref (N0 + 85), .int (-1), .int (-1), .int 32]))) (h1 : F (N0 + 1) = some (.inl (cTr, 3, .inr (.inr (.inr (.inr (va_up (va_up (va_up (fun _ => none) 0 (some (N0 + 143))) 1 (some (N0 + 150))) 2 (some (N0 + 157))))))))) (h2 : F (N0 + 150) = some (.inr (7, [.ref (N0 + 151), .ref (N0 + 152), .ref (N0 + 153), .ref (N0 + 154), .ref (N0 + 155), .ref (N0 + 156), .int 1]))) (h3 : F (N0 + 63) = some (.inr (8, [.ref (N0 + 64), .int 0]))) (h4 : F (N0 + 64) = some (.inl (cI, 7, .inl (fun _ => 0)))) (h5 : F (N0 + 151) = some (.inl (cC, 20, .inl (upd (fun _ => 0) 0 97)))) (h6 : F (N0 + 153) = some (.inl (cI, 20, .inl (fun _ => 0)))) (h7 : F (N0 + 229) = some (.inl (cL, 1, .inr (.inl (fun _ => 0))))) (h8 : F (N0 + 164) = some (.inr (12, [.ref (N0 + 165), .int 0, .ref (N0 + 181), .int 0, .int 0, .int 0, .int (-1), .ref (ql 24), .ref (N0 + 182), .ref (N0 + 187), .ref (N0 + 208), .ref (N0 + 209), .ref (N0 + 210), .ref (N0 + 211), .ref (N0 + 212), .int 0, .ref (N0 + 213), .ref (N0 + 218), .ref (N0 + 223), .ref (N0 + 224), .ref (N0 + 225), .ref (N0 + 226), .ref (N0 + 227), .int 0, .int 0, .ref (N0 + 228), .null, .int (-1), .int 0, .int 0, .int 0]))) (h9 : F (N0 + 165) = some (.inl (cTm, 3, .inr (.inr (.inr (.inr (va_up (va_up (va_up (fun _ => none) 0 (some (N0 + 166))) 1 (some (N0 + 171))) 2 (some (N0 + 176))))))))) (h10 : F (N0 + 171) = some (.inr (11, [.ref (N0 + 172), .ref (N0 + 173), .ref (N0 + 174), .ref (N0 + 175), .int 1]))) (h11 : F (N0 + 172) = some (.inl (cI, 20, .inl (upd (fun _ => 0) 0 97)))) (h12 : F (N0 + 174) = some (.inl (cI, 20, .inl (upd (fun _ => 0) 0 0)))) (h13 : F (N0 + 187) = some (.inl (cII, 20, .inr (.inr (.inr (.inr (fun j => if j < 20 then some ((N0 + 188) + j) else none))))))) (h14 : F (N0 + 188) = some (.inl (cI, 20, .inl (fun _ => 0)))) (hG : fG N0 D vwCl (fty cI cC cL cD cII cTr cTm cIt cB) (fen ql) s F n H locs) (hl : lv_has ls 9 [(0, .ref b), (1, .ref N0), (2, .ref (N0 + 164)), (3, .ref (N0 + 229)), (4, .ref (N0 + 230)), (5, .int 0)]) : W p l e { frames := 2048, cells := 600002, slots := 7302232, locals := 84000 } s m #[.ref b] below meth c H locs 231 4980 (lw_Z below #[.ref b] s) (F0 m 1861 ls []) := by
  have lt_h0 := hG.1.lt h0
  have lt_h1 := hG.1.lt h1
  have lt_h2 := hG.1.lt h2
  have lt_h3 := hG.1.lt h3
  have lt_h4 := hG.1.lt h4
  have lt_h5 := hG.1.lt h5
  have lt_h6 := hG.1.lt h6
  have lt_h7 := hG.1.lt h7
  have lt_h8 := hG.1.lt h8
  have lt_h9 := hG.1.lt h9
  have lt_h10 := hG.1.lt h10
  have lt_h11 := hG.1.lt h11
  have lt_h12 := hG.1.lt h12
  have lt_h13 := hG.1.lt h13
  have lt_h14 := hG.1.lt h14
  refine lv_aload_n S.1 S.2.1 dL_law_1861 rfl (lv_at hl 1 rfl) ?_
  refine lv_aload_n S.1 S.2.1 dL_law_1862 rfl (lv_at hl 0 rfl) ?_
  refine lv_iload S.1 S.2.1 dL_law_1863 (lv_at hl 5 rfl) ?_
  refine lv_iconst (v := 1) S.1 S.2.1 dL_law_1865 (by decide) ?_
  refine lv_iadd S.1 S.2.1 dL_law_1866 ?_
  refine fx_topi (y := 1) (by decide) ?_
  refine gx_sld (v := 1) S hG hX hbl (fin_l (by decide)) hx1 dL_law_1867 ?_
  refine lv_aload_n S.1 S.2.1 dL_law_1868 rfl (lv_at hl 0 rfl) ?_
  refine lv_iload S.1 S.2.1 dL_law_1869 (lv_at hl 5 rfl) ?_
  refine lv_iconst (v := 2) S.1 S.2.1 dL_law_1871 (by decide) ?_
  refine lv_iadd S.1 S.2.1 dL_law_1872 ?_
  refine fx_topi (y := 2) (by decide) ?_
  refine gx_sld (v := 1) S hG hX hbl (fin_l (by decide)) hx2 dL_law_1873 ?_
  refine lv_aload_n S.1 S.2.1 dL_law_1874 rfl (lv_at hl 3 rfl) ?_
  refine fx_cTi (As := [.ref N0, .int 1, .int 1, .ref (N0 + 229)]) (rest := []) S hG (k1333_L_distanceByMatchings (by omega) h0 h1 h2 h3 h4 h5 h6 h7) (vx_cwSW 4 S.2.2.2.2 gL_law_L_distanceByMatchings rfl rfl rfl (by decide +kernel) ⟨Nat.le_of_ble_eq_true rfl, Nat.le_of_ble_eq_true rfl⟩) rfl hl.1 rfl (Nat.le_of_ble_eq_true rfl) dL_law_1875 ⟨Nat.le_of_ble_eq_true rfl, Nat.le_of_ble_eq_true rfl⟩ (fun rv_1 _ H locs hp hG => ?_)
  subst rv_1
  refine lv_istore (lv' := [(6, .int 0), (0, .ref b), (1, .ref N0), (2, .ref (N0 + 164)), (3, .ref (N0 + 229)), (4, .ref (N0 + 230)), (5, .int 0)]) S.1 S.2.1 dL_law_1878 hl (by decide) rfl (fun ls hl => ?_)
  refine lv_aload_n S.1 S.2.1 dL_law_1880 rfl (lv_at hl 3 rfl) ?_
  refine lv_aload_n S.1 S.2.1 dL_law_1881 rfl (lv_at hl 1 rfl) ?_
  refine lv_iload S.1 S.2.1 dL_law_1882 (lv_at hl 6 rfl) ?_
  refine lv_iconst (v := 1) S.1 S.2.1 dL_law_1884 (by decide) ?_
  refine lv_iadd S.1 S.2.1 dL_law_1885 ?_
  refine fx_topi (y := 1) (by decide) ?_
  refine gx_sld (v := 1) S hG hX hbl (fin_l (by decide)) hx1 dL_law_1886 ?_
  refine lv_aload_n S.1 S.2.1 dL_law_1887 rfl (lv_at hl 1 rfl) ?_
  refine lv_iload S.1 S.2.1 dL_law_1888 (lv_at hl 6 rfl) ?_
  refine lv_iconst (v := 2) S.1 S.2.1 dL_law_1890 (by decide) ?_
  refine lv_iadd S.1 S.2.1 dL_law_1891 ?_
  refine fx_topi (y := 2) (by decide) ?_
  refine gx_sld (v := 1) S hG hX hbl (fin_l (by decide)) hx2 dL_law_1892 ?_
  refine fx_cVi (As := [.int 1, .int 1]) (rest := []) S hG (k1334_X10_distanceByMatchings (by omega) (fu_at (by omega) (fu_at (by omega) (fu_at (by omega) h8))) (fu_at (by omega) (fu_at (by omega) (fu_at (by omega) h9))) (fu_at (by omega) (fu_at (by omega) (fu_at (by omega) h10))) (fu_at (by omega) (fu_at (by omega) (fu_at (by omega) h11))) (fu_at (by omega) (fu_at (by omega) (fu_at (by omega) h12))) (fu_at (by omega) (fu_at (by omega) (fu_at (by omega) h13))) (fu_at (by omega) (fu_at (by omega) (fu_at (by omega) h14)))) (fu_at (by omega) (fu_at (by omega) (fu_at (by omega) h8))) rfl (cwV 2 S.2.2.2.2 gL_law_X10_distanceByMatchings rfl rfl rfl (by decide +kernel) ⟨Nat.le_of_ble_eq_true rfl, Nat.le_of_ble_eq_true rfl⟩) rfl hl.1 rfl (Nat.le_of_ble_eq_true rfl) dL_law_1893 ⟨Nat.le_of_ble_eq_true rfl, Nat.le_of_ble_eq_true rfl⟩ (fun rv_2 _ H locs hp hG => ?_)
  subst rv_2
  refine W.widen (k := 235) (n := 4982) (by decide) (by decide) ?_
  refine lv_istore (lv' := [(7, .int 0), (6, .int 0), (0, .ref b), (1, .ref N0), (2, .ref (N0 + 164)), (3, .ref (N0 + 229)), (4, .ref (N0 + 230)), (5, .int 0)]) S.1 S.2.1 dL_law_1896 hl (by decide) rfl (fun ls hl => ?_)
  refine lv_aload_n S.1 S.2.1 dL_law_1898 rfl (lv_at hl 4 rfl) ?_
  refine fx_cVi (As := []) (rest := []) S hG (k117_X10_thrown (by omega) (fblk_sk 4 rfl (by omega) (fu_at (by omega) fu_s))) (fblk_sk 4 rfl (by omega) (fu_at (by omega) fu_s)) rfl (cwV 0 S.2.2.2.2 gL_law_X10_thrown rfl rfl rfl (by decide +kernel) ⟨Nat.le_of_ble_eq_true rfl, Nat.le_of_ble_eq_true rfl⟩) rfl hl.1 rfl (Nat.le_of_ble_eq_true rfl) dL_law_1899 ⟨Nat.le_of_ble_eq_true rfl, Nat.le_of_ble_eq_true rfl⟩ (fun rv_3 _ H locs hp hG => ?_)
  subst rv_3
  refine lv_iload S.1 S.2.1 dL_law_1902 (lv_at hl 1 rfl) ?_
  refine lv_icmp_eq (tgt := 1909) S.1 S.2.1 dL_law_1904 (by decide) (fun _ => ?_) (fun c => absurd (by decide) c)
  refine lv_iload S.1 S.2.1 dL_law_1909 (lv_at hl 1 rfl) ?_
  refine lv_if_ne (tgt := 1926) S.1 S.2.1 dL_law_1911 (by decide) (fun c => absurd (by decide) c) (fun _ => ?_)
  refine lv_aload_n S.1 S.2.1 dL_law_1914 rfl (lv_at hl 5 rfl) ?_
  refine lv_iconst (v := 0) S.1 S.2.1 dL_law_1915 (by decide) ?_
  refine gx_lald (v := 0) S hG 2 (fblk_sk 4 rfl (by omega) (fu_at (by omega) (fu_at (by omega) fu_s))) rfl (fin_l (by decide)) rfl dL_law_1916 ?_
  refine lv_iload S.1 S.2.1 dL_law_1917 (lv_at hl 0 rfl) ?_
  refine lv_i2l (v := 0) S.1 S.2.1 dL_law_1919 (by decide) ?_
  refine gx_lcmpEq S rfl dL_law_1920 ?_
  refine lv_if_eq (tgt := 1926) S.1 S.2.1 dL_law_1921 (by decide) (fun _ => ?_) (fun c => absurd (by decide) c)
  refine lv_goto (tgt := 2650) S.1 S.2.1 dL_law_1926 (by decide) ?_
  refine lv_iinc (v := 5) (lv' := [(5, .int 5), (7, .int 0), (6, .int 0), (0, .ref b), (1, .ref N0), (2, .ref (N0 + 164)), (3, .ref (N0 + 229)), (4, .ref (N0 + 230))]) S.1 S.2.1 dL_law_2650 hl (k := 7) rfl (by decide) (by decide) rfl (fun ls hl => ?_)
  refine lv_goto (tgt := 28) S.1 S.2.1 dL_law_2653 (by decide) ?_
  refine lv_iload S.1 S.2.1 dL_law_28 (lv_at hl 0 rfl) ?_
  refine lv_aload_n S.1 S.2.1 dL_law_30 rfl (lv_at hl 3 rfl) ?_
  refine gx_slen (v := 5) S hG hX hbl rfl dL_law_31 ?_
  refine lv_iconst (v := 5) S.1 S.2.1 dL_law_32 (by decide) ?_
  refine lv_isub S.1 S.2.1 dL_law_33 ?_
  refine fx_topi (y := 0) (by decide) ?_
  refine lv_icmp_gt (tgt := 2656) S.1 S.2.1 dL_law_34 (by decide) (fun _ => ?_) (fun c => absurd (by decide) c)
  refine lv_iconst (v := 1) S.1 S.2.1 dL_law_2656 (by decide) ?_
  refine va_forget (fun q hq => by rw [hN]; exact hG.2.1.2.2 q hq) ?_
  refine W.widen (k := 600002) (n := 7302232) (by decide) (by decide) ?_
  exact lw_ret (d0 := s.drawn) (Drawn.sameBut.refl _ _) S.1 S.2.1 hr hlocks dL_law_2657
theorem l24_9 {p : Program} {e : Env} {s : State} {m : MethodId} {below : List Frame} {meth : Method} {c : Code} {b : Nat} {xs : Nat → Int32} {H : Heap} {locs : List Loc} {ls : Array Slot} {n : Nat} {a3 a4 : Int32} (S : CallFix p m c cL_law 9 s #[.ref b] wsL_law "TreeDifferLaw") (hr : meth.sig.returnType = ret) (hlocks : meth.locks = false) (hst : l.stackTraces = false) (hX : va_X b 5 xs s s.heap) (hbl : b < s.heap.size ∧ b < N0) (hN : s.heap.size = N0) (hn : N0 + 231 ≤ n) (hx1 : xs 1 = 1) (hx2 : xs 2 = 2) (hx3 : xs 3 = a3) (hx4 : xs 4 = a4) (h0 : F N0 = some (.inr (9, [.ref (N0 + 1), .ref (N0 + 2), .ref (N0 + 11), .ref (N0 + 13), .ref (N0 + 63), .ref (N0 + 65), .ref (N0 + 85), .int (-1), .int (-1), .int 32]))) (h1 : F (N0 + 1) = some (.inl (cTr, 3, .inr (.inr (.inr (.inr (va_up (va_up (va_up (fun _ => none) 0 (some (N0 + 143))) 1 (some (N0 + 150))) 2 (some (N0 + 157))))))))) (h2 : F (N0 + 150) = some (.inr (7, [.ref (N0 + 151), .ref (N0 + 152), .ref (N0 + 153), .ref (N0 + 154), .ref (N0 + 155), .ref (N0 + 156), .int 1]))) (h3 : F (N0 + 157) = some (.inr (7, [.ref (N0 + 158), .ref (N0 + 159), .ref (N0 + 160), .ref (N0 + 161), .ref (N0 + 162), .ref (N0 + 163), .int 1]))) (h4 : F (N0 + 63) = some (.inr (8, [.ref (N0 + 64), .int 0]))) (h5 : F (N0 + 64) = some (.inl (cI, 7, .inl (fun _ => 0)))) (h6 : F (N0 + 151) = some (.inl (cC, 20, .inl (upd (fun _ => 0) 0 97)))) (h7 : F (N0 + 158) = some (.inl (cC, 20, .inl (upd (fun _ => 0) 0 97)))) (h8 : F (N0 + 153) = some (.inl (cI, 20, .inl (fun _ => 0)))) (h9 : F (N0 + 160) = some (.inl (cI, 20, .inl (fun _ => 0)))) (h10 : F (N0 + 229) = some (.inl (cL, 1, .inr (.inl (fun _ => 0))))) (h11 : F (N0 + 164) = some (.inr (12, [.ref (N0 + 165), .int 0, .ref (N0 + 181), .int 0, .int 0, .int 0, .int (-1), .ref (ql 24), .ref (N0 + 182), .ref (N0 + 187), .ref (N0 + 208), .ref (N0 + 209), .ref (N0 + 210), .ref (N0 + 211), .ref (N0 + 212), .int 0, .ref (N0 + 213), .ref (N0 + 218), .ref (N0 + 223), .ref (N0 + 224), .ref (N0 + 225), .ref (N0 + 226), .ref (N0 + 227), .int 0, .int 0, .ref (N0 + 228), .null, .int (-1), .int 0, .int 0, .int 0]))) (h12 : F (N0 + 165) = some (.inl (cTm, 3, .inr (.inr (.inr (.inr (va_up (va_up (va_up (fun _ => none) 0 (some (N0 + 166))) 1 (some (N0 + 171))) 2 (some (N0 + 176))))))))) (h13 : F (N0 + 171) = some (.inr (11, [.ref (N0 + 172), .ref (N0 + 173), .ref (N0 + 174), .ref (N0 + 175), .int 1]))) (h14 : F (N0 + 176) = some (.inr (11, [.ref (N0 + 177), .ref (N0 + 178), .ref (N0 + 179), .ref (N0 + 180), .int 1]))) (h15 : F (N0 + 172) = some (.inl (cI, 20, .inl (upd (fun _ => 0) 0 97)))) (h16 : F (N0 + 177) = some (.inl (cI, 20, .inl (upd (fun _ => 0) 0 97)))) (h17 : F (N0 + 174) = some (.inl (cI, 20, .inl (upd (fun _ => 0) 0 0)))) (h18 : F (N0 + 179) = some (.inl (cI, 20, .inl (upd (fun _ => 0) 0 0)))) (h19 : F (N0 + 187) = some (.inl (cII, 20, .inr (.inr (.inr (.inr (fun j => if j < 20 then some ((N0 + 188) + j) else none))))))) (h20 : F (N0 + 188) = some (.inl (cI, 20, .inl (fun _ => 0)))) (hG : fG N0 D vwCl (fty cI cC cL cD cII cTr cTm cIt cB) (fen ql) s F n H locs) (hl : lv_has ls 9 [(0, .ref b), (1, .ref N0), (2, .ref (N0 + 164)), (3, .ref (N0 + 229)), (4, .ref (N0 + 230)), (5, .int 0)]) : W p l e { frames := 2048, cells := 600002, slots := 7302232, locals := 84000 } s m #[.ref b] below meth c H locs 231 4980 (lw_Z below #[.ref b] s) (F0 m 1861 ls []) := by
  have lt_h0 := hG.1.lt h0
  have lt_h1 := hG.1.lt h1
  have lt_h2 := hG.1.lt h2
  have lt_h3 := hG.1.lt h3
  have lt_h4 := hG.1.lt h4
  have lt_h5 := hG.1.lt h5
  have lt_h6 := hG.1.lt h6
  have lt_h7 := hG.1.lt h7
  have lt_h8 := hG.1.lt h8
  have lt_h9 := hG.1.lt h9
  have lt_h10 := hG.1.lt h10
  have lt_h11 := hG.1.lt h11
  have lt_h12 := hG.1.lt h12
  have lt_h13 := hG.1.lt h13
  have lt_h14 := hG.1.lt h14
  have lt_h15 := hG.1.lt h15
  have lt_h16 := hG.1.lt h16
  have lt_h17 := hG.1.lt h17
  have lt_h18 := hG.1.lt h18
  have lt_h19 := hG.1.lt h19
  have lt_h20 := hG.1.lt h20
  refine lv_aload_n S.1 S.2.1 dL_law_1861 rfl (lv_at hl 1 rfl) ?_
  refine lv_aload_n S.1 S.2.1 dL_law_1862 rfl (lv_at hl 0 rfl) ?_
  refine lv_iload S.1 S.2.1 dL_law_1863 (lv_at hl 5 rfl) ?_
  refine lv_iconst (v := 1) S.1 S.2.1 dL_law_1865 (by decide) ?_
  refine lv_iadd S.1 S.2.1 dL_law_1866 ?_
  refine fx_topi (y := 1) (by decide) ?_
  refine gx_sld (v := 1) S hG hX hbl (fin_l (by decide)) hx1 dL_law_1867 ?_
  refine lv_aload_n S.1 S.2.1 dL_law_1868 rfl (lv_at hl 0 rfl) ?_
  refine lv_iload S.1 S.2.1 dL_law_1869 (lv_at hl 5 rfl) ?_
  refine lv_iconst (v := 2) S.1 S.2.1 dL_law_1871 (by decide) ?_
  refine lv_iadd S.1 S.2.1 dL_law_1872 ?_
  refine fx_topi (y := 2) (by decide) ?_
  refine gx_sld (v := 2) S hG hX hbl (fin_l (by decide)) hx2 dL_law_1873 ?_
  refine lv_aload_n S.1 S.2.1 dL_law_1874 rfl (lv_at hl 3 rfl) ?_
  refine fx_cTi (As := [.ref N0, .int 1, .int 2, .ref (N0 + 229)]) (rest := []) S hG (k1339_L_distanceByMatchings (by omega) h0 h1 h2 h3 h4 h5 h6 h7 h8 h9 h10) (vx_cwSW 4 S.2.2.2.2 gL_law_L_distanceByMatchings rfl rfl rfl (by decide +kernel) ⟨Nat.le_of_ble_eq_true rfl, Nat.le_of_ble_eq_true rfl⟩) rfl hl.1 rfl (Nat.le_of_ble_eq_true rfl) dL_law_1875 ⟨Nat.le_of_ble_eq_true rfl, Nat.le_of_ble_eq_true rfl⟩ (fun rv_1 _ H locs hp hG => ?_)
  subst rv_1
  refine lv_istore (lv' := [(6, .int 0), (0, .ref b), (1, .ref N0), (2, .ref (N0 + 164)), (3, .ref (N0 + 229)), (4, .ref (N0 + 230)), (5, .int 0)]) S.1 S.2.1 dL_law_1878 hl (by decide) rfl (fun ls hl => ?_)
  refine lv_aload_n S.1 S.2.1 dL_law_1880 rfl (lv_at hl 3 rfl) ?_
  refine lv_aload_n S.1 S.2.1 dL_law_1881 rfl (lv_at hl 1 rfl) ?_
  refine lv_iload S.1 S.2.1 dL_law_1882 (lv_at hl 6 rfl) ?_
  refine lv_iconst (v := 1) S.1 S.2.1 dL_law_1884 (by decide) ?_
  refine lv_iadd S.1 S.2.1 dL_law_1885 ?_
  refine fx_topi (y := 1) (by decide) ?_
  refine gx_sld (v := 1) S hG hX hbl (fin_l (by decide)) hx1 dL_law_1886 ?_
  refine lv_aload_n S.1 S.2.1 dL_law_1887 rfl (lv_at hl 1 rfl) ?_
  refine lv_iload S.1 S.2.1 dL_law_1888 (lv_at hl 6 rfl) ?_
  refine lv_iconst (v := 2) S.1 S.2.1 dL_law_1890 (by decide) ?_
  refine lv_iadd S.1 S.2.1 dL_law_1891 ?_
  refine fx_topi (y := 2) (by decide) ?_
  refine gx_sld (v := 2) S hG hX hbl (fin_l (by decide)) hx2 dL_law_1892 ?_
  refine fx_cVi (As := [.int 1, .int 2]) (rest := []) S hG (k1340_X10_distanceByMatchings (by omega) (fu_at (by omega) (fu_at (by omega) (fu_at (by omega) h11))) (fu_at (by omega) (fu_at (by omega) (fu_at (by omega) h12))) (fu_at (by omega) (fu_at (by omega) (fu_at (by omega) h13))) (fu_at (by omega) (fu_at (by omega) (fu_at (by omega) h14))) (fu_at (by omega) (fu_at (by omega) (fu_at (by omega) h15))) (fu_at (by omega) (fu_at (by omega) (fu_at (by omega) h16))) (fu_at (by omega) (fu_at (by omega) (fu_at (by omega) h17))) (fu_at (by omega) (fu_at (by omega) (fu_at (by omega) h18))) (fu_at (by omega) (fu_at (by omega) (fu_at (by omega) h19))) (fu_at (by omega) (fu_at (by omega) (fu_at (by omega) h20)))) (fu_at (by omega) (fu_at (by omega) (fu_at (by omega) h11))) rfl (cwV 2 S.2.2.2.2 gL_law_X10_distanceByMatchings rfl rfl rfl (by decide +kernel) ⟨Nat.le_of_ble_eq_true rfl, Nat.le_of_ble_eq_true rfl⟩) rfl hl.1 rfl (Nat.le_of_ble_eq_true rfl) dL_law_1893 ⟨Nat.le_of_ble_eq_true rfl, Nat.le_of_ble_eq_true rfl⟩ (fun rv_2 _ H locs hp hG => ?_)
  subst rv_2
  refine W.widen (k := 235) (n := 4982) (by decide) (by decide) ?_
  refine lv_istore (lv' := [(7, .int 0), (6, .int 0), (0, .ref b), (1, .ref N0), (2, .ref (N0 + 164)), (3, .ref (N0 + 229)), (4, .ref (N0 + 230)), (5, .int 0)]) S.1 S.2.1 dL_law_1896 hl (by decide) rfl (fun ls hl => ?_)
  refine lv_aload_n S.1 S.2.1 dL_law_1898 rfl (lv_at hl 4 rfl) ?_
  refine fx_cVi (As := []) (rest := []) S hG (k117_X10_thrown (by omega) (fblk_sk 4 rfl (by omega) (fu_at (by omega) fu_s))) (fblk_sk 4 rfl (by omega) (fu_at (by omega) fu_s)) rfl (cwV 0 S.2.2.2.2 gL_law_X10_thrown rfl rfl rfl (by decide +kernel) ⟨Nat.le_of_ble_eq_true rfl, Nat.le_of_ble_eq_true rfl⟩) rfl hl.1 rfl (Nat.le_of_ble_eq_true rfl) dL_law_1899 ⟨Nat.le_of_ble_eq_true rfl, Nat.le_of_ble_eq_true rfl⟩ (fun rv_3 _ H locs hp hG => ?_)
  subst rv_3
  refine lv_iload S.1 S.2.1 dL_law_1902 (lv_at hl 1 rfl) ?_
  refine lv_icmp_eq (tgt := 1909) S.1 S.2.1 dL_law_1904 (by decide) (fun _ => ?_) (fun c => absurd (by decide) c)
  refine lv_iload S.1 S.2.1 dL_law_1909 (lv_at hl 1 rfl) ?_
  refine lv_if_ne (tgt := 1926) S.1 S.2.1 dL_law_1911 (by decide) (fun c => absurd (by decide) c) (fun _ => ?_)
  refine lv_aload_n S.1 S.2.1 dL_law_1914 rfl (lv_at hl 5 rfl) ?_
  refine lv_iconst (v := 0) S.1 S.2.1 dL_law_1915 (by decide) ?_
  refine gx_lald (v := 0) S hG 2 (fblk_sk 4 rfl (by omega) (fu_at (by omega) (fu_at (by omega) fu_s))) rfl (fin_l (by decide)) rfl dL_law_1916 ?_
  refine lv_iload S.1 S.2.1 dL_law_1917 (lv_at hl 0 rfl) ?_
  refine lv_i2l (v := 0) S.1 S.2.1 dL_law_1919 (by decide) ?_
  refine gx_lcmpEq S rfl dL_law_1920 ?_
  refine lv_if_eq (tgt := 1926) S.1 S.2.1 dL_law_1921 (by decide) (fun _ => ?_) (fun c => absurd (by decide) c)
  refine lv_goto (tgt := 2650) S.1 S.2.1 dL_law_1926 (by decide) ?_
  refine lv_iinc (v := 5) (lv' := [(5, .int 5), (7, .int 0), (6, .int 0), (0, .ref b), (1, .ref N0), (2, .ref (N0 + 164)), (3, .ref (N0 + 229)), (4, .ref (N0 + 230))]) S.1 S.2.1 dL_law_2650 hl (k := 7) rfl (by decide) (by decide) rfl (fun ls hl => ?_)
  refine lv_goto (tgt := 28) S.1 S.2.1 dL_law_2653 (by decide) ?_
  refine lv_iload S.1 S.2.1 dL_law_28 (lv_at hl 0 rfl) ?_
  refine lv_aload_n S.1 S.2.1 dL_law_30 rfl (lv_at hl 3 rfl) ?_
  refine gx_slen (v := 5) S hG hX hbl rfl dL_law_31 ?_
  refine lv_iconst (v := 5) S.1 S.2.1 dL_law_32 (by decide) ?_
  refine lv_isub S.1 S.2.1 dL_law_33 ?_
  refine fx_topi (y := 0) (by decide) ?_
  refine lv_icmp_gt (tgt := 2656) S.1 S.2.1 dL_law_34 (by decide) (fun _ => ?_) (fun c => absurd (by decide) c)
  refine lv_iconst (v := 1) S.1 S.2.1 dL_law_2656 (by decide) ?_
  refine va_forget (fun q hq => by rw [hN]; exact hG.2.1.2.2 q hq) ?_
  refine W.widen (k := 600002) (n := 7302232) (by decide) (by decide) ?_
  exact lw_ret (d0 := s.drawn) (Drawn.sameBut.refl _ _) S.1 S.2.1 hr hlocks dL_law_2657
theorem l24_10 {p : Program} {e : Env} {s : State} {m : MethodId} {below : List Frame} {meth : Method} {c : Code} {b : Nat} {xs : Nat → Int32} {H : Heap} {locs : List Loc} {ls : Array Slot} {n : Nat} {a2 a3 a4 : Int32} (g_a2_ge_3 : 3 ≤ a2) (S : CallFix p m c cL_law 9 s #[.ref b] wsL_law "TreeDifferLaw") (hr : meth.sig.returnType = ret) (hlocks : meth.locks = false) (hst : l.stackTraces = false) (hX : va_X b 5 xs s s.heap) (hbl : b < s.heap.size ∧ b < N0) (hN : s.heap.size = N0) (hn : N0 + 231 ≤ n) (hx1 : xs 1 = 1) (hx2 : xs 2 = a2) (hx3 : xs 3 = a3) (hx4 : xs 4 = a4) (h0 : F N0 = some (.inr (9, [.ref (N0 + 1), .ref (N0 + 2), .ref (N0 + 11), .ref (N0 + 13), .ref (N0 + 63), .ref (N0 + 65), .ref (N0 + 85), .int (-1), .int (-1), .int 32]))) (h1 : F (N0 + 1) = some (.inl (cTr, 3, .inr (.inr (.inr (.inr (va_up (va_up (va_up (fun _ => none) 0 (some (N0 + 143))) 1 (some (N0 + 150))) 2 (some (N0 + 157))))))))) (h2 : F (N0 + 164) = some (.inr (12, [.ref (N0 + 165), .int 0, .ref (N0 + 181), .int 0, .int 0, .int 0, .int (-1), .ref (ql 24), .ref (N0 + 182), .ref (N0 + 187), .ref (N0 + 208), .ref (N0 + 209), .ref (N0 + 210), .ref (N0 + 211), .ref (N0 + 212), .int 0, .ref (N0 + 213), .ref (N0 + 218), .ref (N0 + 223), .ref (N0 + 224), .ref (N0 + 225), .ref (N0 + 226), .ref (N0 + 227), .int 0, .int 0, .ref (N0 + 228), .null, .int (-1), .int 0, .int 0, .int 0]))) (hG : fG N0 D vwCl (fty cI cC cL cD cII cTr cTm cIt cB) (fen ql) s F n H locs) (hl : lv_has ls 9 [(0, .ref b), (1, .ref N0), (2, .ref (N0 + 164)), (3, .ref (N0 + 229)), (4, .ref (N0 + 230)), (5, .int 0)]) : W p l e { frames := 2048, cells := 600002, slots := 7302232, locals := 84000 } s m #[.ref b] below meth c H locs 231 4980 (lw_Z below #[.ref b] s) (F0 m 1861 ls []) := by
  have lt_h0 := hG.1.lt h0
  have lt_h1 := hG.1.lt h1
  have lt_h2 := hG.1.lt h2
  refine lv_aload_n S.1 S.2.1 dL_law_1861 rfl (lv_at hl 1 rfl) ?_
  refine lv_aload_n S.1 S.2.1 dL_law_1862 rfl (lv_at hl 0 rfl) ?_
  refine lv_iload S.1 S.2.1 dL_law_1863 (lv_at hl 5 rfl) ?_
  refine lv_iconst (v := 1) S.1 S.2.1 dL_law_1865 (by decide) ?_
  refine lv_iadd S.1 S.2.1 dL_law_1866 ?_
  refine fx_topi (y := 1) (by decide) ?_
  refine gx_sld (v := 1) S hG hX hbl (fin_l (by decide)) hx1 dL_law_1867 ?_
  refine lv_aload_n S.1 S.2.1 dL_law_1868 rfl (lv_at hl 0 rfl) ?_
  refine lv_iload S.1 S.2.1 dL_law_1869 (lv_at hl 5 rfl) ?_
  refine lv_iconst (v := 2) S.1 S.2.1 dL_law_1871 (by decide) ?_
  refine lv_iadd S.1 S.2.1 dL_law_1872 ?_
  refine fx_topi (y := 2) (by decide) ?_
  refine gx_sld (v := a2) S hG hX hbl (fin_l (by decide)) hx2 dL_law_1873 ?_
  refine lv_aload_n S.1 S.2.1 dL_law_1874 rfl (lv_at hl 3 rfl) ?_
  refine fx_cTi (As := [.ref N0, .int 1, .int a2, .ref (N0 + 229)]) (rest := []) S hG (k1342_L_distanceByMatchings g_a2_ge_3 hst (by omega) h0 h1) (vx_cwSW 4 S.2.2.2.2 gL_law_L_distanceByMatchings rfl rfl rfl (by decide +kernel) ⟨Nat.le_of_ble_eq_true rfl, Nat.le_of_ble_eq_true rfl⟩) rfl hl.1 rfl (Nat.le_of_ble_eq_true rfl) dL_law_1875 ⟨Nat.le_of_ble_eq_true rfl, Nat.le_of_ble_eq_true rfl⟩ (fun rv_u_1 u_1 H locs hp hG => ?_)
  obtain ⟨rfl, hu_1⟩ := hp
  refine W.widen (k := 232) (n := 4986) (by decide) (by decide) ?_
  refine lv_istore (lv' := [(6, .int 1), (0, .ref b), (1, .ref N0), (2, .ref (N0 + 164)), (3, .ref (N0 + 229)), (4, .ref (N0 + 230)), (5, .int 0)]) S.1 S.2.1 dL_law_1878 hl (by decide) rfl (fun ls hl => ?_)
  refine lv_aload_n S.1 S.2.1 dL_law_1880 rfl (lv_at hl 3 rfl) ?_
  refine lv_aload_n S.1 S.2.1 dL_law_1881 rfl (lv_at hl 1 rfl) ?_
  refine lv_iload S.1 S.2.1 dL_law_1882 (lv_at hl 6 rfl) ?_
  refine lv_iconst (v := 1) S.1 S.2.1 dL_law_1884 (by decide) ?_
  refine lv_iadd S.1 S.2.1 dL_law_1885 ?_
  refine fx_topi (y := 1) (by decide) ?_
  refine gx_sld (v := 1) S hG hX hbl (fin_l (by decide)) hx1 dL_law_1886 ?_
  refine lv_aload_n S.1 S.2.1 dL_law_1887 rfl (lv_at hl 1 rfl) ?_
  refine lv_iload S.1 S.2.1 dL_law_1888 (lv_at hl 6 rfl) ?_
  refine lv_iconst (v := 2) S.1 S.2.1 dL_law_1890 (by decide) ?_
  refine lv_iadd S.1 S.2.1 dL_law_1891 ?_
  refine fx_topi (y := 2) (by decide) ?_
  refine gx_sld (v := a2) S hG hX hbl (fin_l (by decide)) hx2 dL_law_1892 ?_
  refine fx_cVi (As := [.int 1, .int a2]) (rest := []) S hG (k1343_X10_distanceByMatchings g_a2_ge_3 (by omega) h2) h2 rfl (cwV 2 S.2.2.2.2 gL_law_X10_distanceByMatchings rfl rfl rfl (by decide +kernel) ⟨Nat.le_of_ble_eq_true rfl, Nat.le_of_ble_eq_true rfl⟩) rfl hl.1 rfl (Nat.le_of_ble_eq_true rfl) dL_law_1893 ⟨Nat.le_of_ble_eq_true rfl, Nat.le_of_ble_eq_true rfl⟩ (fun rv_2 _ H locs hp hG => ?_)
  subst rv_2
  refine lv_istore (lv' := [(7, .int 0), (6, .int 1), (0, .ref b), (1, .ref N0), (2, .ref (N0 + 164)), (3, .ref (N0 + 229)), (4, .ref (N0 + 230)), (5, .int 0)]) S.1 S.2.1 dL_law_1896 hl (by decide) rfl (fun ls hl => ?_)
  refine lv_aload_n S.1 S.2.1 dL_law_1898 rfl (lv_at hl 4 rfl) ?_
  refine fx_cVi (As := []) (rest := []) S hG (k25_X10_thrown (by omega) fu_s) fu_s rfl (cwV 0 S.2.2.2.2 gL_law_X10_thrown rfl rfl rfl (by decide +kernel) ⟨Nat.le_of_ble_eq_true rfl, Nat.le_of_ble_eq_true rfl⟩) rfl hl.1 rfl (Nat.le_of_ble_eq_true rfl) dL_law_1899 ⟨Nat.le_of_ble_eq_true rfl, Nat.le_of_ble_eq_true rfl⟩ (fun rv_3 _ H locs hp hG => ?_)
  subst rv_3
  refine lv_iload S.1 S.2.1 dL_law_1902 (lv_at hl 1 rfl) ?_
  refine lv_icmp_eq (tgt := 1909) S.1 S.2.1 dL_law_1904 (by decide) (fun _ => ?_) (fun c => absurd (by decide) c)
  refine lv_iload S.1 S.2.1 dL_law_1909 (lv_at hl 1 rfl) ?_
  refine lv_if_ne (tgt := 1926) S.1 S.2.1 dL_law_1911 (by decide) (fun _ => ?_) (fun c => absurd c (by decide))
  refine lv_goto (tgt := 2650) S.1 S.2.1 dL_law_1926 (by decide) ?_
  refine lv_iinc (v := 5) (lv' := [(5, .int 5), (7, .int 0), (6, .int 1), (0, .ref b), (1, .ref N0), (2, .ref (N0 + 164)), (3, .ref (N0 + 229)), (4, .ref (N0 + 230))]) S.1 S.2.1 dL_law_2650 hl (k := 7) rfl (by decide) (by decide) rfl (fun ls hl => ?_)
  refine lv_goto (tgt := 28) S.1 S.2.1 dL_law_2653 (by decide) ?_
  refine lv_iload S.1 S.2.1 dL_law_28 (lv_at hl 0 rfl) ?_
  refine lv_aload_n S.1 S.2.1 dL_law_30 rfl (lv_at hl 3 rfl) ?_
  refine gx_slen (v := 5) S hG hX hbl rfl dL_law_31 ?_
  refine lv_iconst (v := 5) S.1 S.2.1 dL_law_32 (by decide) ?_
  refine lv_isub S.1 S.2.1 dL_law_33 ?_
  refine fx_topi (y := 0) (by decide) ?_
  refine lv_icmp_gt (tgt := 2656) S.1 S.2.1 dL_law_34 (by decide) (fun _ => ?_) (fun c => absurd (by decide) c)
  refine lv_iconst (v := 1) S.1 S.2.1 dL_law_2656 (by decide) ?_
  refine va_forget (fun q hq => by rw [hN]; exact hG.2.1.2.2 q hq) ?_
  refine W.widen (k := 600002) (n := 7302232) (by decide) (by decide) ?_
  exact lw_ret (d0 := s.drawn) (Drawn.sameBut.refl _ _) S.1 S.2.1 hr hlocks dL_law_2657
theorem l24_11 {p : Program} {e : Env} {s : State} {m : MethodId} {below : List Frame} {meth : Method} {c : Code} {b : Nat} {xs : Nat → Int32} {H : Heap} {locs : List Loc} {ls : Array Slot} {n : Nat} {a2 a3 a4 : Int32} (g_a2_le_m1 : a2 ≤ (-1)) (S : CallFix p m c cL_law 9 s #[.ref b] wsL_law "TreeDifferLaw") (hr : meth.sig.returnType = ret) (hlocks : meth.locks = false) (hst : l.stackTraces = false) (hX : va_X b 5 xs s s.heap) (hbl : b < s.heap.size ∧ b < N0) (hN : s.heap.size = N0) (hn : N0 + 231 ≤ n) (hx1 : xs 1 = 2) (hx2 : xs 2 = a2) (hx3 : xs 3 = a3) (hx4 : xs 4 = a4) (h0 : F N0 = some (.inr (9, [.ref (N0 + 1), .ref (N0 + 2), .ref (N0 + 11), .ref (N0 + 13), .ref (N0 + 63), .ref (N0 + 65), .ref (N0 + 85), .int (-1), .int (-1), .int 32]))) (h1 : F (N0 + 1) = some (.inl (cTr, 3, .inr (.inr (.inr (.inr (va_up (va_up (va_up (fun _ => none) 0 (some (N0 + 143))) 1 (some (N0 + 150))) 2 (some (N0 + 157))))))))) (h2 : F (N0 + 164) = some (.inr (12, [.ref (N0 + 165), .int 0, .ref (N0 + 181), .int 0, .int 0, .int 0, .int (-1), .ref (ql 24), .ref (N0 + 182), .ref (N0 + 187), .ref (N0 + 208), .ref (N0 + 209), .ref (N0 + 210), .ref (N0 + 211), .ref (N0 + 212), .int 0, .ref (N0 + 213), .ref (N0 + 218), .ref (N0 + 223), .ref (N0 + 224), .ref (N0 + 225), .ref (N0 + 226), .ref (N0 + 227), .int 0, .int 0, .ref (N0 + 228), .null, .int (-1), .int 0, .int 0, .int 0]))) (hG : fG N0 D vwCl (fty cI cC cL cD cII cTr cTm cIt cB) (fen ql) s F n H locs) (hl : lv_has ls 9 [(0, .ref b), (1, .ref N0), (2, .ref (N0 + 164)), (3, .ref (N0 + 229)), (4, .ref (N0 + 230)), (5, .int 0)]) : W p l e { frames := 2048, cells := 600002, slots := 7302232, locals := 84000 } s m #[.ref b] below meth c H locs 231 4980 (lw_Z below #[.ref b] s) (F0 m 1861 ls []) := by
  have lt_h0 := hG.1.lt h0
  have lt_h1 := hG.1.lt h1
  have lt_h2 := hG.1.lt h2
  refine lv_aload_n S.1 S.2.1 dL_law_1861 rfl (lv_at hl 1 rfl) ?_
  refine lv_aload_n S.1 S.2.1 dL_law_1862 rfl (lv_at hl 0 rfl) ?_
  refine lv_iload S.1 S.2.1 dL_law_1863 (lv_at hl 5 rfl) ?_
  refine lv_iconst (v := 1) S.1 S.2.1 dL_law_1865 (by decide) ?_
  refine lv_iadd S.1 S.2.1 dL_law_1866 ?_
  refine fx_topi (y := 1) (by decide) ?_
  refine gx_sld (v := 2) S hG hX hbl (fin_l (by decide)) hx1 dL_law_1867 ?_
  refine lv_aload_n S.1 S.2.1 dL_law_1868 rfl (lv_at hl 0 rfl) ?_
  refine lv_iload S.1 S.2.1 dL_law_1869 (lv_at hl 5 rfl) ?_
  refine lv_iconst (v := 2) S.1 S.2.1 dL_law_1871 (by decide) ?_
  refine lv_iadd S.1 S.2.1 dL_law_1872 ?_
  refine fx_topi (y := 2) (by decide) ?_
  refine gx_sld (v := a2) S hG hX hbl (fin_l (by decide)) hx2 dL_law_1873 ?_
  refine lv_aload_n S.1 S.2.1 dL_law_1874 rfl (lv_at hl 3 rfl) ?_
  refine fx_cTi (As := [.ref N0, .int 2, .int a2, .ref (N0 + 229)]) (rest := []) S hG (k1345_L_distanceByMatchings g_a2_le_m1 hst (by omega) h0 h1) (vx_cwSW 4 S.2.2.2.2 gL_law_L_distanceByMatchings rfl rfl rfl (by decide +kernel) ⟨Nat.le_of_ble_eq_true rfl, Nat.le_of_ble_eq_true rfl⟩) rfl hl.1 rfl (Nat.le_of_ble_eq_true rfl) dL_law_1875 ⟨Nat.le_of_ble_eq_true rfl, Nat.le_of_ble_eq_true rfl⟩ (fun rv_u_1 u_1 H locs hp hG => ?_)
  obtain ⟨rfl, hu_1⟩ := hp
  refine W.widen (k := 232) (n := 4986) (by decide) (by decide) ?_
  refine lv_istore (lv' := [(6, .int 1), (0, .ref b), (1, .ref N0), (2, .ref (N0 + 164)), (3, .ref (N0 + 229)), (4, .ref (N0 + 230)), (5, .int 0)]) S.1 S.2.1 dL_law_1878 hl (by decide) rfl (fun ls hl => ?_)
  refine lv_aload_n S.1 S.2.1 dL_law_1880 rfl (lv_at hl 3 rfl) ?_
  refine lv_aload_n S.1 S.2.1 dL_law_1881 rfl (lv_at hl 1 rfl) ?_
  refine lv_iload S.1 S.2.1 dL_law_1882 (lv_at hl 6 rfl) ?_
  refine lv_iconst (v := 1) S.1 S.2.1 dL_law_1884 (by decide) ?_
  refine lv_iadd S.1 S.2.1 dL_law_1885 ?_
  refine fx_topi (y := 1) (by decide) ?_
  refine gx_sld (v := 2) S hG hX hbl (fin_l (by decide)) hx1 dL_law_1886 ?_
  refine lv_aload_n S.1 S.2.1 dL_law_1887 rfl (lv_at hl 1 rfl) ?_
  refine lv_iload S.1 S.2.1 dL_law_1888 (lv_at hl 6 rfl) ?_
  refine lv_iconst (v := 2) S.1 S.2.1 dL_law_1890 (by decide) ?_
  refine lv_iadd S.1 S.2.1 dL_law_1891 ?_
  refine fx_topi (y := 2) (by decide) ?_
  refine gx_sld (v := a2) S hG hX hbl (fin_l (by decide)) hx2 dL_law_1892 ?_
  refine fx_cVi (As := [.int 2, .int a2]) (rest := []) S hG (k1346_X10_distanceByMatchings g_a2_le_m1 (by omega) h2) h2 rfl (cwV 2 S.2.2.2.2 gL_law_X10_distanceByMatchings rfl rfl rfl (by decide +kernel) ⟨Nat.le_of_ble_eq_true rfl, Nat.le_of_ble_eq_true rfl⟩) rfl hl.1 rfl (Nat.le_of_ble_eq_true rfl) dL_law_1893 ⟨Nat.le_of_ble_eq_true rfl, Nat.le_of_ble_eq_true rfl⟩ (fun rv_2 _ H locs hp hG => ?_)
  subst rv_2
  refine lv_istore (lv' := [(7, .int 0), (6, .int 1), (0, .ref b), (1, .ref N0), (2, .ref (N0 + 164)), (3, .ref (N0 + 229)), (4, .ref (N0 + 230)), (5, .int 0)]) S.1 S.2.1 dL_law_1896 hl (by decide) rfl (fun ls hl => ?_)
  refine lv_aload_n S.1 S.2.1 dL_law_1898 rfl (lv_at hl 4 rfl) ?_
  refine fx_cVi (As := []) (rest := []) S hG (k25_X10_thrown (by omega) fu_s) fu_s rfl (cwV 0 S.2.2.2.2 gL_law_X10_thrown rfl rfl rfl (by decide +kernel) ⟨Nat.le_of_ble_eq_true rfl, Nat.le_of_ble_eq_true rfl⟩) rfl hl.1 rfl (Nat.le_of_ble_eq_true rfl) dL_law_1899 ⟨Nat.le_of_ble_eq_true rfl, Nat.le_of_ble_eq_true rfl⟩ (fun rv_3 _ H locs hp hG => ?_)
  subst rv_3
  refine lv_iload S.1 S.2.1 dL_law_1902 (lv_at hl 1 rfl) ?_
  refine lv_icmp_eq (tgt := 1909) S.1 S.2.1 dL_law_1904 (by decide) (fun _ => ?_) (fun c => absurd (by decide) c)
  refine lv_iload S.1 S.2.1 dL_law_1909 (lv_at hl 1 rfl) ?_
  refine lv_if_ne (tgt := 1926) S.1 S.2.1 dL_law_1911 (by decide) (fun _ => ?_) (fun c => absurd c (by decide))
  refine lv_goto (tgt := 2650) S.1 S.2.1 dL_law_1926 (by decide) ?_
  refine lv_iinc (v := 5) (lv' := [(5, .int 5), (7, .int 0), (6, .int 1), (0, .ref b), (1, .ref N0), (2, .ref (N0 + 164)), (3, .ref (N0 + 229)), (4, .ref (N0 + 230))]) S.1 S.2.1 dL_law_2650 hl (k := 7) rfl (by decide) (by decide) rfl (fun ls hl => ?_)
  refine lv_goto (tgt := 28) S.1 S.2.1 dL_law_2653 (by decide) ?_
  refine lv_iload S.1 S.2.1 dL_law_28 (lv_at hl 0 rfl) ?_
  refine lv_aload_n S.1 S.2.1 dL_law_30 rfl (lv_at hl 3 rfl) ?_
  refine gx_slen (v := 5) S hG hX hbl rfl dL_law_31 ?_
  refine lv_iconst (v := 5) S.1 S.2.1 dL_law_32 (by decide) ?_
  refine lv_isub S.1 S.2.1 dL_law_33 ?_
  refine fx_topi (y := 0) (by decide) ?_
  refine lv_icmp_gt (tgt := 2656) S.1 S.2.1 dL_law_34 (by decide) (fun _ => ?_) (fun c => absurd (by decide) c)
  refine lv_iconst (v := 1) S.1 S.2.1 dL_law_2656 (by decide) ?_
  refine va_forget (fun q hq => by rw [hN]; exact hG.2.1.2.2 q hq) ?_
  refine W.widen (k := 600002) (n := 7302232) (by decide) (by decide) ?_
  exact lw_ret (d0 := s.drawn) (Drawn.sameBut.refl _ _) S.1 S.2.1 hr hlocks dL_law_2657
theorem l24_12 {p : Program} {e : Env} {s : State} {m : MethodId} {below : List Frame} {meth : Method} {c : Code} {b : Nat} {xs : Nat → Int32} {H : Heap} {locs : List Loc} {ls : Array Slot} {n : Nat} {a3 a4 : Int32} (S : CallFix p m c cL_law 9 s #[.ref b] wsL_law "TreeDifferLaw") (hr : meth.sig.returnType = ret) (hlocks : meth.locks = false) (hst : l.stackTraces = false) (hX : va_X b 5 xs s s.heap) (hbl : b < s.heap.size ∧ b < N0) (hN : s.heap.size = N0) (hn : N0 + 231 ≤ n) (hx1 : xs 1 = 2) (hx2 : xs 2 = 0) (hx3 : xs 3 = a3) (hx4 : xs 4 = a4) (h0 : F N0 = some (.inr (9, [.ref (N0 + 1), .ref (N0 + 2), .ref (N0 + 11), .ref (N0 + 13), .ref (N0 + 63), .ref (N0 + 65), .ref (N0 + 85), .int (-1), .int (-1), .int 32]))) (h1 : F (N0 + 1) = some (.inl (cTr, 3, .inr (.inr (.inr (.inr (va_up (va_up (va_up (fun _ => none) 0 (some (N0 + 143))) 1 (some (N0 + 150))) 2 (some (N0 + 157))))))))) (h2 : F (N0 + 157) = some (.inr (7, [.ref (N0 + 158), .ref (N0 + 159), .ref (N0 + 160), .ref (N0 + 161), .ref (N0 + 162), .ref (N0 + 163), .int 1]))) (h3 : F (N0 + 143) = some (.inr (7, [.ref (N0 + 144), .ref (N0 + 145), .ref (N0 + 146), .ref (N0 + 147), .ref (N0 + 148), .ref (N0 + 149), .int 1]))) (h4 : F (N0 + 63) = some (.inr (8, [.ref (N0 + 64), .int 0]))) (h5 : F (N0 + 64) = some (.inl (cI, 7, .inl (fun _ => 0)))) (h6 : F (N0 + 158) = some (.inl (cC, 20, .inl (upd (fun _ => 0) 0 97)))) (h7 : F (N0 + 144) = some (.inl (cC, 20, .inl (upd (fun _ => 0) 0 97)))) (h8 : F (N0 + 160) = some (.inl (cI, 20, .inl (fun _ => 0)))) (h9 : F (N0 + 146) = some (.inl (cI, 20, .inl (fun _ => 0)))) (h10 : F (N0 + 229) = some (.inl (cL, 1, .inr (.inl (fun _ => 0))))) (h11 : F (N0 + 164) = some (.inr (12, [.ref (N0 + 165), .int 0, .ref (N0 + 181), .int 0, .int 0, .int 0, .int (-1), .ref (ql 24), .ref (N0 + 182), .ref (N0 + 187), .ref (N0 + 208), .ref (N0 + 209), .ref (N0 + 210), .ref (N0 + 211), .ref (N0 + 212), .int 0, .ref (N0 + 213), .ref (N0 + 218), .ref (N0 + 223), .ref (N0 + 224), .ref (N0 + 225), .ref (N0 + 226), .ref (N0 + 227), .int 0, .int 0, .ref (N0 + 228), .null, .int (-1), .int 0, .int 0, .int 0]))) (h12 : F (N0 + 165) = some (.inl (cTm, 3, .inr (.inr (.inr (.inr (va_up (va_up (va_up (fun _ => none) 0 (some (N0 + 166))) 1 (some (N0 + 171))) 2 (some (N0 + 176))))))))) (h13 : F (N0 + 176) = some (.inr (11, [.ref (N0 + 177), .ref (N0 + 178), .ref (N0 + 179), .ref (N0 + 180), .int 1]))) (h14 : F (N0 + 166) = some (.inr (11, [.ref (N0 + 167), .ref (N0 + 168), .ref (N0 + 169), .ref (N0 + 170), .int 1]))) (h15 : F (N0 + 177) = some (.inl (cI, 20, .inl (upd (fun _ => 0) 0 97)))) (h16 : F (N0 + 167) = some (.inl (cI, 20, .inl (upd (fun _ => 0) 0 97)))) (h17 : F (N0 + 179) = some (.inl (cI, 20, .inl (upd (fun _ => 0) 0 0)))) (h18 : F (N0 + 169) = some (.inl (cI, 20, .inl (upd (fun _ => 0) 0 0)))) (h19 : F (N0 + 187) = some (.inl (cII, 20, .inr (.inr (.inr (.inr (fun j => if j < 20 then some ((N0 + 188) + j) else none))))))) (h20 : F (N0 + 188) = some (.inl (cI, 20, .inl (fun _ => 0)))) (hG : fG N0 D vwCl (fty cI cC cL cD cII cTr cTm cIt cB) (fen ql) s F n H locs) (hl : lv_has ls 9 [(0, .ref b), (1, .ref N0), (2, .ref (N0 + 164)), (3, .ref (N0 + 229)), (4, .ref (N0 + 230)), (5, .int 0)]) : W p l e { frames := 2048, cells := 600002, slots := 7302232, locals := 84000 } s m #[.ref b] below meth c H locs 231 4980 (lw_Z below #[.ref b] s) (F0 m 1861 ls []) := by
  have lt_h0 := hG.1.lt h0
  have lt_h1 := hG.1.lt h1
  have lt_h2 := hG.1.lt h2
  have lt_h3 := hG.1.lt h3
  have lt_h4 := hG.1.lt h4
  have lt_h5 := hG.1.lt h5
  have lt_h6 := hG.1.lt h6
  have lt_h7 := hG.1.lt h7
  have lt_h8 := hG.1.lt h8
  have lt_h9 := hG.1.lt h9
  have lt_h10 := hG.1.lt h10
  have lt_h11 := hG.1.lt h11
  have lt_h12 := hG.1.lt h12
  have lt_h13 := hG.1.lt h13
  have lt_h14 := hG.1.lt h14
  have lt_h15 := hG.1.lt h15
  have lt_h16 := hG.1.lt h16
  have lt_h17 := hG.1.lt h17
  have lt_h18 := hG.1.lt h18
  have lt_h19 := hG.1.lt h19
  have lt_h20 := hG.1.lt h20
  refine lv_aload_n S.1 S.2.1 dL_law_1861 rfl (lv_at hl 1 rfl) ?_
  refine lv_aload_n S.1 S.2.1 dL_law_1862 rfl (lv_at hl 0 rfl) ?_
  refine lv_iload S.1 S.2.1 dL_law_1863 (lv_at hl 5 rfl) ?_
  refine lv_iconst (v := 1) S.1 S.2.1 dL_law_1865 (by decide) ?_
  refine lv_iadd S.1 S.2.1 dL_law_1866 ?_
  refine fx_topi (y := 1) (by decide) ?_
  refine gx_sld (v := 2) S hG hX hbl (fin_l (by decide)) hx1 dL_law_1867 ?_
  refine lv_aload_n S.1 S.2.1 dL_law_1868 rfl (lv_at hl 0 rfl) ?_
  refine lv_iload S.1 S.2.1 dL_law_1869 (lv_at hl 5 rfl) ?_
  refine lv_iconst (v := 2) S.1 S.2.1 dL_law_1871 (by decide) ?_
  refine lv_iadd S.1 S.2.1 dL_law_1872 ?_
  refine fx_topi (y := 2) (by decide) ?_
  refine gx_sld (v := 0) S hG hX hbl (fin_l (by decide)) hx2 dL_law_1873 ?_
  refine lv_aload_n S.1 S.2.1 dL_law_1874 rfl (lv_at hl 3 rfl) ?_
  refine fx_cTi (As := [.ref N0, .int 2, .int 0, .ref (N0 + 229)]) (rest := []) S hG (k1351_L_distanceByMatchings (by omega) h0 h1 h2 h3 h4 h5 h6 h7 h8 h9 h10) (vx_cwSW 4 S.2.2.2.2 gL_law_L_distanceByMatchings rfl rfl rfl (by decide +kernel) ⟨Nat.le_of_ble_eq_true rfl, Nat.le_of_ble_eq_true rfl⟩) rfl hl.1 rfl (Nat.le_of_ble_eq_true rfl) dL_law_1875 ⟨Nat.le_of_ble_eq_true rfl, Nat.le_of_ble_eq_true rfl⟩ (fun rv_1 _ H locs hp hG => ?_)
  subst rv_1
  refine lv_istore (lv' := [(6, .int 0), (0, .ref b), (1, .ref N0), (2, .ref (N0 + 164)), (3, .ref (N0 + 229)), (4, .ref (N0 + 230)), (5, .int 0)]) S.1 S.2.1 dL_law_1878 hl (by decide) rfl (fun ls hl => ?_)
  refine lv_aload_n S.1 S.2.1 dL_law_1880 rfl (lv_at hl 3 rfl) ?_
  refine lv_aload_n S.1 S.2.1 dL_law_1881 rfl (lv_at hl 1 rfl) ?_
  refine lv_iload S.1 S.2.1 dL_law_1882 (lv_at hl 6 rfl) ?_
  refine lv_iconst (v := 1) S.1 S.2.1 dL_law_1884 (by decide) ?_
  refine lv_iadd S.1 S.2.1 dL_law_1885 ?_
  refine fx_topi (y := 1) (by decide) ?_
  refine gx_sld (v := 2) S hG hX hbl (fin_l (by decide)) hx1 dL_law_1886 ?_
  refine lv_aload_n S.1 S.2.1 dL_law_1887 rfl (lv_at hl 1 rfl) ?_
  refine lv_iload S.1 S.2.1 dL_law_1888 (lv_at hl 6 rfl) ?_
  refine lv_iconst (v := 2) S.1 S.2.1 dL_law_1890 (by decide) ?_
  refine lv_iadd S.1 S.2.1 dL_law_1891 ?_
  refine fx_topi (y := 2) (by decide) ?_
  refine gx_sld (v := 0) S hG hX hbl (fin_l (by decide)) hx2 dL_law_1892 ?_
  refine fx_cVi (As := [.int 2, .int 0]) (rest := []) S hG (k1352_X10_distanceByMatchings (by omega) (fu_at (by omega) (fu_at (by omega) (fu_at (by omega) h11))) (fu_at (by omega) (fu_at (by omega) (fu_at (by omega) h12))) (fu_at (by omega) (fu_at (by omega) (fu_at (by omega) h13))) (fu_at (by omega) (fu_at (by omega) (fu_at (by omega) h14))) (fu_at (by omega) (fu_at (by omega) (fu_at (by omega) h15))) (fu_at (by omega) (fu_at (by omega) (fu_at (by omega) h16))) (fu_at (by omega) (fu_at (by omega) (fu_at (by omega) h17))) (fu_at (by omega) (fu_at (by omega) (fu_at (by omega) h18))) (fu_at (by omega) (fu_at (by omega) (fu_at (by omega) h19))) (fu_at (by omega) (fu_at (by omega) (fu_at (by omega) h20)))) (fu_at (by omega) (fu_at (by omega) (fu_at (by omega) h11))) rfl (cwV 2 S.2.2.2.2 gL_law_X10_distanceByMatchings rfl rfl rfl (by decide +kernel) ⟨Nat.le_of_ble_eq_true rfl, Nat.le_of_ble_eq_true rfl⟩) rfl hl.1 rfl (Nat.le_of_ble_eq_true rfl) dL_law_1893 ⟨Nat.le_of_ble_eq_true rfl, Nat.le_of_ble_eq_true rfl⟩ (fun rv_2 _ H locs hp hG => ?_)
  subst rv_2
  refine W.widen (k := 235) (n := 4982) (by decide) (by decide) ?_
  refine lv_istore (lv' := [(7, .int 0), (6, .int 0), (0, .ref b), (1, .ref N0), (2, .ref (N0 + 164)), (3, .ref (N0 + 229)), (4, .ref (N0 + 230)), (5, .int 0)]) S.1 S.2.1 dL_law_1896 hl (by decide) rfl (fun ls hl => ?_)
  refine lv_aload_n S.1 S.2.1 dL_law_1898 rfl (lv_at hl 4 rfl) ?_
  refine fx_cVi (As := []) (rest := []) S hG (k117_X10_thrown (by omega) (fblk_sk 4 rfl (by omega) (fu_at (by omega) fu_s))) (fblk_sk 4 rfl (by omega) (fu_at (by omega) fu_s)) rfl (cwV 0 S.2.2.2.2 gL_law_X10_thrown rfl rfl rfl (by decide +kernel) ⟨Nat.le_of_ble_eq_true rfl, Nat.le_of_ble_eq_true rfl⟩) rfl hl.1 rfl (Nat.le_of_ble_eq_true rfl) dL_law_1899 ⟨Nat.le_of_ble_eq_true rfl, Nat.le_of_ble_eq_true rfl⟩ (fun rv_3 _ H locs hp hG => ?_)
  subst rv_3
  refine lv_iload S.1 S.2.1 dL_law_1902 (lv_at hl 1 rfl) ?_
  refine lv_icmp_eq (tgt := 1909) S.1 S.2.1 dL_law_1904 (by decide) (fun _ => ?_) (fun c => absurd (by decide) c)
  refine lv_iload S.1 S.2.1 dL_law_1909 (lv_at hl 1 rfl) ?_
  refine lv_if_ne (tgt := 1926) S.1 S.2.1 dL_law_1911 (by decide) (fun c => absurd (by decide) c) (fun _ => ?_)
  refine lv_aload_n S.1 S.2.1 dL_law_1914 rfl (lv_at hl 5 rfl) ?_
  refine lv_iconst (v := 0) S.1 S.2.1 dL_law_1915 (by decide) ?_
  refine gx_lald (v := 0) S hG 2 (fblk_sk 4 rfl (by omega) (fu_at (by omega) (fu_at (by omega) fu_s))) rfl (fin_l (by decide)) rfl dL_law_1916 ?_
  refine lv_iload S.1 S.2.1 dL_law_1917 (lv_at hl 0 rfl) ?_
  refine lv_i2l (v := 0) S.1 S.2.1 dL_law_1919 (by decide) ?_
  refine gx_lcmpEq S rfl dL_law_1920 ?_
  refine lv_if_eq (tgt := 1926) S.1 S.2.1 dL_law_1921 (by decide) (fun _ => ?_) (fun c => absurd (by decide) c)
  refine lv_goto (tgt := 2650) S.1 S.2.1 dL_law_1926 (by decide) ?_
  refine lv_iinc (v := 5) (lv' := [(5, .int 5), (7, .int 0), (6, .int 0), (0, .ref b), (1, .ref N0), (2, .ref (N0 + 164)), (3, .ref (N0 + 229)), (4, .ref (N0 + 230))]) S.1 S.2.1 dL_law_2650 hl (k := 7) rfl (by decide) (by decide) rfl (fun ls hl => ?_)
  refine lv_goto (tgt := 28) S.1 S.2.1 dL_law_2653 (by decide) ?_
  refine lv_iload S.1 S.2.1 dL_law_28 (lv_at hl 0 rfl) ?_
  refine lv_aload_n S.1 S.2.1 dL_law_30 rfl (lv_at hl 3 rfl) ?_
  refine gx_slen (v := 5) S hG hX hbl rfl dL_law_31 ?_
  refine lv_iconst (v := 5) S.1 S.2.1 dL_law_32 (by decide) ?_
  refine lv_isub S.1 S.2.1 dL_law_33 ?_
  refine fx_topi (y := 0) (by decide) ?_
  refine lv_icmp_gt (tgt := 2656) S.1 S.2.1 dL_law_34 (by decide) (fun _ => ?_) (fun c => absurd (by decide) c)
  refine lv_iconst (v := 1) S.1 S.2.1 dL_law_2656 (by decide) ?_
  refine va_forget (fun q hq => by rw [hN]; exact hG.2.1.2.2 q hq) ?_
  refine W.widen (k := 600002) (n := 7302232) (by decide) (by decide) ?_
  exact lw_ret (d0 := s.drawn) (Drawn.sameBut.refl _ _) S.1 S.2.1 hr hlocks dL_law_2657
theorem l24_13 {p : Program} {e : Env} {s : State} {m : MethodId} {below : List Frame} {meth : Method} {c : Code} {b : Nat} {xs : Nat → Int32} {H : Heap} {locs : List Loc} {ls : Array Slot} {n : Nat} {a3 a4 : Int32} (S : CallFix p m c cL_law 9 s #[.ref b] wsL_law "TreeDifferLaw") (hr : meth.sig.returnType = ret) (hlocks : meth.locks = false) (hst : l.stackTraces = false) (hX : va_X b 5 xs s s.heap) (hbl : b < s.heap.size ∧ b < N0) (hN : s.heap.size = N0) (hn : N0 + 231 ≤ n) (hx1 : xs 1 = 2) (hx2 : xs 2 = 1) (hx3 : xs 3 = a3) (hx4 : xs 4 = a4) (h0 : F N0 = some (.inr (9, [.ref (N0 + 1), .ref (N0 + 2), .ref (N0 + 11), .ref (N0 + 13), .ref (N0 + 63), .ref (N0 + 65), .ref (N0 + 85), .int (-1), .int (-1), .int 32]))) (h1 : F (N0 + 1) = some (.inl (cTr, 3, .inr (.inr (.inr (.inr (va_up (va_up (va_up (fun _ => none) 0 (some (N0 + 143))) 1 (some (N0 + 150))) 2 (some (N0 + 157))))))))) (h2 : F (N0 + 157) = some (.inr (7, [.ref (N0 + 158), .ref (N0 + 159), .ref (N0 + 160), .ref (N0 + 161), .ref (N0 + 162), .ref (N0 + 163), .int 1]))) (h3 : F (N0 + 150) = some (.inr (7, [.ref (N0 + 151), .ref (N0 + 152), .ref (N0 + 153), .ref (N0 + 154), .ref (N0 + 155), .ref (N0 + 156), .int 1]))) (h4 : F (N0 + 63) = some (.inr (8, [.ref (N0 + 64), .int 0]))) (h5 : F (N0 + 64) = some (.inl (cI, 7, .inl (fun _ => 0)))) (h6 : F (N0 + 158) = some (.inl (cC, 20, .inl (upd (fun _ => 0) 0 97)))) (h7 : F (N0 + 151) = some (.inl (cC, 20, .inl (upd (fun _ => 0) 0 97)))) (h8 : F (N0 + 160) = some (.inl (cI, 20, .inl (fun _ => 0)))) (h9 : F (N0 + 153) = some (.inl (cI, 20, .inl (fun _ => 0)))) (h10 : F (N0 + 229) = some (.inl (cL, 1, .inr (.inl (fun _ => 0))))) (h11 : F (N0 + 164) = some (.inr (12, [.ref (N0 + 165), .int 0, .ref (N0 + 181), .int 0, .int 0, .int 0, .int (-1), .ref (ql 24), .ref (N0 + 182), .ref (N0 + 187), .ref (N0 + 208), .ref (N0 + 209), .ref (N0 + 210), .ref (N0 + 211), .ref (N0 + 212), .int 0, .ref (N0 + 213), .ref (N0 + 218), .ref (N0 + 223), .ref (N0 + 224), .ref (N0 + 225), .ref (N0 + 226), .ref (N0 + 227), .int 0, .int 0, .ref (N0 + 228), .null, .int (-1), .int 0, .int 0, .int 0]))) (h12 : F (N0 + 165) = some (.inl (cTm, 3, .inr (.inr (.inr (.inr (va_up (va_up (va_up (fun _ => none) 0 (some (N0 + 166))) 1 (some (N0 + 171))) 2 (some (N0 + 176))))))))) (h13 : F (N0 + 176) = some (.inr (11, [.ref (N0 + 177), .ref (N0 + 178), .ref (N0 + 179), .ref (N0 + 180), .int 1]))) (h14 : F (N0 + 171) = some (.inr (11, [.ref (N0 + 172), .ref (N0 + 173), .ref (N0 + 174), .ref (N0 + 175), .int 1]))) (h15 : F (N0 + 177) = some (.inl (cI, 20, .inl (upd (fun _ => 0) 0 97)))) (h16 : F (N0 + 172) = some (.inl (cI, 20, .inl (upd (fun _ => 0) 0 97)))) (h17 : F (N0 + 179) = some (.inl (cI, 20, .inl (upd (fun _ => 0) 0 0)))) (h18 : F (N0 + 174) = some (.inl (cI, 20, .inl (upd (fun _ => 0) 0 0)))) (h19 : F (N0 + 187) = some (.inl (cII, 20, .inr (.inr (.inr (.inr (fun j => if j < 20 then some ((N0 + 188) + j) else none))))))) (h20 : F (N0 + 188) = some (.inl (cI, 20, .inl (fun _ => 0)))) (hG : fG N0 D vwCl (fty cI cC cL cD cII cTr cTm cIt cB) (fen ql) s F n H locs) (hl : lv_has ls 9 [(0, .ref b), (1, .ref N0), (2, .ref (N0 + 164)), (3, .ref (N0 + 229)), (4, .ref (N0 + 230)), (5, .int 0)]) : W p l e { frames := 2048, cells := 600002, slots := 7302232, locals := 84000 } s m #[.ref b] below meth c H locs 231 4980 (lw_Z below #[.ref b] s) (F0 m 1861 ls []) := by
  have lt_h0 := hG.1.lt h0
  have lt_h1 := hG.1.lt h1
  have lt_h2 := hG.1.lt h2
  have lt_h3 := hG.1.lt h3
  have lt_h4 := hG.1.lt h4
  have lt_h5 := hG.1.lt h5
  have lt_h6 := hG.1.lt h6
  have lt_h7 := hG.1.lt h7
  have lt_h8 := hG.1.lt h8
  have lt_h9 := hG.1.lt h9
  have lt_h10 := hG.1.lt h10
  have lt_h11 := hG.1.lt h11
  have lt_h12 := hG.1.lt h12
  have lt_h13 := hG.1.lt h13
  have lt_h14 := hG.1.lt h14
  have lt_h15 := hG.1.lt h15
  have lt_h16 := hG.1.lt h16
  have lt_h17 := hG.1.lt h17
  have lt_h18 := hG.1.lt h18
  have lt_h19 := hG.1.lt h19
  have lt_h20 := hG.1.lt h20
  refine lv_aload_n S.1 S.2.1 dL_law_1861 rfl (lv_at hl 1 rfl) ?_
  refine lv_aload_n S.1 S.2.1 dL_law_1862 rfl (lv_at hl 0 rfl) ?_
  refine lv_iload S.1 S.2.1 dL_law_1863 (lv_at hl 5 rfl) ?_
  refine lv_iconst (v := 1) S.1 S.2.1 dL_law_1865 (by decide) ?_
  refine lv_iadd S.1 S.2.1 dL_law_1866 ?_
  refine fx_topi (y := 1) (by decide) ?_
  refine gx_sld (v := 2) S hG hX hbl (fin_l (by decide)) hx1 dL_law_1867 ?_
  refine lv_aload_n S.1 S.2.1 dL_law_1868 rfl (lv_at hl 0 rfl) ?_
  refine lv_iload S.1 S.2.1 dL_law_1869 (lv_at hl 5 rfl) ?_
  refine lv_iconst (v := 2) S.1 S.2.1 dL_law_1871 (by decide) ?_
  refine lv_iadd S.1 S.2.1 dL_law_1872 ?_
  refine fx_topi (y := 2) (by decide) ?_
  refine gx_sld (v := 1) S hG hX hbl (fin_l (by decide)) hx2 dL_law_1873 ?_
  refine lv_aload_n S.1 S.2.1 dL_law_1874 rfl (lv_at hl 3 rfl) ?_
  refine fx_cTi (As := [.ref N0, .int 2, .int 1, .ref (N0 + 229)]) (rest := []) S hG (k1357_L_distanceByMatchings (by omega) h0 h1 h2 h3 h4 h5 h6 h7 h8 h9 h10) (vx_cwSW 4 S.2.2.2.2 gL_law_L_distanceByMatchings rfl rfl rfl (by decide +kernel) ⟨Nat.le_of_ble_eq_true rfl, Nat.le_of_ble_eq_true rfl⟩) rfl hl.1 rfl (Nat.le_of_ble_eq_true rfl) dL_law_1875 ⟨Nat.le_of_ble_eq_true rfl, Nat.le_of_ble_eq_true rfl⟩ (fun rv_1 _ H locs hp hG => ?_)
  subst rv_1
  refine lv_istore (lv' := [(6, .int 0), (0, .ref b), (1, .ref N0), (2, .ref (N0 + 164)), (3, .ref (N0 + 229)), (4, .ref (N0 + 230)), (5, .int 0)]) S.1 S.2.1 dL_law_1878 hl (by decide) rfl (fun ls hl => ?_)
  refine lv_aload_n S.1 S.2.1 dL_law_1880 rfl (lv_at hl 3 rfl) ?_
  refine lv_aload_n S.1 S.2.1 dL_law_1881 rfl (lv_at hl 1 rfl) ?_
  refine lv_iload S.1 S.2.1 dL_law_1882 (lv_at hl 6 rfl) ?_
  refine lv_iconst (v := 1) S.1 S.2.1 dL_law_1884 (by decide) ?_
  refine lv_iadd S.1 S.2.1 dL_law_1885 ?_
  refine fx_topi (y := 1) (by decide) ?_
  refine gx_sld (v := 2) S hG hX hbl (fin_l (by decide)) hx1 dL_law_1886 ?_
  refine lv_aload_n S.1 S.2.1 dL_law_1887 rfl (lv_at hl 1 rfl) ?_
  refine lv_iload S.1 S.2.1 dL_law_1888 (lv_at hl 6 rfl) ?_
  refine lv_iconst (v := 2) S.1 S.2.1 dL_law_1890 (by decide) ?_
  refine lv_iadd S.1 S.2.1 dL_law_1891 ?_
  refine fx_topi (y := 2) (by decide) ?_
  refine gx_sld (v := 1) S hG hX hbl (fin_l (by decide)) hx2 dL_law_1892 ?_
  refine fx_cVi (As := [.int 2, .int 1]) (rest := []) S hG (k1358_X10_distanceByMatchings (by omega) (fu_at (by omega) (fu_at (by omega) (fu_at (by omega) h11))) (fu_at (by omega) (fu_at (by omega) (fu_at (by omega) h12))) (fu_at (by omega) (fu_at (by omega) (fu_at (by omega) h13))) (fu_at (by omega) (fu_at (by omega) (fu_at (by omega) h14))) (fu_at (by omega) (fu_at (by omega) (fu_at (by omega) h15))) (fu_at (by omega) (fu_at (by omega) (fu_at (by omega) h16))) (fu_at (by omega) (fu_at (by omega) (fu_at (by omega) h17))) (fu_at (by omega) (fu_at (by omega) (fu_at (by omega) h18))) (fu_at (by omega) (fu_at (by omega) (fu_at (by omega) h19))) (fu_at (by omega) (fu_at (by omega) (fu_at (by omega) h20)))) (fu_at (by omega) (fu_at (by omega) (fu_at (by omega) h11))) rfl (cwV 2 S.2.2.2.2 gL_law_X10_distanceByMatchings rfl rfl rfl (by decide +kernel) ⟨Nat.le_of_ble_eq_true rfl, Nat.le_of_ble_eq_true rfl⟩) rfl hl.1 rfl (Nat.le_of_ble_eq_true rfl) dL_law_1893 ⟨Nat.le_of_ble_eq_true rfl, Nat.le_of_ble_eq_true rfl⟩ (fun rv_2 _ H locs hp hG => ?_)
  subst rv_2
  refine W.widen (k := 235) (n := 4982) (by decide) (by decide) ?_
  refine lv_istore (lv' := [(7, .int 0), (6, .int 0), (0, .ref b), (1, .ref N0), (2, .ref (N0 + 164)), (3, .ref (N0 + 229)), (4, .ref (N0 + 230)), (5, .int 0)]) S.1 S.2.1 dL_law_1896 hl (by decide) rfl (fun ls hl => ?_)
  refine lv_aload_n S.1 S.2.1 dL_law_1898 rfl (lv_at hl 4 rfl) ?_
  refine fx_cVi (As := []) (rest := []) S hG (k117_X10_thrown (by omega) (fblk_sk 4 rfl (by omega) (fu_at (by omega) fu_s))) (fblk_sk 4 rfl (by omega) (fu_at (by omega) fu_s)) rfl (cwV 0 S.2.2.2.2 gL_law_X10_thrown rfl rfl rfl (by decide +kernel) ⟨Nat.le_of_ble_eq_true rfl, Nat.le_of_ble_eq_true rfl⟩) rfl hl.1 rfl (Nat.le_of_ble_eq_true rfl) dL_law_1899 ⟨Nat.le_of_ble_eq_true rfl, Nat.le_of_ble_eq_true rfl⟩ (fun rv_3 _ H locs hp hG => ?_)
  subst rv_3
  refine lv_iload S.1 S.2.1 dL_law_1902 (lv_at hl 1 rfl) ?_
  refine lv_icmp_eq (tgt := 1909) S.1 S.2.1 dL_law_1904 (by decide) (fun _ => ?_) (fun c => absurd (by decide) c)
  refine lv_iload S.1 S.2.1 dL_law_1909 (lv_at hl 1 rfl) ?_
  refine lv_if_ne (tgt := 1926) S.1 S.2.1 dL_law_1911 (by decide) (fun c => absurd (by decide) c) (fun _ => ?_)
  refine lv_aload_n S.1 S.2.1 dL_law_1914 rfl (lv_at hl 5 rfl) ?_
  refine lv_iconst (v := 0) S.1 S.2.1 dL_law_1915 (by decide) ?_
  refine gx_lald (v := 0) S hG 2 (fblk_sk 4 rfl (by omega) (fu_at (by omega) (fu_at (by omega) fu_s))) rfl (fin_l (by decide)) rfl dL_law_1916 ?_
  refine lv_iload S.1 S.2.1 dL_law_1917 (lv_at hl 0 rfl) ?_
  refine lv_i2l (v := 0) S.1 S.2.1 dL_law_1919 (by decide) ?_
  refine gx_lcmpEq S rfl dL_law_1920 ?_
  refine lv_if_eq (tgt := 1926) S.1 S.2.1 dL_law_1921 (by decide) (fun _ => ?_) (fun c => absurd (by decide) c)
  refine lv_goto (tgt := 2650) S.1 S.2.1 dL_law_1926 (by decide) ?_
  refine lv_iinc (v := 5) (lv' := [(5, .int 5), (7, .int 0), (6, .int 0), (0, .ref b), (1, .ref N0), (2, .ref (N0 + 164)), (3, .ref (N0 + 229)), (4, .ref (N0 + 230))]) S.1 S.2.1 dL_law_2650 hl (k := 7) rfl (by decide) (by decide) rfl (fun ls hl => ?_)
  refine lv_goto (tgt := 28) S.1 S.2.1 dL_law_2653 (by decide) ?_
  refine lv_iload S.1 S.2.1 dL_law_28 (lv_at hl 0 rfl) ?_
  refine lv_aload_n S.1 S.2.1 dL_law_30 rfl (lv_at hl 3 rfl) ?_
  refine gx_slen (v := 5) S hG hX hbl rfl dL_law_31 ?_
  refine lv_iconst (v := 5) S.1 S.2.1 dL_law_32 (by decide) ?_
  refine lv_isub S.1 S.2.1 dL_law_33 ?_
  refine fx_topi (y := 0) (by decide) ?_
  refine lv_icmp_gt (tgt := 2656) S.1 S.2.1 dL_law_34 (by decide) (fun _ => ?_) (fun c => absurd (by decide) c)
  refine lv_iconst (v := 1) S.1 S.2.1 dL_law_2656 (by decide) ?_
  refine va_forget (fun q hq => by rw [hN]; exact hG.2.1.2.2 q hq) ?_
  refine W.widen (k := 600002) (n := 7302232) (by decide) (by decide) ?_
  exact lw_ret (d0 := s.drawn) (Drawn.sameBut.refl _ _) S.1 S.2.1 hr hlocks dL_law_2657
theorem l24_14 {p : Program} {e : Env} {s : State} {m : MethodId} {below : List Frame} {meth : Method} {c : Code} {b : Nat} {xs : Nat → Int32} {H : Heap} {locs : List Loc} {ls : Array Slot} {n : Nat} {a3 a4 : Int32} (S : CallFix p m c cL_law 9 s #[.ref b] wsL_law "TreeDifferLaw") (hr : meth.sig.returnType = ret) (hlocks : meth.locks = false) (hst : l.stackTraces = false) (hX : va_X b 5 xs s s.heap) (hbl : b < s.heap.size ∧ b < N0) (hN : s.heap.size = N0) (hn : N0 + 231 ≤ n) (hx1 : xs 1 = 2) (hx2 : xs 2 = 2) (hx3 : xs 3 = a3) (hx4 : xs 4 = a4) (h0 : F N0 = some (.inr (9, [.ref (N0 + 1), .ref (N0 + 2), .ref (N0 + 11), .ref (N0 + 13), .ref (N0 + 63), .ref (N0 + 65), .ref (N0 + 85), .int (-1), .int (-1), .int 32]))) (h1 : F (N0 + 1) = some (.inl (cTr, 3, .inr (.inr (.inr (.inr (va_up (va_up (va_up (fun _ => none) 0 (some (N0 + 143))) 1 (some (N0 + 150))) 2 (some (N0 + 157))))))))) (h2 : F (N0 + 157) = some (.inr (7, [.ref (N0 + 158), .ref (N0 + 159), .ref (N0 + 160), .ref (N0 + 161), .ref (N0 + 162), .ref (N0 + 163), .int 1]))) (h3 : F (N0 + 63) = some (.inr (8, [.ref (N0 + 64), .int 0]))) (h4 : F (N0 + 64) = some (.inl (cI, 7, .inl (fun _ => 0)))) (h5 : F (N0 + 158) = some (.inl (cC, 20, .inl (upd (fun _ => 0) 0 97)))) (h6 : F (N0 + 160) = some (.inl (cI, 20, .inl (fun _ => 0)))) (h7 : F (N0 + 229) = some (.inl (cL, 1, .inr (.inl (fun _ => 0))))) (h8 : F (N0 + 164) = some (.inr (12, [.ref (N0 + 165), .int 0, .ref (N0 + 181), .int 0, .int 0, .int 0, .int (-1), .ref (ql 24), .ref (N0 + 182), .ref (N0 + 187), .ref (N0 + 208), .ref (N0 + 209), .ref (N0 + 210), .ref (N0 + 211), .ref (N0 + 212), .int 0, .ref (N0 + 213), .ref (N0 + 218), .ref (N0 + 223), .ref (N0 + 224), .ref (N0 + 225), .ref (N0 + 226), .ref (N0 + 227), .int 0, .int 0, .ref (N0 + 228), .null, .int (-1), .int 0, .int 0, .int 0]))) (h9 : F (N0 + 165) = some (.inl (cTm, 3, .inr (.inr (.inr (.inr (va_up (va_up (va_up (fun _ => none) 0 (some (N0 + 166))) 1 (some (N0 + 171))) 2 (some (N0 + 176))))))))) (h10 : F (N0 + 176) = some (.inr (11, [.ref (N0 + 177), .ref (N0 + 178), .ref (N0 + 179), .ref (N0 + 180), .int 1]))) (h11 : F (N0 + 177) = some (.inl (cI, 20, .inl (upd (fun _ => 0) 0 97)))) (h12 : F (N0 + 179) = some (.inl (cI, 20, .inl (upd (fun _ => 0) 0 0)))) (h13 : F (N0 + 187) = some (.inl (cII, 20, .inr (.inr (.inr (.inr (fun j => if j < 20 then some ((N0 + 188) + j) else none))))))) (h14 : F (N0 + 188) = some (.inl (cI, 20, .inl (fun _ => 0)))) (hG : fG N0 D vwCl (fty cI cC cL cD cII cTr cTm cIt cB) (fen ql) s F n H locs) (hl : lv_has ls 9 [(0, .ref b), (1, .ref N0), (2, .ref (N0 + 164)), (3, .ref (N0 + 229)), (4, .ref (N0 + 230)), (5, .int 0)]) : W p l e { frames := 2048, cells := 600002, slots := 7302232, locals := 84000 } s m #[.ref b] below meth c H locs 231 4980 (lw_Z below #[.ref b] s) (F0 m 1861 ls []) := by
  have lt_h0 := hG.1.lt h0
  have lt_h1 := hG.1.lt h1
  have lt_h2 := hG.1.lt h2
  have lt_h3 := hG.1.lt h3
  have lt_h4 := hG.1.lt h4
  have lt_h5 := hG.1.lt h5
  have lt_h6 := hG.1.lt h6
  have lt_h7 := hG.1.lt h7
  have lt_h8 := hG.1.lt h8
  have lt_h9 := hG.1.lt h9
  have lt_h10 := hG.1.lt h10
  have lt_h11 := hG.1.lt h11
  have lt_h12 := hG.1.lt h12
  have lt_h13 := hG.1.lt h13
  have lt_h14 := hG.1.lt h14
  refine lv_aload_n S.1 S.2.1 dL_law_1861 rfl (lv_at hl 1 rfl) ?_
  refine lv_aload_n S.1 S.2.1 dL_law_1862 rfl (lv_at hl 0 rfl) ?_
  refine lv_iload S.1 S.2.1 dL_law_1863 (lv_at hl 5 rfl) ?_
  refine lv_iconst (v := 1) S.1 S.2.1 dL_law_1865 (by decide) ?_
  refine lv_iadd S.1 S.2.1 dL_law_1866 ?_
  refine fx_topi (y := 1) (by decide) ?_
  refine gx_sld (v := 2) S hG hX hbl (fin_l (by decide)) hx1 dL_law_1867 ?_
  refine lv_aload_n S.1 S.2.1 dL_law_1868 rfl (lv_at hl 0 rfl) ?_
  refine lv_iload S.1 S.2.1 dL_law_1869 (lv_at hl 5 rfl) ?_
  refine lv_iconst (v := 2) S.1 S.2.1 dL_law_1871 (by decide) ?_
  refine lv_iadd S.1 S.2.1 dL_law_1872 ?_
  refine fx_topi (y := 2) (by decide) ?_
  refine gx_sld (v := 2) S hG hX hbl (fin_l (by decide)) hx2 dL_law_1873 ?_
  refine lv_aload_n S.1 S.2.1 dL_law_1874 rfl (lv_at hl 3 rfl) ?_
  refine fx_cTi (As := [.ref N0, .int 2, .int 2, .ref (N0 + 229)]) (rest := []) S hG (k1363_L_distanceByMatchings (by omega) h0 h1 h2 h3 h4 h5 h6 h7) (vx_cwSW 4 S.2.2.2.2 gL_law_L_distanceByMatchings rfl rfl rfl (by decide +kernel) ⟨Nat.le_of_ble_eq_true rfl, Nat.le_of_ble_eq_true rfl⟩) rfl hl.1 rfl (Nat.le_of_ble_eq_true rfl) dL_law_1875 ⟨Nat.le_of_ble_eq_true rfl, Nat.le_of_ble_eq_true rfl⟩ (fun rv_1 _ H locs hp hG => ?_)
  subst rv_1
  refine lv_istore (lv' := [(6, .int 0), (0, .ref b), (1, .ref N0), (2, .ref (N0 + 164)), (3, .ref (N0 + 229)), (4, .ref (N0 + 230)), (5, .int 0)]) S.1 S.2.1 dL_law_1878 hl (by decide) rfl (fun ls hl => ?_)
  refine lv_aload_n S.1 S.2.1 dL_law_1880 rfl (lv_at hl 3 rfl) ?_
  refine lv_aload_n S.1 S.2.1 dL_law_1881 rfl (lv_at hl 1 rfl) ?_
  refine lv_iload S.1 S.2.1 dL_law_1882 (lv_at hl 6 rfl) ?_
  refine lv_iconst (v := 1) S.1 S.2.1 dL_law_1884 (by decide) ?_
  refine lv_iadd S.1 S.2.1 dL_law_1885 ?_
  refine fx_topi (y := 1) (by decide) ?_
  refine gx_sld (v := 2) S hG hX hbl (fin_l (by decide)) hx1 dL_law_1886 ?_
  refine lv_aload_n S.1 S.2.1 dL_law_1887 rfl (lv_at hl 1 rfl) ?_
  refine lv_iload S.1 S.2.1 dL_law_1888 (lv_at hl 6 rfl) ?_
  refine lv_iconst (v := 2) S.1 S.2.1 dL_law_1890 (by decide) ?_
  refine lv_iadd S.1 S.2.1 dL_law_1891 ?_
  refine fx_topi (y := 2) (by decide) ?_
  refine gx_sld (v := 2) S hG hX hbl (fin_l (by decide)) hx2 dL_law_1892 ?_
  refine fx_cVi (As := [.int 2, .int 2]) (rest := []) S hG (k1364_X10_distanceByMatchings (by omega) (fu_at (by omega) (fu_at (by omega) (fu_at (by omega) h8))) (fu_at (by omega) (fu_at (by omega) (fu_at (by omega) h9))) (fu_at (by omega) (fu_at (by omega) (fu_at (by omega) h10))) (fu_at (by omega) (fu_at (by omega) (fu_at (by omega) h11))) (fu_at (by omega) (fu_at (by omega) (fu_at (by omega) h12))) (fu_at (by omega) (fu_at (by omega) (fu_at (by omega) h13))) (fu_at (by omega) (fu_at (by omega) (fu_at (by omega) h14)))) (fu_at (by omega) (fu_at (by omega) (fu_at (by omega) h8))) rfl (cwV 2 S.2.2.2.2 gL_law_X10_distanceByMatchings rfl rfl rfl (by decide +kernel) ⟨Nat.le_of_ble_eq_true rfl, Nat.le_of_ble_eq_true rfl⟩) rfl hl.1 rfl (Nat.le_of_ble_eq_true rfl) dL_law_1893 ⟨Nat.le_of_ble_eq_true rfl, Nat.le_of_ble_eq_true rfl⟩ (fun rv_2 _ H locs hp hG => ?_)
  subst rv_2
  refine W.widen (k := 235) (n := 4982) (by decide) (by decide) ?_
  refine lv_istore (lv' := [(7, .int 0), (6, .int 0), (0, .ref b), (1, .ref N0), (2, .ref (N0 + 164)), (3, .ref (N0 + 229)), (4, .ref (N0 + 230)), (5, .int 0)]) S.1 S.2.1 dL_law_1896 hl (by decide) rfl (fun ls hl => ?_)
  refine lv_aload_n S.1 S.2.1 dL_law_1898 rfl (lv_at hl 4 rfl) ?_
  refine fx_cVi (As := []) (rest := []) S hG (k117_X10_thrown (by omega) (fblk_sk 4 rfl (by omega) (fu_at (by omega) fu_s))) (fblk_sk 4 rfl (by omega) (fu_at (by omega) fu_s)) rfl (cwV 0 S.2.2.2.2 gL_law_X10_thrown rfl rfl rfl (by decide +kernel) ⟨Nat.le_of_ble_eq_true rfl, Nat.le_of_ble_eq_true rfl⟩) rfl hl.1 rfl (Nat.le_of_ble_eq_true rfl) dL_law_1899 ⟨Nat.le_of_ble_eq_true rfl, Nat.le_of_ble_eq_true rfl⟩ (fun rv_3 _ H locs hp hG => ?_)
  subst rv_3
  refine lv_iload S.1 S.2.1 dL_law_1902 (lv_at hl 1 rfl) ?_
  refine lv_icmp_eq (tgt := 1909) S.1 S.2.1 dL_law_1904 (by decide) (fun _ => ?_) (fun c => absurd (by decide) c)
  refine lv_iload S.1 S.2.1 dL_law_1909 (lv_at hl 1 rfl) ?_
  refine lv_if_ne (tgt := 1926) S.1 S.2.1 dL_law_1911 (by decide) (fun c => absurd (by decide) c) (fun _ => ?_)
  refine lv_aload_n S.1 S.2.1 dL_law_1914 rfl (lv_at hl 5 rfl) ?_
  refine lv_iconst (v := 0) S.1 S.2.1 dL_law_1915 (by decide) ?_
  refine gx_lald (v := 0) S hG 2 (fblk_sk 4 rfl (by omega) (fu_at (by omega) (fu_at (by omega) fu_s))) rfl (fin_l (by decide)) rfl dL_law_1916 ?_
  refine lv_iload S.1 S.2.1 dL_law_1917 (lv_at hl 0 rfl) ?_
  refine lv_i2l (v := 0) S.1 S.2.1 dL_law_1919 (by decide) ?_
  refine gx_lcmpEq S rfl dL_law_1920 ?_
  refine lv_if_eq (tgt := 1926) S.1 S.2.1 dL_law_1921 (by decide) (fun _ => ?_) (fun c => absurd (by decide) c)
  refine lv_goto (tgt := 2650) S.1 S.2.1 dL_law_1926 (by decide) ?_
  refine lv_iinc (v := 5) (lv' := [(5, .int 5), (7, .int 0), (6, .int 0), (0, .ref b), (1, .ref N0), (2, .ref (N0 + 164)), (3, .ref (N0 + 229)), (4, .ref (N0 + 230))]) S.1 S.2.1 dL_law_2650 hl (k := 7) rfl (by decide) (by decide) rfl (fun ls hl => ?_)
  refine lv_goto (tgt := 28) S.1 S.2.1 dL_law_2653 (by decide) ?_
  refine lv_iload S.1 S.2.1 dL_law_28 (lv_at hl 0 rfl) ?_
  refine lv_aload_n S.1 S.2.1 dL_law_30 rfl (lv_at hl 3 rfl) ?_
  refine gx_slen (v := 5) S hG hX hbl rfl dL_law_31 ?_
  refine lv_iconst (v := 5) S.1 S.2.1 dL_law_32 (by decide) ?_
  refine lv_isub S.1 S.2.1 dL_law_33 ?_
  refine fx_topi (y := 0) (by decide) ?_
  refine lv_icmp_gt (tgt := 2656) S.1 S.2.1 dL_law_34 (by decide) (fun _ => ?_) (fun c => absurd (by decide) c)
  refine lv_iconst (v := 1) S.1 S.2.1 dL_law_2656 (by decide) ?_
  refine va_forget (fun q hq => by rw [hN]; exact hG.2.1.2.2 q hq) ?_
  refine W.widen (k := 600002) (n := 7302232) (by decide) (by decide) ?_
  exact lw_ret (d0 := s.drawn) (Drawn.sameBut.refl _ _) S.1 S.2.1 hr hlocks dL_law_2657
theorem l24_15 {p : Program} {e : Env} {s : State} {m : MethodId} {below : List Frame} {meth : Method} {c : Code} {b : Nat} {xs : Nat → Int32} {H : Heap} {locs : List Loc} {ls : Array Slot} {n : Nat} {a2 a3 a4 : Int32} (g_a2_ge_3 : 3 ≤ a2) (S : CallFix p m c cL_law 9 s #[.ref b] wsL_law "TreeDifferLaw") (hr : meth.sig.returnType = ret) (hlocks : meth.locks = false) (hst : l.stackTraces = false) (hX : va_X b 5 xs s s.heap) (hbl : b < s.heap.size ∧ b < N0) (hN : s.heap.size = N0) (hn : N0 + 231 ≤ n) (hx1 : xs 1 = 2) (hx2 : xs 2 = a2) (hx3 : xs 3 = a3) (hx4 : xs 4 = a4) (h0 : F N0 = some (.inr (9, [.ref (N0 + 1), .ref (N0 + 2), .ref (N0 + 11), .ref (N0 + 13), .ref (N0 + 63), .ref (N0 + 65), .ref (N0 + 85), .int (-1), .int (-1), .int 32]))) (h1 : F (N0 + 1) = some (.inl (cTr, 3, .inr (.inr (.inr (.inr (va_up (va_up (va_up (fun _ => none) 0 (some (N0 + 143))) 1 (some (N0 + 150))) 2 (some (N0 + 157))))))))) (h2 : F (N0 + 164) = some (.inr (12, [.ref (N0 + 165), .int 0, .ref (N0 + 181), .int 0, .int 0, .int 0, .int (-1), .ref (ql 24), .ref (N0 + 182), .ref (N0 + 187), .ref (N0 + 208), .ref (N0 + 209), .ref (N0 + 210), .ref (N0 + 211), .ref (N0 + 212), .int 0, .ref (N0 + 213), .ref (N0 + 218), .ref (N0 + 223), .ref (N0 + 224), .ref (N0 + 225), .ref (N0 + 226), .ref (N0 + 227), .int 0, .int 0, .ref (N0 + 228), .null, .int (-1), .int 0, .int 0, .int 0]))) (hG : fG N0 D vwCl (fty cI cC cL cD cII cTr cTm cIt cB) (fen ql) s F n H locs) (hl : lv_has ls 9 [(0, .ref b), (1, .ref N0), (2, .ref (N0 + 164)), (3, .ref (N0 + 229)), (4, .ref (N0 + 230)), (5, .int 0)]) : W p l e { frames := 2048, cells := 600002, slots := 7302232, locals := 84000 } s m #[.ref b] below meth c H locs 231 4980 (lw_Z below #[.ref b] s) (F0 m 1861 ls []) := by
  have lt_h0 := hG.1.lt h0
  have lt_h1 := hG.1.lt h1
  have lt_h2 := hG.1.lt h2
  refine lv_aload_n S.1 S.2.1 dL_law_1861 rfl (lv_at hl 1 rfl) ?_
  refine lv_aload_n S.1 S.2.1 dL_law_1862 rfl (lv_at hl 0 rfl) ?_
  refine lv_iload S.1 S.2.1 dL_law_1863 (lv_at hl 5 rfl) ?_
  refine lv_iconst (v := 1) S.1 S.2.1 dL_law_1865 (by decide) ?_
  refine lv_iadd S.1 S.2.1 dL_law_1866 ?_
  refine fx_topi (y := 1) (by decide) ?_
  refine gx_sld (v := 2) S hG hX hbl (fin_l (by decide)) hx1 dL_law_1867 ?_
  refine lv_aload_n S.1 S.2.1 dL_law_1868 rfl (lv_at hl 0 rfl) ?_
  refine lv_iload S.1 S.2.1 dL_law_1869 (lv_at hl 5 rfl) ?_
  refine lv_iconst (v := 2) S.1 S.2.1 dL_law_1871 (by decide) ?_
  refine lv_iadd S.1 S.2.1 dL_law_1872 ?_
  refine fx_topi (y := 2) (by decide) ?_
  refine gx_sld (v := a2) S hG hX hbl (fin_l (by decide)) hx2 dL_law_1873 ?_
  refine lv_aload_n S.1 S.2.1 dL_law_1874 rfl (lv_at hl 3 rfl) ?_
  refine fx_cTi (As := [.ref N0, .int 2, .int a2, .ref (N0 + 229)]) (rest := []) S hG (k1366_L_distanceByMatchings g_a2_ge_3 hst (by omega) h0 h1) (vx_cwSW 4 S.2.2.2.2 gL_law_L_distanceByMatchings rfl rfl rfl (by decide +kernel) ⟨Nat.le_of_ble_eq_true rfl, Nat.le_of_ble_eq_true rfl⟩) rfl hl.1 rfl (Nat.le_of_ble_eq_true rfl) dL_law_1875 ⟨Nat.le_of_ble_eq_true rfl, Nat.le_of_ble_eq_true rfl⟩ (fun rv_u_1 u_1 H locs hp hG => ?_)
  obtain ⟨rfl, hu_1⟩ := hp
  refine W.widen (k := 232) (n := 4986) (by decide) (by decide) ?_
  refine lv_istore (lv' := [(6, .int 1), (0, .ref b), (1, .ref N0), (2, .ref (N0 + 164)), (3, .ref (N0 + 229)), (4, .ref (N0 + 230)), (5, .int 0)]) S.1 S.2.1 dL_law_1878 hl (by decide) rfl (fun ls hl => ?_)
  refine lv_aload_n S.1 S.2.1 dL_law_1880 rfl (lv_at hl 3 rfl) ?_
  refine lv_aload_n S.1 S.2.1 dL_law_1881 rfl (lv_at hl 1 rfl) ?_
  refine lv_iload S.1 S.2.1 dL_law_1882 (lv_at hl 6 rfl) ?_
  refine lv_iconst (v := 1) S.1 S.2.1 dL_law_1884 (by decide) ?_
  refine lv_iadd S.1 S.2.1 dL_law_1885 ?_
  refine fx_topi (y := 1) (by decide) ?_
  refine gx_sld (v := 2) S hG hX hbl (fin_l (by decide)) hx1 dL_law_1886 ?_
  refine lv_aload_n S.1 S.2.1 dL_law_1887 rfl (lv_at hl 1 rfl) ?_
  refine lv_iload S.1 S.2.1 dL_law_1888 (lv_at hl 6 rfl) ?_
  refine lv_iconst (v := 2) S.1 S.2.1 dL_law_1890 (by decide) ?_
  refine lv_iadd S.1 S.2.1 dL_law_1891 ?_
  refine fx_topi (y := 2) (by decide) ?_
  refine gx_sld (v := a2) S hG hX hbl (fin_l (by decide)) hx2 dL_law_1892 ?_
  refine fx_cVi (As := [.int 2, .int a2]) (rest := []) S hG (k1367_X10_distanceByMatchings g_a2_ge_3 (by omega) h2) h2 rfl (cwV 2 S.2.2.2.2 gL_law_X10_distanceByMatchings rfl rfl rfl (by decide +kernel) ⟨Nat.le_of_ble_eq_true rfl, Nat.le_of_ble_eq_true rfl⟩) rfl hl.1 rfl (Nat.le_of_ble_eq_true rfl) dL_law_1893 ⟨Nat.le_of_ble_eq_true rfl, Nat.le_of_ble_eq_true rfl⟩ (fun rv_2 _ H locs hp hG => ?_)
  subst rv_2
  refine lv_istore (lv' := [(7, .int 0), (6, .int 1), (0, .ref b), (1, .ref N0), (2, .ref (N0 + 164)), (3, .ref (N0 + 229)), (4, .ref (N0 + 230)), (5, .int 0)]) S.1 S.2.1 dL_law_1896 hl (by decide) rfl (fun ls hl => ?_)
  refine lv_aload_n S.1 S.2.1 dL_law_1898 rfl (lv_at hl 4 rfl) ?_
  refine fx_cVi (As := []) (rest := []) S hG (k25_X10_thrown (by omega) fu_s) fu_s rfl (cwV 0 S.2.2.2.2 gL_law_X10_thrown rfl rfl rfl (by decide +kernel) ⟨Nat.le_of_ble_eq_true rfl, Nat.le_of_ble_eq_true rfl⟩) rfl hl.1 rfl (Nat.le_of_ble_eq_true rfl) dL_law_1899 ⟨Nat.le_of_ble_eq_true rfl, Nat.le_of_ble_eq_true rfl⟩ (fun rv_3 _ H locs hp hG => ?_)
  subst rv_3
  refine lv_iload S.1 S.2.1 dL_law_1902 (lv_at hl 1 rfl) ?_
  refine lv_icmp_eq (tgt := 1909) S.1 S.2.1 dL_law_1904 (by decide) (fun _ => ?_) (fun c => absurd (by decide) c)
  refine lv_iload S.1 S.2.1 dL_law_1909 (lv_at hl 1 rfl) ?_
  refine lv_if_ne (tgt := 1926) S.1 S.2.1 dL_law_1911 (by decide) (fun _ => ?_) (fun c => absurd c (by decide))
  refine lv_goto (tgt := 2650) S.1 S.2.1 dL_law_1926 (by decide) ?_
  refine lv_iinc (v := 5) (lv' := [(5, .int 5), (7, .int 0), (6, .int 1), (0, .ref b), (1, .ref N0), (2, .ref (N0 + 164)), (3, .ref (N0 + 229)), (4, .ref (N0 + 230))]) S.1 S.2.1 dL_law_2650 hl (k := 7) rfl (by decide) (by decide) rfl (fun ls hl => ?_)
  refine lv_goto (tgt := 28) S.1 S.2.1 dL_law_2653 (by decide) ?_
  refine lv_iload S.1 S.2.1 dL_law_28 (lv_at hl 0 rfl) ?_
  refine lv_aload_n S.1 S.2.1 dL_law_30 rfl (lv_at hl 3 rfl) ?_
  refine gx_slen (v := 5) S hG hX hbl rfl dL_law_31 ?_
  refine lv_iconst (v := 5) S.1 S.2.1 dL_law_32 (by decide) ?_
  refine lv_isub S.1 S.2.1 dL_law_33 ?_
  refine fx_topi (y := 0) (by decide) ?_
  refine lv_icmp_gt (tgt := 2656) S.1 S.2.1 dL_law_34 (by decide) (fun _ => ?_) (fun c => absurd (by decide) c)
  refine lv_iconst (v := 1) S.1 S.2.1 dL_law_2656 (by decide) ?_
  refine va_forget (fun q hq => by rw [hN]; exact hG.2.1.2.2 q hq) ?_
  refine W.widen (k := 600002) (n := 7302232) (by decide) (by decide) ?_
  exact lw_ret (d0 := s.drawn) (Drawn.sameBut.refl _ _) S.1 S.2.1 hr hlocks dL_law_2657
theorem l24_16 {p : Program} {e : Env} {s : State} {m : MethodId} {below : List Frame} {meth : Method} {c : Code} {b : Nat} {xs : Nat → Int32} {H : Heap} {locs : List Loc} {ls : Array Slot} {n : Nat} {a1 a2 a3 a4 : Int32} (g_a1_ge_3 : 3 ≤ a1) (S : CallFix p m c cL_law 9 s #[.ref b] wsL_law "TreeDifferLaw") (hr : meth.sig.returnType = ret) (hlocks : meth.locks = false) (hst : l.stackTraces = false) (hX : va_X b 5 xs s s.heap) (hbl : b < s.heap.size ∧ b < N0) (hN : s.heap.size = N0) (hn : N0 + 231 ≤ n) (hx1 : xs 1 = a1) (hx2 : xs 2 = a2) (hx3 : xs 3 = a3) (hx4 : xs 4 = a4) (h0 : F N0 = some (.inr (9, [.ref (N0 + 1), .ref (N0 + 2), .ref (N0 + 11), .ref (N0 + 13), .ref (N0 + 63), .ref (N0 + 65), .ref (N0 + 85), .int (-1), .int (-1), .int 32]))) (h1 : F (N0 + 164) = some (.inr (12, [.ref (N0 + 165), .int 0, .ref (N0 + 181), .int 0, .int 0, .int 0, .int (-1), .ref (ql 24), .ref (N0 + 182), .ref (N0 + 187), .ref (N0 + 208), .ref (N0 + 209), .ref (N0 + 210), .ref (N0 + 211), .ref (N0 + 212), .int 0, .ref (N0 + 213), .ref (N0 + 218), .ref (N0 + 223), .ref (N0 + 224), .ref (N0 + 225), .ref (N0 + 226), .ref (N0 + 227), .int 0, .int 0, .ref (N0 + 228), .null, .int (-1), .int 0, .int 0, .int 0]))) (hG : fG N0 D vwCl (fty cI cC cL cD cII cTr cTm cIt cB) (fen ql) s F n H locs) (hl : lv_has ls 9 [(0, .ref b), (1, .ref N0), (2, .ref (N0 + 164)), (3, .ref (N0 + 229)), (4, .ref (N0 + 230)), (5, .int 0)]) : W p l e { frames := 2048, cells := 600002, slots := 7302232, locals := 84000 } s m #[.ref b] below meth c H locs 231 4980 (lw_Z below #[.ref b] s) (F0 m 1861 ls []) := by
  have lt_h0 := hG.1.lt h0
  have lt_h1 := hG.1.lt h1
  refine lv_aload_n S.1 S.2.1 dL_law_1861 rfl (lv_at hl 1 rfl) ?_
  refine lv_aload_n S.1 S.2.1 dL_law_1862 rfl (lv_at hl 0 rfl) ?_
  refine lv_iload S.1 S.2.1 dL_law_1863 (lv_at hl 5 rfl) ?_
  refine lv_iconst (v := 1) S.1 S.2.1 dL_law_1865 (by decide) ?_
  refine lv_iadd S.1 S.2.1 dL_law_1866 ?_
  refine fx_topi (y := 1) (by decide) ?_
  refine gx_sld (v := a1) S hG hX hbl (fin_l (by decide)) hx1 dL_law_1867 ?_
  refine lv_aload_n S.1 S.2.1 dL_law_1868 rfl (lv_at hl 0 rfl) ?_
  refine lv_iload S.1 S.2.1 dL_law_1869 (lv_at hl 5 rfl) ?_
  refine lv_iconst (v := 2) S.1 S.2.1 dL_law_1871 (by decide) ?_
  refine lv_iadd S.1 S.2.1 dL_law_1872 ?_
  refine fx_topi (y := 2) (by decide) ?_
  refine gx_sld (v := a2) S hG hX hbl (fin_l (by decide)) hx2 dL_law_1873 ?_
  refine lv_aload_n S.1 S.2.1 dL_law_1874 rfl (lv_at hl 3 rfl) ?_
  refine fx_cTi (As := [.ref N0, .int a1, .int a2, .ref (N0 + 229)]) (rest := []) S hG (k1369_L_distanceByMatchings g_a1_ge_3 hst (by omega) h0) (vx_cwSW 4 S.2.2.2.2 gL_law_L_distanceByMatchings rfl rfl rfl (by decide +kernel) ⟨Nat.le_of_ble_eq_true rfl, Nat.le_of_ble_eq_true rfl⟩) rfl hl.1 rfl (Nat.le_of_ble_eq_true rfl) dL_law_1875 ⟨Nat.le_of_ble_eq_true rfl, Nat.le_of_ble_eq_true rfl⟩ (fun rv_u_1 u_1 H locs hp hG => ?_)
  obtain ⟨rfl, hu_1⟩ := hp
  refine W.widen (k := 232) (n := 4986) (by decide) (by decide) ?_
  refine lv_istore (lv' := [(6, .int 1), (0, .ref b), (1, .ref N0), (2, .ref (N0 + 164)), (3, .ref (N0 + 229)), (4, .ref (N0 + 230)), (5, .int 0)]) S.1 S.2.1 dL_law_1878 hl (by decide) rfl (fun ls hl => ?_)
  refine lv_aload_n S.1 S.2.1 dL_law_1880 rfl (lv_at hl 3 rfl) ?_
  refine lv_aload_n S.1 S.2.1 dL_law_1881 rfl (lv_at hl 1 rfl) ?_
  refine lv_iload S.1 S.2.1 dL_law_1882 (lv_at hl 6 rfl) ?_
  refine lv_iconst (v := 1) S.1 S.2.1 dL_law_1884 (by decide) ?_
  refine lv_iadd S.1 S.2.1 dL_law_1885 ?_
  refine fx_topi (y := 1) (by decide) ?_
  refine gx_sld (v := a1) S hG hX hbl (fin_l (by decide)) hx1 dL_law_1886 ?_
  refine lv_aload_n S.1 S.2.1 dL_law_1887 rfl (lv_at hl 1 rfl) ?_
  refine lv_iload S.1 S.2.1 dL_law_1888 (lv_at hl 6 rfl) ?_
  refine lv_iconst (v := 2) S.1 S.2.1 dL_law_1890 (by decide) ?_
  refine lv_iadd S.1 S.2.1 dL_law_1891 ?_
  refine fx_topi (y := 2) (by decide) ?_
  refine gx_sld (v := a2) S hG hX hbl (fin_l (by decide)) hx2 dL_law_1892 ?_
  refine fx_cVi (As := [.int a1, .int a2]) (rest := []) S hG (k1370_X10_distanceByMatchings g_a1_ge_3 (by omega) h1) h1 rfl (cwV 2 S.2.2.2.2 gL_law_X10_distanceByMatchings rfl rfl rfl (by decide +kernel) ⟨Nat.le_of_ble_eq_true rfl, Nat.le_of_ble_eq_true rfl⟩) rfl hl.1 rfl (Nat.le_of_ble_eq_true rfl) dL_law_1893 ⟨Nat.le_of_ble_eq_true rfl, Nat.le_of_ble_eq_true rfl⟩ (fun rv_2 _ H locs hp hG => ?_)
  subst rv_2
  refine lv_istore (lv' := [(7, .int 0), (6, .int 1), (0, .ref b), (1, .ref N0), (2, .ref (N0 + 164)), (3, .ref (N0 + 229)), (4, .ref (N0 + 230)), (5, .int 0)]) S.1 S.2.1 dL_law_1896 hl (by decide) rfl (fun ls hl => ?_)
  refine lv_aload_n S.1 S.2.1 dL_law_1898 rfl (lv_at hl 4 rfl) ?_
  refine fx_cVi (As := []) (rest := []) S hG (k25_X10_thrown (by omega) fu_s) fu_s rfl (cwV 0 S.2.2.2.2 gL_law_X10_thrown rfl rfl rfl (by decide +kernel) ⟨Nat.le_of_ble_eq_true rfl, Nat.le_of_ble_eq_true rfl⟩) rfl hl.1 rfl (Nat.le_of_ble_eq_true rfl) dL_law_1899 ⟨Nat.le_of_ble_eq_true rfl, Nat.le_of_ble_eq_true rfl⟩ (fun rv_3 _ H locs hp hG => ?_)
  subst rv_3
  refine lv_iload S.1 S.2.1 dL_law_1902 (lv_at hl 1 rfl) ?_
  refine lv_icmp_eq (tgt := 1909) S.1 S.2.1 dL_law_1904 (by decide) (fun _ => ?_) (fun c => absurd (by decide) c)
  refine lv_iload S.1 S.2.1 dL_law_1909 (lv_at hl 1 rfl) ?_
  refine lv_if_ne (tgt := 1926) S.1 S.2.1 dL_law_1911 (by decide) (fun _ => ?_) (fun c => absurd c (by decide))
  refine lv_goto (tgt := 2650) S.1 S.2.1 dL_law_1926 (by decide) ?_
  refine lv_iinc (v := 5) (lv' := [(5, .int 5), (7, .int 0), (6, .int 1), (0, .ref b), (1, .ref N0), (2, .ref (N0 + 164)), (3, .ref (N0 + 229)), (4, .ref (N0 + 230))]) S.1 S.2.1 dL_law_2650 hl (k := 7) rfl (by decide) (by decide) rfl (fun ls hl => ?_)
  refine lv_goto (tgt := 28) S.1 S.2.1 dL_law_2653 (by decide) ?_
  refine lv_iload S.1 S.2.1 dL_law_28 (lv_at hl 0 rfl) ?_
  refine lv_aload_n S.1 S.2.1 dL_law_30 rfl (lv_at hl 3 rfl) ?_
  refine gx_slen (v := 5) S hG hX hbl rfl dL_law_31 ?_
  refine lv_iconst (v := 5) S.1 S.2.1 dL_law_32 (by decide) ?_
  refine lv_isub S.1 S.2.1 dL_law_33 ?_
  refine fx_topi (y := 0) (by decide) ?_
  refine lv_icmp_gt (tgt := 2656) S.1 S.2.1 dL_law_34 (by decide) (fun _ => ?_) (fun c => absurd (by decide) c)
  refine lv_iconst (v := 1) S.1 S.2.1 dL_law_2656 (by decide) ?_
  refine va_forget (fun q hq => by rw [hN]; exact hG.2.1.2.2 q hq) ?_
  refine W.widen (k := 600002) (n := 7302232) (by decide) (by decide) ?_
  exact lw_ret (d0 := s.drawn) (Drawn.sameBut.refl _ _) S.1 S.2.1 hr hlocks dL_law_2657
theorem case_24 {p : Program} {e : Env} {s : State} {m : MethodId} {below : List Frame} {meth : Method} {c : Code} {b : Nat} {xs : Nat → Int32} {H : Heap} {locs : List Loc} {ls : Array Slot} {n : Nat} {a1 a2 a3 a4 : Int32} (S : CallFix p m c cL_law 9 s #[.ref b] wsL_law "TreeDifferLaw") (hr : meth.sig.returnType = ret) (hlocks : meth.locks = false) (hst : l.stackTraces = false) (hX : va_X b 5 xs s s.heap) (hbl : b < s.heap.size ∧ b < N0) (hN : s.heap.size = N0) (hn : N0 + 231 ≤ n) (hx1 : xs 1 = a1) (hx2 : xs 2 = a2) (hx3 : xs 3 = a3) (hx4 : xs 4 = a4) (hL : ∀ (i : Nat) (q : Nat × va_E), (lneed N0 cI cC cL cD cII cTr cTm cIt cB ql)[i]? = some q → F (N0 + q.1) = some q.2) (hG : fG N0 D vwCl (fty cI cC cL cD cII cTr cTm cIt cB) (fen ql) s F n H locs) (hl : lv_has ls 9 [(0, .ref b), (1, .ref N0), (2, .ref (N0 + 164)), (3, .ref (N0 + 229)), (4, .ref (N0 + 230)), (5, .int 0)]) : W p l e { frames := 2048, cells := 600002, slots := 7302232, locals := 84000 } s m #[.ref b] below meth c H locs 231 4980 (lw_Z below #[.ref b] s) (F0 m 1861 ls []) := by
  have hn1 := pk_nc a1
  have hf1 := pk_fc a1
  have hv1 := pk_vc a1
  obtain ⟨g_c1_ge_0, g_c1_le_65535⟩ := fl_c0 a1
  generalize hc1 : (a1.toUInt32 % 65536).toInt32 = c1 at *
  have hn2 := pk_nc a2
  have hf2 := pk_fc a2
  have hv2 := pk_vc a2
  obtain ⟨g_c2_ge_0, g_c2_le_65535⟩ := fl_c0 a2
  generalize hc2 : (a2.toUInt32 % 65536).toInt32 = c2 at *
  have hn3 := pk_nc a3
  have hf3 := pk_fc a3
  have hv3 := pk_vc a3
  obtain ⟨g_c3_ge_0, g_c3_le_65535⟩ := fl_c0 a3
  generalize hc3 : (a3.toUInt32 % 65536).toInt32 = c3 at *
  have hn4 := pk_nc a4
  have hf4 := pk_fc a4
  have hv4 := pk_vc a4
  obtain ⟨g_c4_ge_0, g_c4_le_65535⟩ := fl_c0 a4
  generalize hc4 : (a4.toUInt32 % 65536).toInt32 = c4 at *
  rcases fl_cut a1 0 (-1) (by decide) with g_a1_le_m1 | g_a1_ge_0
  · skip
    exact l24_0 g_a1_le_m1 S hr hlocks hst hX hbl hN hn hx1 hx2 hx3 hx4 (hL 0 _ rfl) (hL 4 _ rfl) hG hl
  · skip
    rcases fl_cut a1 3 2 (by decide) with g_a1_le_2 | g_a1_ge_3
    · skip
      rcases fl_cut a1 1 0 (by decide) with g_a1_le_0 | g_a1_ge_1
      · skip
        obtain rfl : a1 = 0 := Int32.le_antisymm g_a1_le_0 g_a1_ge_0
        rcases fl_cut a2 0 (-1) (by decide) with g_a2_le_m1 | g_a2_ge_0
        · skip
          exact l24_1 g_a2_le_m1 S hr hlocks hst hX hbl hN hn hx1 hx2 hx3 hx4 (hL 0 _ rfl) (hL 6 _ rfl) (hL 4 _ rfl) hG hl
        · skip
          rcases fl_cut a2 3 2 (by decide) with g_a2_le_2 | g_a2_ge_3
          · skip
            rcases fl_cut a2 1 0 (by decide) with g_a2_le_0 | g_a2_ge_1
            · skip
              obtain rfl : a2 = 0 := Int32.le_antisymm g_a2_le_0 g_a2_ge_0
              exact l24_2 S hr hlocks hst hX hbl hN hn hx1 hx2 hx3 hx4 (hL 0 _ rfl) (hL 6 _ rfl) (hL 10 _ rfl) (hL 56 _ rfl) (hL 57 _ rfl) (hL 13 _ rfl) (hL 15 _ rfl) (hL 3 _ rfl) (hL 4 _ rfl) (hL 11 _ rfl) (hL 12 _ rfl) (hL 18 _ rfl) (hL 20 _ rfl) (hL 54 _ rfl) (hL 55 _ rfl) hG hl
            · skip
              rcases fl_cut a2 2 1 (by decide) with g_a2_le_1 | g_a2_ge_2
              · skip
                obtain rfl : a2 = 1 := Int32.le_antisymm g_a2_le_1 g_a2_ge_1
                exact l24_3 S hr hlocks hst hX hbl hN hn hx1 hx2 hx3 hx4 (hL 0 _ rfl) (hL 6 _ rfl) (hL 10 _ rfl) (hL 22 _ rfl) (hL 56 _ rfl) (hL 57 _ rfl) (hL 13 _ rfl) (hL 24 _ rfl) (hL 15 _ rfl) (hL 26 _ rfl) (hL 3 _ rfl) (hL 4 _ rfl) (hL 11 _ rfl) (hL 12 _ rfl) (hL 23 _ rfl) (hL 18 _ rfl) (hL 29 _ rfl) (hL 20 _ rfl) (hL 31 _ rfl) (hL 54 _ rfl) (hL 55 _ rfl) hG hl
              · skip
                obtain rfl : a2 = 2 := Int32.le_antisymm g_a2_le_2 g_a2_ge_2
                exact l24_4 S hr hlocks hst hX hbl hN hn hx1 hx2 hx3 hx4 (hL 0 _ rfl) (hL 6 _ rfl) (hL 10 _ rfl) (hL 33 _ rfl) (hL 56 _ rfl) (hL 57 _ rfl) (hL 13 _ rfl) (hL 35 _ rfl) (hL 15 _ rfl) (hL 37 _ rfl) (hL 3 _ rfl) (hL 4 _ rfl) (hL 11 _ rfl) (hL 12 _ rfl) (hL 34 _ rfl) (hL 18 _ rfl) (hL 40 _ rfl) (hL 20 _ rfl) (hL 42 _ rfl) (hL 54 _ rfl) (hL 55 _ rfl) hG hl
          · skip
            exact l24_5 g_a2_ge_3 S hr hlocks hst hX hbl hN hn hx1 hx2 hx3 hx4 (hL 0 _ rfl) (hL 6 _ rfl) (hL 4 _ rfl) hG hl
      · skip
        rcases fl_cut a1 2 1 (by decide) with g_a1_le_1 | g_a1_ge_2
        · skip
          obtain rfl : a1 = 1 := Int32.le_antisymm g_a1_le_1 g_a1_ge_1
          rcases fl_cut a2 0 (-1) (by decide) with g_a2_le_m1 | g_a2_ge_0
          · skip
            exact l24_6 g_a2_le_m1 S hr hlocks hst hX hbl hN hn hx1 hx2 hx3 hx4 (hL 0 _ rfl) (hL 6 _ rfl) (hL 4 _ rfl) hG hl
          · skip
            rcases fl_cut a2 3 2 (by decide) with g_a2_le_2 | g_a2_ge_3
            · skip
              rcases fl_cut a2 1 0 (by decide) with g_a2_le_0 | g_a2_ge_1
              · skip
                obtain rfl : a2 = 0 := Int32.le_antisymm g_a2_le_0 g_a2_ge_0
                exact l24_7 S hr hlocks hst hX hbl hN hn hx1 hx2 hx3 hx4 (hL 0 _ rfl) (hL 6 _ rfl) (hL 22 _ rfl) (hL 10 _ rfl) (hL 56 _ rfl) (hL 57 _ rfl) (hL 24 _ rfl) (hL 13 _ rfl) (hL 26 _ rfl) (hL 15 _ rfl) (hL 3 _ rfl) (hL 4 _ rfl) (hL 11 _ rfl) (hL 23 _ rfl) (hL 12 _ rfl) (hL 29 _ rfl) (hL 18 _ rfl) (hL 31 _ rfl) (hL 20 _ rfl) (hL 54 _ rfl) (hL 55 _ rfl) hG hl
              · skip
                rcases fl_cut a2 2 1 (by decide) with g_a2_le_1 | g_a2_ge_2
                · skip
                  obtain rfl : a2 = 1 := Int32.le_antisymm g_a2_le_1 g_a2_ge_1
                  exact l24_8 S hr hlocks hst hX hbl hN hn hx1 hx2 hx3 hx4 (hL 0 _ rfl) (hL 6 _ rfl) (hL 22 _ rfl) (hL 56 _ rfl) (hL 57 _ rfl) (hL 24 _ rfl) (hL 26 _ rfl) (hL 3 _ rfl) (hL 4 _ rfl) (hL 11 _ rfl) (hL 23 _ rfl) (hL 29 _ rfl) (hL 31 _ rfl) (hL 54 _ rfl) (hL 55 _ rfl) hG hl
                · skip
                  obtain rfl : a2 = 2 := Int32.le_antisymm g_a2_le_2 g_a2_ge_2
                  exact l24_9 S hr hlocks hst hX hbl hN hn hx1 hx2 hx3 hx4 (hL 0 _ rfl) (hL 6 _ rfl) (hL 22 _ rfl) (hL 33 _ rfl) (hL 56 _ rfl) (hL 57 _ rfl) (hL 24 _ rfl) (hL 35 _ rfl) (hL 26 _ rfl) (hL 37 _ rfl) (hL 3 _ rfl) (hL 4 _ rfl) (hL 11 _ rfl) (hL 23 _ rfl) (hL 34 _ rfl) (hL 29 _ rfl) (hL 40 _ rfl) (hL 31 _ rfl) (hL 42 _ rfl) (hL 54 _ rfl) (hL 55 _ rfl) hG hl
            · skip
              exact l24_10 g_a2_ge_3 S hr hlocks hst hX hbl hN hn hx1 hx2 hx3 hx4 (hL 0 _ rfl) (hL 6 _ rfl) (hL 4 _ rfl) hG hl
        · skip
          obtain rfl : a1 = 2 := Int32.le_antisymm g_a1_le_2 g_a1_ge_2
          rcases fl_cut a2 0 (-1) (by decide) with g_a2_le_m1 | g_a2_ge_0
          · skip
            exact l24_11 g_a2_le_m1 S hr hlocks hst hX hbl hN hn hx1 hx2 hx3 hx4 (hL 0 _ rfl) (hL 6 _ rfl) (hL 4 _ rfl) hG hl
          · skip
            rcases fl_cut a2 3 2 (by decide) with g_a2_le_2 | g_a2_ge_3
            · skip
              rcases fl_cut a2 1 0 (by decide) with g_a2_le_0 | g_a2_ge_1
              · skip
                obtain rfl : a2 = 0 := Int32.le_antisymm g_a2_le_0 g_a2_ge_0
                exact l24_12 S hr hlocks hst hX hbl hN hn hx1 hx2 hx3 hx4 (hL 0 _ rfl) (hL 6 _ rfl) (hL 33 _ rfl) (hL 10 _ rfl) (hL 56 _ rfl) (hL 57 _ rfl) (hL 35 _ rfl) (hL 13 _ rfl) (hL 37 _ rfl) (hL 15 _ rfl) (hL 3 _ rfl) (hL 4 _ rfl) (hL 11 _ rfl) (hL 34 _ rfl) (hL 12 _ rfl) (hL 40 _ rfl) (hL 18 _ rfl) (hL 42 _ rfl) (hL 20 _ rfl) (hL 54 _ rfl) (hL 55 _ rfl) hG hl
              · skip
                rcases fl_cut a2 2 1 (by decide) with g_a2_le_1 | g_a2_ge_2
                · skip
                  obtain rfl : a2 = 1 := Int32.le_antisymm g_a2_le_1 g_a2_ge_1
                  exact l24_13 S hr hlocks hst hX hbl hN hn hx1 hx2 hx3 hx4 (hL 0 _ rfl) (hL 6 _ rfl) (hL 33 _ rfl) (hL 22 _ rfl) (hL 56 _ rfl) (hL 57 _ rfl) (hL 35 _ rfl) (hL 24 _ rfl) (hL 37 _ rfl) (hL 26 _ rfl) (hL 3 _ rfl) (hL 4 _ rfl) (hL 11 _ rfl) (hL 34 _ rfl) (hL 23 _ rfl) (hL 40 _ rfl) (hL 29 _ rfl) (hL 42 _ rfl) (hL 31 _ rfl) (hL 54 _ rfl) (hL 55 _ rfl) hG hl
                · skip
                  obtain rfl : a2 = 2 := Int32.le_antisymm g_a2_le_2 g_a2_ge_2
                  exact l24_14 S hr hlocks hst hX hbl hN hn hx1 hx2 hx3 hx4 (hL 0 _ rfl) (hL 6 _ rfl) (hL 33 _ rfl) (hL 56 _ rfl) (hL 57 _ rfl) (hL 35 _ rfl) (hL 37 _ rfl) (hL 3 _ rfl) (hL 4 _ rfl) (hL 11 _ rfl) (hL 34 _ rfl) (hL 40 _ rfl) (hL 42 _ rfl) (hL 54 _ rfl) (hL 55 _ rfl) hG hl
            · skip
              exact l24_15 g_a2_ge_3 S hr hlocks hst hX hbl hN hn hx1 hx2 hx3 hx4 (hL 0 _ rfl) (hL 6 _ rfl) (hL 4 _ rfl) hG hl
    · skip
      exact l24_16 g_a1_ge_3 S hr hlocks hst hX hbl hN hn hx1 hx2 hx3 hx4 (hL 0 _ rfl) (hL 4 _ rfl) hG hl
