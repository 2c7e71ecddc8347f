theorem dX7_distance_0 : decode cX7_distance 0 = .ok (.aload_n 0, 1) := by decide +kernel
theorem dX7_distance_1 : decode cX7_distance 1 = .ok (.iload_n 1, 1) := by decide +kernel
set_option maxRecDepth 20000 in
theorem ggX7_distance_X7_treeAt : GoodIn wsX7_distance wsX7_treeAt := goodIn_ca (goodIn_r _ [6, 7, 8, 9, 72, 73, 74, 75, 76, 77, 78, 79, 80, 81] (by decide +kernel) (by decide +kernel)) (goodIn_sub (fun _ h => List.mem_cons_of_mem _ (List.mem_append_right _ h)) (by decide +kernel))
set_option maxRecDepth 20000 in
theorem gX7_distance_X7_treeAt : GoodIn wsX7_distance (wsV RX7 83 RX7 yX7_treeAt wsX7_treeAt) := goodIn_app (goodIn_of _ (by decide +kernel)) ggX7_distance_X7_treeAt
theorem dX7_distance_2 : decode cX7_distance 2 = .ok (.invokevirtual 83, 3) := by decide +kernel
theorem dL_distance_0 : decode cL_distance 0 = .ok (.aload_n 3, 1) := by decide +kernel
theorem dL_distance_1 : decode cL_distance 1 = .ok (.iconst 0, 1) := by decide +kernel
theorem dL_distance_2 : decode cL_distance 2 = .ok (.aload_n 0, 1) := by decide +kernel
theorem dL_distance_3 : decode cL_distance 3 = .ok (.iload_n 1, 1) := by decide +kernel
theorem dL_distance_4 : decode cL_distance 4 = .ok (.iload_n 2, 1) := by decide +kernel
set_option maxRecDepth 20000 in
theorem ggL_distance_X7_distance : GoodIn wsL_distance wsX7_distance := goodIn_ca (goodIn_r _ [6, 7, 8, 9, 10, 5, 11, 12, 13, 14, 15, 16, 17, 18, 19, 20, 21, 22, 23, 24, 25, 26, 27, 28, 29, 30, 31, 32, 33, 34, 35, 36, 37, 38, 39, 40, 41, 42, 43, 44, 45, 46, 47, 48, 49, 50, 51, 52, 53, 54, 55, 56, 57, 58, 59, 60, 61, 62, 63, 64, 65, 66, 67, 68, 69, 70, 71, 72, 73, 74, 75, 76, 77, 78, 79, 80, 81, 82, 83, 84, 85, 86, 87, 88, 89, 90, 91, 92, 93, 94, 95, 96, 97, 98, 99, 100, 101, 102, 103] (by decide +kernel) (by decide +kernel)) (goodIn_sub (fun _ h => List.mem_cons_of_mem _ (List.mem_append_right _ h)) (by decide +kernel))
set_option maxRecDepth 20000 in
theorem gL_distance_X7_distance : GoodIn wsL_distance (wsV RL 98 RX7 yX7_distance wsX7_distance) := goodIn_app (goodIn_of _ (by decide +kernel)) ggL_distance_X7_distance
theorem dL_distance_5 : decode cL_distance 5 = .ok (.invokevirtual 98, 3) := by decide +kernel
theorem dL_distance_13 : decode cL_distance 13 = .ok (.astore 4, 2) := by decide +kernel
theorem dL_distance_15 : decode cL_distance 15 = .ok (.iconst 1, 1) := by decide +kernel
theorem dL_distance_16 : decode cL_distance 16 = .ok (.ireturn, 1) := by decide +kernel
theorem dX10_distance_0 : decode cX10_distance 0 = .ok (.aload_n 0, 1) := by decide +kernel
theorem dX10_distance_1 : decode cX10_distance 1 = .ok (.iload_n 1, 1) := by decide +kernel
theorem dX10_distance_2 : decode cX10_distance 2 = .ok (.iload_n 2, 1) := by decide +kernel
set_option maxRecDepth 20000 in
theorem ggX10_distance_X10_areNone : GoodIn wsX10_distance wsX10_areNone := goodIn_r _ [6, 7, 8, 9, 5, 10, 11, 12, 13, 43, 44, 45, 46, 47, 48, 49, 50, 51, 52, 53, 54, 55, 56, 57, 58, 59, 60, 61, 62, 63, 64, 65, 66, 67, 68, 69, 70, 71, 72, 73] (by decide +kernel) (by decide +kernel)
set_option maxRecDepth 20000 in
theorem gX10_distance_X10_areNone : GoodIn wsX10_distance (wsV RX10 217 RX10 yX10_areNone wsX10_areNone) := goodIn_app (goodIn_of _ (by decide +kernel)) ggX10_distance_X10_areNone
theorem dX10_distance_3 : decode cX10_distance 3 = .ok (.invokevirtual 217, 3) := by decide +kernel
theorem dX10_distance_6 : decode cX10_distance 6 = .ok (.ifCond .eq 7, 3) := by decide +kernel
theorem dX10_distance_9 : decode cX10_distance 9 = .ok (.iconst 0, 1) := by decide +kernel
theorem dX10_distance_10 : decode cX10_distance 10 = .ok (.goto 19, 3) := by decide +kernel
theorem dX10_distance_29 : decode cX10_distance 29 = .ok (.ireturn, 1) := by decide +kernel
theorem dX7_distance_5 : decode cX7_distance 5 = .ok (.astore_n 3, 1) := by decide +kernel
theorem dX7_distance_6 : decode cX7_distance 6 = .ok (.aload_n 0, 1) := by decide +kernel
theorem dX7_distance_7 : decode cX7_distance 7 = .ok (.iload_n 2, 1) := by decide +kernel
theorem dX7_distance_8 : decode cX7_distance 8 = .ok (.invokevirtual 83, 3) := by decide +kernel
theorem dX5_listWidths_0 : decode cX5_listWidths 0 = .ok (.iconst 0, 1) := by decide +kernel
theorem dX5_listWidths_1 : decode cX5_listWidths 1 = .ok (.istore_n 2, 1) := by decide +kernel
theorem dX5_listWidths_2 : decode cX5_listWidths 2 = .ok (.iload_n 2, 1) := by decide +kernel
theorem dX5_listWidths_3 : decode cX5_listWidths 3 = .ok (.aload_n 0, 1) := by decide +kernel
theorem dX5_listWidths_4 : decode cX5_listWidths 4 = .ok (.getfield 31, 3) := by decide +kernel
theorem dX5_listWidths_7 : decode cX5_listWidths 7 = .ok (.if_icmp .ge 23, 3) := by decide +kernel
theorem dX5_listWidths_10 : decode cX5_listWidths 10 = .ok (.iload_n 2, 1) := by decide +kernel
theorem dX5_listWidths_11 : decode cX5_listWidths 11 = .ok (.aload_n 1, 1) := by decide +kernel
theorem dX5_listWidths_12 : decode cX5_listWidths 12 = .ok (.arraylength, 1) := by decide +kernel
theorem dX5_listWidths_13 : decode cX5_listWidths 13 = .ok (.if_icmp .ge 17, 3) := by decide +kernel
theorem dX5_listWidths_16 : decode cX5_listWidths 16 = .ok (.aload_n 1, 1) := by decide +kernel
theorem dX5_listWidths_17 : decode cX5_listWidths 17 = .ok (.iload_n 2, 1) := by decide +kernel
theorem dX5_listWidths_18 : decode cX5_listWidths 18 = .ok (.aload_n 0, 1) := by decide +kernel
theorem dX5_listWidths_19 : decode cX5_listWidths 19 = .ok (.iload_n 2, 1) := by decide +kernel
set_option maxRecDepth 20000 in
theorem ggX5_listWidths_X5_widthOf : GoodIn wsX5_listWidths wsX5_widthOf := goodIn_r _ [6, 1, 7, 8, 9, 10, 11, 12, 13, 14] (by decide +kernel) (by decide +kernel)
set_option maxRecDepth 20000 in
theorem gX5_listWidths_X5_widthOf : GoodIn wsX5_listWidths (wsV RX5 41 RX5 yX5_widthOf wsX5_widthOf) := goodIn_app (goodIn_of _ (by decide +kernel)) ggX5_listWidths_X5_widthOf
theorem dX5_listWidths_20 : decode cX5_listWidths 20 = .ok (.invokevirtual 41, 3) := by decide +kernel
theorem dX5_listWidths_23 : decode cX5_listWidths 23 = .ok (.iastore, 1) := by decide +kernel
theorem dX5_listWidths_24 : decode cX5_listWidths 24 = .ok (.iinc 2 1, 3) := by decide +kernel
theorem dX5_listWidths_27 : decode cX5_listWidths 27 = .ok (.goto (-25), 3) := by decide +kernel
theorem dX5_listWidths_30 : decode cX5_listWidths 30 = .ok (.return_, 1) := by decide +kernel
theorem dX5_listChildren_0 : decode cX5_listChildren 0 = .ok (.iconst 0, 1) := by decide +kernel
theorem dX5_listChildren_1 : decode cX5_listChildren 1 = .ok (.istore_n 3, 1) := by decide +kernel
theorem dX5_listChildren_2 : decode cX5_listChildren 2 = .ok (.iload_n 1, 1) := by decide +kernel
theorem dX5_listChildren_3 : decode cX5_listChildren 3 = .ok (.iconst 1, 1) := by decide +kernel
theorem dX5_listChildren_4 : decode cX5_listChildren 4 = .ok (.iadd, 1) := by decide +kernel
theorem dX5_listChildren_5 : decode cX5_listChildren 5 = .ok (.istore 4, 2) := by decide +kernel
theorem dX5_listChildren_7 : decode cX5_listChildren 7 = .ok (.iload 4, 2) := by decide +kernel
theorem dX5_listChildren_9 : decode cX5_listChildren 9 = .ok (.aload_n 0, 1) := by decide +kernel
theorem dX5_listChildren_10 : decode cX5_listChildren 10 = .ok (.getfield 31, 3) := by decide +kernel
theorem dX5_listChildren_13 : decode cX5_listChildren 13 = .ok (.if_icmp .ge 34, 3) := by decide +kernel
theorem dX5_listChildren_47 : decode cX5_listChildren 47 = .ok (.iload_n 3, 1) := by decide +kernel
theorem dX5_listChildren_48 : decode cX5_listChildren 48 = .ok (.ireturn, 1) := by decide +kernel
theorem dX1_restCost_0 : decode cX1_restCost 0 = .ok (.iload_n 3, 1) := by decide +kernel
theorem dX1_restCost_1 : decode cX1_restCost 1 = .ok (.aload_n 0, 1) := by decide +kernel
theorem dX1_restCost_2 : decode cX1_restCost 2 = .ok (.getfield 52, 3) := by decide +kernel
theorem dX1_restCost_5 : decode cX1_restCost 5 = .ok (.if_icmp .ne 24, 3) := by decide +kernel
theorem dX1_restCost_8 : decode cX1_restCost 8 = .ok (.iload 4, 2) := by decide +kernel
theorem dX1_restCost_10 : decode cX1_restCost 10 = .ok (.aload_n 0, 1) := by decide +kernel
theorem dX1_restCost_11 : decode cX1_restCost 11 = .ok (.getfield 55, 3) := by decide +kernel
theorem dX1_restCost_14 : decode cX1_restCost 14 = .ok (.if_icmp .ne 7, 3) := by decide +kernel
theorem dX1_restCost_17 : decode cX1_restCost 17 = .ok (.iconst 0, 1) := by decide +kernel
theorem dX1_restCost_18 : decode cX1_restCost 18 = .ok (.goto 10, 3) := by decide +kernel
theorem dX1_restCost_28 : decode cX1_restCost 28 = .ok (.ireturn, 1) := by decide +kernel
theorem dX1_fillRestCosts_0 : decode cX1_fillRestCosts 0 = .ok (.aload_n 0, 1) := by decide +kernel
theorem dX1_fillRestCosts_1 : decode cX1_fillRestCosts 1 = .ok (.getfield 52, 3) := by decide +kernel
theorem dX1_fillRestCosts_4 : decode cX1_fillRestCosts 4 = .ok (.istore_n 3, 1) := by decide +kernel
theorem dX1_fillRestCosts_5 : decode cX1_fillRestCosts 5 = .ok (.iload_n 3, 1) := by decide +kernel
theorem dX1_fillRestCosts_6 : decode cX1_fillRestCosts 6 = .ok (.ifCond .lt 44, 3) := by decide +kernel
theorem dX1_fillRestCosts_9 : decode cX1_fillRestCosts 9 = .ok (.aload_n 0, 1) := by decide +kernel
theorem dX1_fillRestCosts_10 : decode cX1_fillRestCosts 10 = .ok (.getfield 55, 3) := by decide +kernel
theorem dX1_fillRestCosts_13 : decode cX1_fillRestCosts 13 = .ok (.istore 4, 2) := by decide +kernel
theorem dX1_fillRestCosts_15 : decode cX1_fillRestCosts 15 = .ok (.iload 4, 2) := by decide +kernel
theorem dX1_fillRestCosts_17 : decode cX1_fillRestCosts 17 = .ok (.ifCond .lt 27, 3) := by decide +kernel
theorem dX1_fillRestCosts_20 : decode cX1_fillRestCosts 20 = .ok (.aload_n 0, 1) := by decide +kernel
theorem dX1_fillRestCosts_21 : decode cX1_fillRestCosts 21 = .ok (.getfield 16, 3) := by decide +kernel
theorem dX1_fillRestCosts_24 : decode cX1_fillRestCosts 24 = .ok (.iload_n 3, 1) := by decide +kernel
theorem dX1_fillRestCosts_25 : decode cX1_fillRestCosts 25 = .ok (.aaload, 1) := by decide +kernel
theorem dX1_fillRestCosts_26 : decode cX1_fillRestCosts 26 = .ok (.iload 4, 2) := by decide +kernel
theorem dX1_fillRestCosts_28 : decode cX1_fillRestCosts 28 = .ok (.aload_n 0, 1) := by decide +kernel
theorem dX1_fillRestCosts_29 : decode cX1_fillRestCosts 29 = .ok (.aload_n 1, 1) := by decide +kernel
theorem dX1_fillRestCosts_30 : decode cX1_fillRestCosts 30 = .ok (.aload_n 2, 1) := by decide +kernel
theorem dX1_fillRestCosts_31 : decode cX1_fillRestCosts 31 = .ok (.iload_n 3, 1) := by decide +kernel
theorem dX1_fillRestCosts_32 : decode cX1_fillRestCosts 32 = .ok (.iload 4, 2) := by decide +kernel
set_option maxRecDepth 20000 in
theorem ggX1_fillRestCosts_X1_restCost : GoodIn wsX1_fillRestCosts wsX1_restCost := goodIn_r _ [8, 1, 2, 9, 10, 11, 12, 13, 14, 15, 7, 16, 17, 18, 3, 19, 20, 21, 22, 23, 24, 25, 26, 27, 28, 29, 30, 31, 32, 33, 34, 35, 36, 37, 38, 39, 40, 41, 42, 43, 44, 45, 46, 47, 48, 49, 50, 51] (by decide +kernel) (by decide +kernel)
set_option maxRecDepth 20000 in
theorem gX1_fillRestCosts_X1_restCost : GoodIn wsX1_fillRestCosts (wsV RX1 66 RX1 yX1_restCost wsX1_restCost) := goodIn_app (goodIn_of _ (by decide +kernel)) ggX1_fillRestCosts_X1_restCost
theorem dX1_fillRestCosts_34 : decode cX1_fillRestCosts 34 = .ok (.invokevirtual 66, 3) := by decide +kernel
theorem dX1_fillRestCosts_37 : decode cX1_fillRestCosts 37 = .ok (.iastore, 1) := by decide +kernel
theorem dX1_fillRestCosts_38 : decode cX1_fillRestCosts 38 = .ok (.iinc 4 (-1), 3) := by decide +kernel
theorem dX1_fillRestCosts_41 : decode cX1_fillRestCosts 41 = .ok (.goto (-26), 3) := by decide +kernel
theorem dX1_fillRestCosts_44 : decode cX1_fillRestCosts 44 = .ok (.iinc 3 (-1), 3) := by decide +kernel
theorem dX1_fillRestCosts_47 : decode cX1_fillRestCosts 47 = .ok (.goto (-42), 3) := by decide +kernel
theorem dX1_fillRestCosts_50 : decode cX1_fillRestCosts 50 = .ok (.return_, 1) := by decide +kernel
theorem dX7_changeCost_0 : decode cX7_changeCost 0 = .ok (.iconst 0, 1) := by decide +kernel
theorem dX7_changeCost_1 : decode cX7_changeCost 1 = .ok (.istore 4, 2) := by decide +kernel
theorem dX7_changeCost_3 : decode cX7_changeCost 3 = .ok (.aload_n 0, 1) := by decide +kernel
theorem dX7_changeCost_4 : decode cX7_changeCost 4 = .ok (.getfield 180, 3) := by decide +kernel
theorem dX7_changeCost_7 : decode cX7_changeCost 7 = .ok (.iload_n 1, 1) := by decide +kernel
theorem dX7_changeCost_8 : decode cX7_changeCost 8 = .ok (.caload, 1) := by decide +kernel
theorem dX7_changeCost_9 : decode cX7_changeCost 9 = .ok (.aload_n 2, 1) := by decide +kernel
theorem dX7_changeCost_10 : decode cX7_changeCost 10 = .ok (.getfield 180, 3) := by decide +kernel
theorem dX7_changeCost_13 : decode cX7_changeCost 13 = .ok (.iload_n 3, 1) := by decide +kernel
theorem dX7_changeCost_14 : decode cX7_changeCost 14 = .ok (.caload, 1) := by decide +kernel
theorem dX7_changeCost_15 : decode cX7_changeCost 15 = .ok (.if_icmp .eq 6, 3) := by decide +kernel
theorem dX7_changeCost_21 : decode cX7_changeCost 21 = .ok (.aload_n 0, 1) := by decide +kernel
theorem dX7_changeCost_22 : decode cX7_changeCost 22 = .ok (.getfield 213, 3) := by decide +kernel
theorem dX7_changeCost_25 : decode cX7_changeCost 25 = .ok (.iload_n 1, 1) := by decide +kernel
theorem dX7_changeCost_26 : decode cX7_changeCost 26 = .ok (.iaload, 1) := by decide +kernel
theorem dX7_changeCost_27 : decode cX7_changeCost 27 = .ok (.aload_n 2, 1) := by decide +kernel
theorem dX7_changeCost_28 : decode cX7_changeCost 28 = .ok (.getfield 213, 3) := by decide +kernel
theorem dX7_changeCost_31 : decode cX7_changeCost 31 = .ok (.iload_n 3, 1) := by decide +kernel
theorem dX7_changeCost_32 : decode cX7_changeCost 32 = .ok (.iaload, 1) := by decide +kernel
theorem dX7_changeCost_33 : decode cX7_changeCost 33 = .ok (.if_icmp .eq 6, 3) := by decide +kernel
theorem dX7_changeCost_39 : decode cX7_changeCost 39 = .ok (.iload 4, 2) := by decide +kernel
theorem dX7_changeCost_41 : decode cX7_changeCost 41 = .ok (.ireturn, 1) := by decide +kernel
theorem dX1_leastCost_0 : decode cX1_leastCost 0 = .ok (.aload_n 1, 1) := by decide +kernel
theorem dX1_leastCost_1 : decode cX1_leastCost 1 = .ok (.aload_n 0, 1) := by decide +kernel
theorem dX1_leastCost_2 : decode cX1_leastCost 2 = .ok (.getfield 19, 3) := by decide +kernel
set_option maxRecDepth 20000 in
theorem ggX1_leastCost_X5_listWidths : GoodIn wsX1_leastCost wsX5_listWidths := goodIn_r _ [14, 15, 16, 17, 18, 13, 19, 20, 70, 71, 72, 73, 74, 75, 76] (by decide +kernel) (by decide +kernel)
set_option maxRecDepth 20000 in
theorem gX1_leastCost_X5_listWidths : GoodIn wsX1_leastCost (wsV RX1 38 RX5 yX5_listWidths wsX5_listWidths) := goodIn_app (goodIn_of _ (by decide +kernel)) ggX1_leastCost_X5_listWidths
theorem dX1_leastCost_5 : decode cX1_leastCost 5 = .ok (.invokevirtual 38, 3) := by decide +kernel
theorem dX1_leastCost_8 : decode cX1_leastCost 8 = .ok (.aload_n 2, 1) := by decide +kernel
theorem dX1_leastCost_9 : decode cX1_leastCost 9 = .ok (.aload_n 0, 1) := by decide +kernel
theorem dX1_leastCost_10 : decode cX1_leastCost 10 = .ok (.getfield 23, 3) := by decide +kernel
theorem dX1_leastCost_13 : decode cX1_leastCost 13 = .ok (.invokevirtual 38, 3) := by decide +kernel
theorem dX1_leastCost_16 : decode cX1_leastCost 16 = .ok (.aload_n 1, 1) := by decide +kernel
theorem dX1_leastCost_17 : decode cX1_leastCost 17 = .ok (.getfield 44, 3) := by decide +kernel
theorem dX1_leastCost_20 : decode cX1_leastCost 20 = .ok (.iconst 1, 1) := by decide +kernel
theorem dX1_leastCost_21 : decode cX1_leastCost 21 = .ok (.isub, 1) := by decide +kernel
theorem dX1_leastCost_22 : decode cX1_leastCost 22 = .ok (.istore_n 3, 1) := by decide +kernel
theorem dX1_leastCost_23 : decode cX1_leastCost 23 = .ok (.iload_n 3, 1) := by decide +kernel
theorem dX1_leastCost_24 : decode cX1_leastCost 24 = .ok (.ifCond .lt 87, 3) := by decide +kernel
theorem dX1_leastCost_27 : decode cX1_leastCost 27 = .ok (.aload_n 0, 1) := by decide +kernel
theorem dX1_leastCost_28 : decode cX1_leastCost 28 = .ok (.aload_n 1, 1) := by decide +kernel
theorem dX1_leastCost_29 : decode cX1_leastCost 29 = .ok (.iload_n 3, 1) := by decide +kernel
theorem dX1_leastCost_30 : decode cX1_leastCost 30 = .ok (.aload_n 0, 1) := by decide +kernel
theorem dX1_leastCost_31 : decode cX1_leastCost 31 = .ok (.getfield 26, 3) := by decide +kernel
set_option maxRecDepth 20000 in
theorem ggX1_leastCost_X5_listChildren : GoodIn wsX1_leastCost wsX5_listChildren := goodIn_r _ [24, 15, 20, 70, 71, 72, 73, 74, 75, 76] (by decide +kernel) (by decide +kernel)
set_option maxRecDepth 20000 in
theorem gX1_leastCost_X5_listChildren : GoodIn wsX1_leastCost (wsV RX1 48 RX5 yX5_listChildren wsX5_listChildren) := goodIn_app (goodIn_of _ (by decide +kernel)) ggX1_leastCost_X5_listChildren
theorem dX1_leastCost_34 : decode cX1_leastCost 34 = .ok (.invokevirtual 48, 3) := by decide +kernel
theorem dX1_leastCost_37 : decode cX1_leastCost 37 = .ok (.putfield 52, 3) := by decide +kernel
theorem dX1_leastCost_40 : decode cX1_leastCost 40 = .ok (.aload_n 2, 1) := by decide +kernel
theorem dX1_leastCost_41 : decode cX1_leastCost 41 = .ok (.getfield 44, 3) := by decide +kernel
theorem dX1_leastCost_44 : decode cX1_leastCost 44 = .ok (.iconst 1, 1) := by decide +kernel
theorem dX1_leastCost_45 : decode cX1_leastCost 45 = .ok (.isub, 1) := by decide +kernel
theorem dX1_leastCost_46 : decode cX1_leastCost 46 = .ok (.istore 4, 2) := by decide +kernel
theorem dX1_leastCost_48 : decode cX1_leastCost 48 = .ok (.iload 4, 2) := by decide +kernel
theorem dX1_leastCost_50 : decode cX1_leastCost 50 = .ok (.ifCond .lt 55, 3) := by decide +kernel
theorem dX1_leastCost_53 : decode cX1_leastCost 53 = .ok (.aload_n 0, 1) := by decide +kernel
theorem dX1_leastCost_54 : decode cX1_leastCost 54 = .ok (.aload_n 2, 1) := by decide +kernel
theorem dX1_leastCost_55 : decode cX1_leastCost 55 = .ok (.iload 4, 2) := by decide +kernel
theorem dX1_leastCost_57 : decode cX1_leastCost 57 = .ok (.aload_n 0, 1) := by decide +kernel
theorem dX1_leastCost_58 : decode cX1_leastCost 58 = .ok (.getfield 29, 3) := by decide +kernel
theorem dX1_leastCost_61 : decode cX1_leastCost 61 = .ok (.invokevirtual 48, 3) := by decide +kernel
theorem dX1_leastCost_64 : decode cX1_leastCost 64 = .ok (.putfield 55, 3) := by decide +kernel
theorem dX1_leastCost_67 : decode cX1_leastCost 67 = .ok (.aload_n 0, 1) := by decide +kernel
theorem dX1_leastCost_68 : decode cX1_leastCost 68 = .ok (.aload_n 1, 1) := by decide +kernel
theorem dX1_leastCost_69 : decode cX1_leastCost 69 = .ok (.aload_n 2, 1) := by decide +kernel
set_option maxRecDepth 20000 in
theorem ggX1_leastCost_X1_fillRestCosts : GoodIn wsX1_leastCost wsX1_fillRestCosts := goodIn_r _ [29, 5, 7, 9, 30, 31, 32, 28, 33, 34, 35, 36, 37, 38, 39, 40, 41, 2, 6, 42, 43, 44, 45, 1, 4, 46, 47, 48, 49, 50, 51, 52, 53, 54, 8, 60, 61, 62, 63, 64, 65, 66, 67, 68, 69, 70, 71, 72, 73, 74, 75, 76] (by decide +kernel) (by decide +kernel)
set_option maxRecDepth 20000 in
theorem gX1_leastCost_X1_fillRestCosts : GoodIn wsX1_leastCost (wsV RX1 58 RX1 yX1_fillRestCosts wsX1_fillRestCosts) := goodIn_app (goodIn_of _ (by decide +kernel)) ggX1_leastCost_X1_fillRestCosts
theorem dX1_leastCost_70 : decode cX1_leastCost 70 = .ok (.invokevirtual 58, 3) := by decide +kernel
theorem dX1_leastCost_73 : decode cX1_leastCost 73 = .ok (.aload_n 0, 1) := by decide +kernel
theorem dX1_leastCost_74 : decode cX1_leastCost 74 = .ok (.getfield 11, 3) := by decide +kernel
theorem dX1_leastCost_77 : decode cX1_leastCost 77 = .ok (.iload_n 3, 1) := by decide +kernel
theorem dX1_leastCost_78 : decode cX1_leastCost 78 = .ok (.aaload, 1) := by decide +kernel
theorem dX1_leastCost_79 : decode cX1_leastCost 79 = .ok (.iload 4, 2) := by decide +kernel
theorem dX1_leastCost_81 : decode cX1_leastCost 81 = .ok (.aload_n 1, 1) := by decide +kernel
theorem dX1_leastCost_82 : decode cX1_leastCost 82 = .ok (.iload_n 3, 1) := by decide +kernel
theorem dX1_leastCost_83 : decode cX1_leastCost 83 = .ok (.aload_n 2, 1) := by decide +kernel
theorem dX1_leastCost_84 : decode cX1_leastCost 84 = .ok (.iload 4, 2) := by decide +kernel
set_option maxRecDepth 20000 in
theorem ggX1_leastCost_X7_changeCost : GoodIn wsX1_leastCost wsX7_changeCost := goodIn_r _ [57, 58, 59, 70, 71, 72, 73, 74, 75, 76] (by decide +kernel) (by decide +kernel)
set_option maxRecDepth 20000 in
theorem gX1_leastCost_X7_changeCost_n62 : GoodIn wsX1_leastCost (wsX7_changeCost) := ggX1_leastCost_X7_changeCost
theorem dX1_leastCost_86 : decode cX1_leastCost 86 = .ok (.invokestatic 62, 3) := by decide +kernel
theorem dX1_leastCost_89 : decode cX1_leastCost 89 = .ok (.aload_n 0, 1) := by decide +kernel
theorem dX1_leastCost_90 : decode cX1_leastCost 90 = .ok (.getfield 16, 3) := by decide +kernel
theorem dX1_leastCost_93 : decode cX1_leastCost 93 = .ok (.iconst 0, 1) := by decide +kernel
theorem dX1_leastCost_94 : decode cX1_leastCost 94 = .ok (.aaload, 1) := by decide +kernel
theorem dX1_leastCost_95 : decode cX1_leastCost 95 = .ok (.iconst 0, 1) := by decide +kernel
theorem dX1_leastCost_96 : decode cX1_leastCost 96 = .ok (.iaload, 1) := by decide +kernel
theorem dX1_leastCost_97 : decode cX1_leastCost 97 = .ok (.iadd, 1) := by decide +kernel
theorem dX1_leastCost_98 : decode cX1_leastCost 98 = .ok (.iastore, 1) := by decide +kernel
theorem dX1_leastCost_99 : decode cX1_leastCost 99 = .ok (.iinc 4 (-1), 3) := by decide +kernel
theorem dX1_leastCost_102 : decode cX1_leastCost 102 = .ok (.goto (-54), 3) := by decide +kernel
theorem dX1_leastCost_105 : decode cX1_leastCost 105 = .ok (.iinc 3 (-1), 3) := by decide +kernel
theorem dX1_leastCost_108 : decode cX1_leastCost 108 = .ok (.goto (-85), 3) := by decide +kernel
theorem dX1_leastCost_111 : decode cX1_leastCost 111 = .ok (.aload_n 0, 1) := by decide +kernel
theorem dX1_leastCost_112 : decode cX1_leastCost 112 = .ok (.getfield 11, 3) := by decide +kernel
theorem dX1_leastCost_115 : decode cX1_leastCost 115 = .ok (.iconst 0, 1) := by decide +kernel
theorem dX1_leastCost_116 : decode cX1_leastCost 116 = .ok (.aaload, 1) := by decide +kernel
theorem dX1_leastCost_117 : decode cX1_leastCost 117 = .ok (.iconst 0, 1) := by decide +kernel
theorem dX1_leastCost_118 : decode cX1_leastCost 118 = .ok (.iaload, 1) := by decide +kernel
theorem dX1_leastCost_119 : decode cX1_leastCost 119 = .ok (.ireturn, 1) := by decide +kernel
theorem dX7_distance_11 : decode cX7_distance 11 = .ok (.astore 4, 2) := by decide +kernel
theorem dX7_distance_13 : decode cX7_distance 13 = .ok (.aload_n 0, 1) := by decide +kernel
theorem dX7_distance_14 : decode cX7_distance 14 = .ok (.getfield 32, 3) := by decide +kernel
theorem dX7_distance_17 : decode cX7_distance 17 = .ok (.aload_n 3, 1) := by decide +kernel
theorem dX7_distance_18 : decode cX7_distance 18 = .ok (.aload 4, 2) := by decide +kernel
set_option maxRecDepth 20000 in
theorem ggX7_distance_X1_leastCost : GoodIn wsX7_distance wsX1_leastCost := goodIn_r _ [14, 15, 16, 17, 18, 19, 20, 21, 22, 23, 24, 25, 26, 27, 28, 29, 30, 31, 32, 33, 34, 35, 36, 37, 38, 39, 40, 41, 13, 42, 43, 44, 45, 46, 47, 48, 49, 50, 51, 52, 53, 54, 55, 56, 57, 58, 59, 60, 61, 62, 63, 64, 65, 66, 67, 68, 5, 69, 70, 71, 82, 83, 84, 85, 86, 87, 88, 89, 90, 91, 92, 93, 94, 95, 96, 97, 98] (by decide +kernel) (by decide +kernel)
set_option maxRecDepth 20000 in
theorem gX7_distance_X1_leastCost : GoodIn wsX7_distance (wsV RX7 235 RX1 yX1_leastCost wsX1_leastCost) := goodIn_app (goodIn_of _ (by decide +kernel)) ggX7_distance_X1_leastCost
theorem dX7_distance_20 : decode cX7_distance 20 = .ok (.invokevirtual 235, 3) := by decide +kernel
theorem dX7_distance_23 : decode cX7_distance 23 = .ok (.ireturn, 1) := by decide +kernel
theorem dL_distance_8 : decode cL_distance 8 = .ok (.i2l, 1) := by decide +kernel
theorem dL_distance_9 : decode cL_distance 9 = .ok (.lastore, 1) := by decide +kernel
theorem dL_distance_10 : decode cL_distance 10 = .ok (.goto 7, 3) := by decide +kernel
theorem dL_distance_17 : decode cL_distance 17 = .ok (.iconst 0, 1) := by decide +kernel
theorem dL_distance_18 : decode cL_distance 18 = .ok (.ireturn, 1) := by decide +kernel
theorem dX10_left_0 : decode cX10_left 0 = .ok (.aload_n 2, 1) := by decide +kernel
theorem dX10_left_1 : decode cX10_left 1 = .ok (.arraylength, 1) := by decide +kernel
theorem dX10_left_2 : decode cX10_left 2 = .ok (.iconst 1, 1) := by decide +kernel
theorem dX10_left_3 : decode cX10_left 3 = .ok (.iadd, 1) := by decide +kernel
theorem dX10_left_4 : decode cX10_left 4 = .ok (.aload 4, 2) := by decide +kernel
theorem dX10_left_6 : decode cX10_left 6 = .ok (.arraylength, 1) := by decide +kernel
theorem dX10_left_7 : decode cX10_left 7 = .ok (.iconst 1, 1) := by decide +kernel
theorem dX10_left_8 : decode cX10_left 8 = .ok (.iadd, 1) := by decide +kernel
theorem dX10_left_9 : decode cX10_left 9 = .ok (.multianewarray 51 2, 4) := by decide +kernel
theorem dX10_left_13 : decode cX10_left 13 = .ok (.astore 5, 2) := by decide +kernel
theorem dX10_left_15 : decode cX10_left 15 = .ok (.aload_n 2, 1) := by decide +kernel
theorem dX10_left_16 : decode cX10_left 16 = .ok (.arraylength, 1) := by decide +kernel
theorem dX10_left_17 : decode cX10_left 17 = .ok (.istore 6, 2) := by decide +kernel
theorem dX10_left_19 : decode cX10_left 19 = .ok (.iload 6, 2) := by decide +kernel
theorem dX10_left_21 : decode cX10_left 21 = .ok (.ifCond .lt 207, 3) := by decide +kernel
theorem dX10_left_24 : decode cX10_left 24 = .ok (.aload 4, 2) := by decide +kernel
theorem dX10_left_26 : decode cX10_left 26 = .ok (.arraylength, 1) := by decide +kernel
theorem dX10_left_27 : decode cX10_left 27 = .ok (.istore 7, 2) := by decide +kernel
theorem dX10_left_29 : decode cX10_left 29 = .ok (.iload 7, 2) := by decide +kernel
theorem dX10_left_31 : decode cX10_left 31 = .ok (.ifCond .lt 191, 3) := by decide +kernel
theorem dX10_left_34 : decode cX10_left 34 = .ok (.iload 6, 2) := by decide +kernel
theorem dX10_left_36 : decode cX10_left 36 = .ok (.aload_n 2, 1) := by decide +kernel
theorem dX10_left_37 : decode cX10_left 37 = .ok (.arraylength, 1) := by decide +kernel
theorem dX10_left_38 : decode cX10_left 38 = .ok (.if_icmp .ne 14, 3) := by decide +kernel
theorem dX10_left_41 : decode cX10_left 41 = .ok (.iload 7, 2) := by decide +kernel
theorem dX10_left_43 : decode cX10_left 43 = .ok (.aload 4, 2) := by decide +kernel
theorem dX10_left_45 : decode cX10_left 45 = .ok (.arraylength, 1) := by decide +kernel
theorem dX10_left_46 : decode cX10_left 46 = .ok (.if_icmp .ne 6, 3) := by decide +kernel
theorem dX10_left_49 : decode cX10_left 49 = .ok (.goto 167, 3) := by decide +kernel
theorem dX10_left_216 : decode cX10_left 216 = .ok (.iinc 7 (-1), 3) := by decide +kernel
theorem dX10_left_219 : decode cX10_left 219 = .ok (.goto (-190), 3) := by decide +kernel
theorem dX10_left_222 : decode cX10_left 222 = .ok (.iinc 6 (-1), 3) := by decide +kernel
theorem dX10_left_225 : decode cX10_left 225 = .ok (.goto (-206), 3) := by decide +kernel
theorem dX10_left_228 : decode cX10_left 228 = .ok (.aload 5, 2) := by decide +kernel
theorem dX10_left_230 : decode cX10_left 230 = .ok (.areturn, 1) := by decide +kernel
theorem dX10_fills_0 : decode cX10_fills 0 = .ok (.aload_n 1, 1) := by decide +kernel
theorem dX10_fills_1 : decode cX10_fills 1 = .ok (.getfield 116, 3) := by decide +kernel
theorem dX10_fills_4 : decode cX10_fills 4 = .ok (.iconst 1, 1) := by decide +kernel
theorem dX10_fills_5 : decode cX10_fills 5 = .ok (.isub, 1) := by decide +kernel
theorem dX10_fills_6 : decode cX10_fills 6 = .ok (.istore_n 3, 1) := by decide +kernel
theorem dX10_fills_7 : decode cX10_fills 7 = .ok (.iload_n 3, 1) := by decide +kernel
theorem dX10_fills_8 : decode cX10_fills 8 = .ok (.ifCond .lt 106, 3) := by decide +kernel
theorem dX10_fills_11 : decode cX10_fills 11 = .ok (.aload_n 2, 1) := by decide +kernel
theorem dX10_fills_12 : decode cX10_fills 12 = .ok (.getfield 116, 3) := by decide +kernel
theorem dX10_fills_15 : decode cX10_fills 15 = .ok (.iconst 1, 1) := by decide +kernel
theorem dX10_fills_16 : decode cX10_fills 16 = .ok (.isub, 1) := by decide +kernel
theorem dX10_fills_17 : decode cX10_fills 17 = .ok (.istore 4, 2) := by decide +kernel
theorem dX10_fills_19 : decode cX10_fills 19 = .ok (.iload 4, 2) := by decide +kernel
theorem dX10_fills_21 : decode cX10_fills 21 = .ok (.ifCond .lt 87, 3) := by decide +kernel
theorem dX10_fills_24 : decode cX10_fills 24 = .ok (.aload_n 1, 1) := by decide +kernel
theorem dX10_fills_25 : decode cX10_fills 25 = .ok (.getfield 11, 3) := by decide +kernel
theorem dX10_fills_28 : decode cX10_fills 28 = .ok (.iload_n 3, 1) := by decide +kernel
theorem dX10_fills_29 : decode cX10_fills 29 = .ok (.iaload, 1) := by decide +kernel
theorem dX10_fills_30 : decode cX10_fills 30 = .ok (.aload_n 2, 1) := by decide +kernel
theorem dX10_fills_31 : decode cX10_fills 31 = .ok (.getfield 11, 3) := by decide +kernel
theorem dX10_fills_34 : decode cX10_fills 34 = .ok (.iload 4, 2) := by decide +kernel
theorem dX10_fills_36 : decode cX10_fills 36 = .ok (.iaload, 1) := by decide +kernel
theorem dX10_fills_37 : decode cX10_fills 37 = .ok (.if_icmp .ne 7, 3) := by decide +kernel
theorem dX10_fills_40 : decode cX10_fills 40 = .ok (.iconst 0, 1) := by decide +kernel
theorem dX10_fills_41 : decode cX10_fills 41 = .ok (.goto 4, 3) := by decide +kernel
theorem dX10_fills_45 : decode cX10_fills 45 = .ok (.aload_n 1, 1) := by decide +kernel
theorem dX10_fills_46 : decode cX10_fills 46 = .ok (.getfield 17, 3) := by decide +kernel
theorem dX10_fills_49 : decode cX10_fills 49 = .ok (.iload_n 3, 1) := by decide +kernel
theorem dX10_fills_50 : decode cX10_fills 50 = .ok (.iaload, 1) := by decide +kernel
theorem dX10_fills_51 : decode cX10_fills 51 = .ok (.aload_n 2, 1) := by decide +kernel
theorem dX10_fills_52 : decode cX10_fills 52 = .ok (.getfield 17, 3) := by decide +kernel
theorem dX10_fills_55 : decode cX10_fills 55 = .ok (.iload 4, 2) := by decide +kernel
theorem dX10_fills_57 : decode cX10_fills 57 = .ok (.iaload, 1) := by decide +kernel
theorem dX10_fills_58 : decode cX10_fills 58 = .ok (.if_icmp .ne 7, 3) := by decide +kernel
theorem dX10_fills_61 : decode cX10_fills 61 = .ok (.iconst 0, 1) := by decide +kernel
theorem dX10_fills_62 : decode cX10_fills 62 = .ok (.goto 4, 3) := by decide +kernel
theorem dX10_fills_66 : decode cX10_fills 66 = .ok (.iadd, 1) := by decide +kernel
theorem dX10_fills_67 : decode cX10_fills 67 = .ok (.istore 5, 2) := by decide +kernel
theorem dX10_fills_69 : decode cX10_fills 69 = .ok (.aload_n 0, 1) := by decide +kernel
theorem dX10_fills_70 : decode cX10_fills 70 = .ok (.getfield 53, 3) := by decide +kernel
theorem dX10_fills_73 : decode cX10_fills 73 = .ok (.iload_n 3, 1) := by decide +kernel
theorem dX10_fills_74 : decode cX10_fills 74 = .ok (.aaload, 1) := by decide +kernel
theorem dX10_fills_75 : decode cX10_fills 75 = .ok (.iload 4, 2) := by decide +kernel
theorem dX10_fills_77 : decode cX10_fills 77 = .ok (.iload 5, 2) := by decide +kernel
theorem dX10_fills_79 : decode cX10_fills 79 = .ok (.aload_n 0, 1) := by decide +kernel
theorem dX10_fills_80 : decode cX10_fills 80 = .ok (.aload_n 1, 1) := by decide +kernel
theorem dX10_fills_81 : decode cX10_fills 81 = .ok (.aload_n 1, 1) := by decide +kernel
theorem dX10_fills_82 : decode cX10_fills 82 = .ok (.iload_n 3, 1) := by decide +kernel
set_option maxRecDepth 20000 in
theorem ggX10_fills_X9_kids : GoodIn wsX10_fills wsX9_kids := goodIn_r _ [5, 6, 7, 8, 9, 10, 11, 3, 12, 27, 28, 29, 30, 31] (by decide +kernel) (by decide +kernel)
set_option maxRecDepth 20000 in
theorem gX10_fills_X9_kids_n173 : GoodIn wsX10_fills (wsX9_kids) := ggX10_fills_X9_kids
theorem dX10_fills_83 : decode cX10_fills 83 = .ok (.invokevirtual 173, 3) := by decide +kernel
theorem dX10_fills_86 : decode cX10_fills 86 = .ok (.aload_n 2, 1) := by decide +kernel
theorem dX10_fills_87 : decode cX10_fills 87 = .ok (.aload_n 2, 1) := by decide +kernel
theorem dX10_fills_88 : decode cX10_fills 88 = .ok (.iload 4, 2) := by decide +kernel
theorem dX10_fills_90 : decode cX10_fills 90 = .ok (.invokevirtual 173, 3) := by decide +kernel
set_option maxRecDepth 20000 in
theorem ggX10_fills_X10_left : GoodIn wsX10_fills wsX10_left := goodIn_r _ [17, 18, 6, 19, 20, 21, 22, 23, 1, 24, 3, 25, 26, 7, 8, 27, 28, 29, 30, 31, 32, 33, 34, 35, 36, 37, 38, 39, 40, 41, 42, 43, 44, 45, 46, 47, 48, 49, 50, 51, 52, 53, 54, 55, 56, 57, 58, 59, 60, 61, 62] (by decide +kernel) (by decide +kernel)
set_option maxRecDepth 20000 in
theorem gX10_fills_X10_left : GoodIn wsX10_fills (wsV RX10 238 RX10 yX10_left wsX10_left) := goodIn_app (goodIn_of _ (by decide +kernel)) ggX10_fills_X10_left
theorem dX10_fills_93 : decode cX10_fills 93 = .ok (.invokevirtual 238, 3) := by decide +kernel
theorem dX10_fills_96 : decode cX10_fills 96 = .ok (.iconst 0, 1) := by decide +kernel
theorem dX10_fills_97 : decode cX10_fills 97 = .ok (.aaload, 1) := by decide +kernel
theorem dX10_fills_98 : decode cX10_fills 98 = .ok (.iconst 0, 1) := by decide +kernel
theorem dX10_fills_99 : decode cX10_fills 99 = .ok (.iaload, 1) := by decide +kernel
theorem dX10_fills_100 : decode cX10_fills 100 = .ok (.iadd, 1) := by decide +kernel
theorem dX10_fills_101 : decode cX10_fills 101 = .ok (.iastore, 1) := by decide +kernel
theorem dX10_fills_102 : decode cX10_fills 102 = .ok (.iinc 4 (-1), 3) := by decide +kernel
theorem dX10_fills_105 : decode cX10_fills 105 = .ok (.goto (-86), 3) := by decide +kernel
theorem dX10_fills_108 : decode cX10_fills 108 = .ok (.iinc 3 (-1), 3) := by decide +kernel
theorem dX10_fills_111 : decode cX10_fills 111 = .ok (.goto (-104), 3) := by decide +kernel
theorem dX10_fills_114 : decode cX10_fills 114 = .ok (.aload_n 0, 1) := by decide +kernel
theorem dX10_fills_115 : decode cX10_fills 115 = .ok (.getfield 53, 3) := by decide +kernel
theorem dX10_fills_118 : decode cX10_fills 118 = .ok (.iconst 0, 1) := by decide +kernel
theorem dX10_fills_119 : decode cX10_fills 119 = .ok (.aaload, 1) := by decide +kernel
theorem dX10_fills_120 : decode cX10_fills 120 = .ok (.iconst 0, 1) := by decide +kernel
theorem dX10_fills_121 : decode cX10_fills 121 = .ok (.iaload, 1) := by decide +kernel
theorem dX10_fills_122 : decode cX10_fills 122 = .ok (.ireturn, 1) := by decide +kernel
theorem dX10_distance_13 : decode cX10_distance 13 = .ok (.aload_n 0, 1) := by decide +kernel
theorem dX10_distance_14 : decode cX10_distance 14 = .ok (.aload_n 0, 1) := by decide +kernel
theorem dX10_distance_15 : decode cX10_distance 15 = .ok (.getfield 27, 3) := by decide +kernel
theorem dX10_distance_18 : decode cX10_distance 18 = .ok (.iload_n 1, 1) := by decide +kernel
theorem dX10_distance_19 : decode cX10_distance 19 = .ok (.aaload, 1) := by decide +kernel
theorem dX10_distance_20 : decode cX10_distance 20 = .ok (.aload_n 0, 1) := by decide +kernel
theorem dX10_distance_21 : decode cX10_distance 21 = .ok (.getfield 27, 3) := by decide +kernel
theorem dX10_distance_24 : decode cX10_distance 24 = .ok (.iload_n 2, 1) := by decide +kernel
theorem dX10_distance_25 : decode cX10_distance 25 = .ok (.aaload, 1) := by decide +kernel
set_option maxRecDepth 20000 in
theorem ggX10_distance_X10_fills : GoodIn wsX10_distance wsX10_fills := goodIn_r _ [17, 18, 19, 20, 21, 22, 23, 24, 25, 26, 27, 28, 29, 30, 31, 32, 5, 33, 34, 35, 36, 37, 38, 39, 40, 41, 42, 74, 75, 76, 77, 78, 43, 44, 45, 46, 47, 48, 49, 50, 51, 52, 53, 54, 55, 56, 57, 58, 59, 60, 61, 62, 63, 64, 65, 66, 67, 68, 69, 70, 71, 72, 73] (by decide +kernel) (by decide +kernel)
set_option maxRecDepth 20000 in
theorem gX10_distance_X10_fills : GoodIn wsX10_distance (wsV RX10 253 RX10 yX10_fills wsX10_fills) := goodIn_app (goodIn_of _ (by decide +kernel)) ggX10_distance_X10_fills
theorem dX10_distance_26 : decode cX10_distance 26 = .ok (.invokevirtual 253, 3) := by decide +kernel
theorem dL_law_1793 : decode cL_law 1793 = .ok (.aload_n 1, 1) := by decide +kernel
theorem dL_law_1794 : decode cL_law 1794 = .ok (.aload_n 0, 1) := by decide +kernel
theorem dL_law_1795 : decode cL_law 1795 = .ok (.iload 5, 2) := by decide +kernel
theorem dL_law_1797 : decode cL_law 1797 = .ok (.iconst 1, 1) := by decide +kernel
theorem dL_law_1798 : decode cL_law 1798 = .ok (.iadd, 1) := by decide +kernel
theorem dL_law_1799 : decode cL_law 1799 = .ok (.iaload, 1) := by decide +kernel
theorem dL_law_1800 : decode cL_law 1800 = .ok (.aload_n 0, 1) := by decide +kernel
theorem dL_law_1801 : decode cL_law 1801 = .ok (.iload 5, 2) := by decide +kernel
theorem dL_law_1803 : decode cL_law 1803 = .ok (.iconst 2, 1) := by decide +kernel
theorem dL_law_1804 : decode cL_law 1804 = .ok (.iadd, 1) := by decide +kernel
theorem dL_law_1805 : decode cL_law 1805 = .ok (.iaload, 1) := by decide +kernel
theorem dL_law_1806 : decode cL_law 1806 = .ok (.aload_n 3, 1) := by decide +kernel
set_option maxRecDepth 20000 in
theorem ggL_law_L_distance : GoodIn wsL_law wsL_distance := goodIn_ca (goodIn_r _ [927, 185, 928, 929, 930, 2, 931, 27, 196, 197, 198, 199, 200, 201, 15, 932, 933, 934, 26, 935, 74, 75, 936, 76, 937, 77, 938, 72, 73, 939, 940, 941, 44, 942, 63, 662, 663, 664, 665, 60, 943, 944, 945, 946, 947, 948, 949, 950, 951, 952, 953, 954, 955, 417, 400, 418, 956, 957, 958, 959, 960, 961, 962, 963, 964, 965, 966, 967, 968, 969, 970, 971, 972, 973, 974, 721, 754, 1458, 1459, 1460, 1461, 1462, 1463, 1464, 1465, 1466, 1467, 1505, 1506, 1507, 1508, 1509, 1510, 1511, 1512, 1513, 1514, 1530, 1531, 1532, 1533, 1534, 1535, 1536] (by decide +kernel) (by decide +kernel)) (goodIn_sub (fun _ h => List.mem_append_left _ (List.mem_append_left _ (List.mem_append_right _ h))) (by decide +kernel))
set_option maxRecDepth 20000 in
theorem gL_law_L_distance : GoodIn wsL_law (va_wsS RL 232 yL_distance wsL_distance) := goodIn_app (goodIn_of _ (by decide +kernel)) ggL_law_L_distance
theorem dL_law_1807 : decode cL_law 1807 = .ok (.invokestatic 232, 3) := by decide +kernel
theorem dL_law_1810 : decode cL_law 1810 = .ok (.istore 6, 2) := by decide +kernel
theorem dL_law_1812 : decode cL_law 1812 = .ok (.aload_n 2, 1) := by decide +kernel
theorem dL_law_1813 : decode cL_law 1813 = .ok (.aload_n 0, 1) := by decide +kernel
theorem dL_law_1814 : decode cL_law 1814 = .ok (.iload 5, 2) := by decide +kernel
theorem dL_law_1816 : decode cL_law 1816 = .ok (.iconst 1, 1) := by decide +kernel
theorem dL_law_1817 : decode cL_law 1817 = .ok (.iadd, 1) := by decide +kernel
theorem dL_law_1818 : decode cL_law 1818 = .ok (.iaload, 1) := by decide +kernel
theorem dL_law_1819 : decode cL_law 1819 = .ok (.aload_n 0, 1) := by decide +kernel
theorem dL_law_1820 : decode cL_law 1820 = .ok (.iload 5, 2) := by decide +kernel
theorem dL_law_1822 : decode cL_law 1822 = .ok (.iconst 2, 1) := by decide +kernel
theorem dL_law_1823 : decode cL_law 1823 = .ok (.iadd, 1) := by decide +kernel
theorem dL_law_1824 : decode cL_law 1824 = .ok (.iaload, 1) := by decide +kernel
set_option maxRecDepth 20000 in
theorem ggL_law_X10_distance : GoodIn wsL_law wsX10_distance := goodIn_r _ [978, 114, 773, 774, 775, 5, 776, 172, 259, 260, 261, 262, 263, 264, 979, 980, 981, 982, 120, 510, 113, 511, 512, 57, 146, 142, 513, 507, 508, 509, 983, 984, 985, 986, 119, 987, 988, 417, 400, 418, 690, 691, 692, 1468, 1469, 1470, 1471, 1472, 1473, 1474, 1475, 1476, 1477, 1478, 1479, 1480, 1481, 1482, 1483, 1484, 1485, 1486, 1487, 1488, 1489, 1490, 1491, 1492, 1493, 1494, 1495, 1496, 1497, 1498, 1537, 1538, 1539, 1540, 1541] (by decide +kernel) (by decide +kernel)
set_option maxRecDepth 20000 in
theorem gL_law_X10_distance : GoodIn wsL_law (wsV RL 234 RX10 yX10_distance wsX10_distance) := goodIn_app (goodIn_of _ (by decide +kernel)) ggL_law_X10_distance
theorem dL_law_1825 : decode cL_law 1825 = .ok (.invokevirtual 234, 3) := by decide +kernel
theorem dL_law_1828 : decode cL_law 1828 = .ok (.istore 7, 2) := by decide +kernel
theorem dL_law_1830 : decode cL_law 1830 = .ok (.aload_n 2, 1) := by decide +kernel
theorem dL_law_1831 : decode cL_law 1831 = .ok (.invokevirtual 156, 3) := by decide +kernel
theorem dL_law_1834 : decode cL_law 1834 = .ok (.iload 6, 2) := by decide +kernel
theorem dL_law_1836 : decode cL_law 1836 = .ok (.if_icmp .eq 5, 3) := by decide +kernel
theorem dL_law_1841 : decode cL_law 1841 = .ok (.iload 6, 2) := by decide +kernel
theorem dL_law_1843 : decode cL_law 1843 = .ok (.ifCond .ne 15, 3) := by decide +kernel
theorem dL_law_1858 : decode cL_law 1858 = .ok (.goto 792, 3) := by decide +kernel
theorem dL_law_1846 : decode cL_law 1846 = .ok (.aload_n 3, 1) := by decide +kernel
theorem dL_law_1847 : decode cL_law 1847 = .ok (.iconst 0, 1) := by decide +kernel
theorem dL_law_1848 : decode cL_law 1848 = .ok (.laload, 1) := by decide +kernel
theorem dL_law_1849 : decode cL_law 1849 = .ok (.iload 7, 2) := by decide +kernel
theorem dL_law_1851 : decode cL_law 1851 = .ok (.i2l, 1) := by decide +kernel
theorem dL_law_1852 : decode cL_law 1852 = .ok (.lcmp, 1) := by decide +kernel
theorem dL_law_1853 : decode cL_law 1853 = .ok (.ifCond .eq 5, 3) := by decide +kernel
variable {l : Launch} {N0 : Nat} {D : va_G} {cI cC cL cD cII cTr cTm cIt cB : ClassId} {F : Nat → Option va_E} {ql : Nat → Nat}
theorem k1176_X7_distance {n : Nat} {a1 : Int32} {a2 : Int32} (g_a1_le_m1 : a1 ≤ (-1)) (hst : l.stackTraces = false) (hn : N0 + 231 ≤ n) (h0 : F N0 = some (.inr (9, [.ref (N0 + 1), .ref (N0 + 2), .ref (N0 + 11), .ref (N0 + 13), .ref (N0 + 63), .ref (N0 + 65), .ref (N0 + 85), .int (-1), .int (-1), .int 32]))) : vx_Met l yX7_distance wsX7_distance ({ frames := 7, cells := 1, slots := 6, locals := 103 }) (va_Pc [.ref N0, .int a1, .int a2] (fP N0 D vwCl (fty cI cC cL cD cII cTr cTm cIt cB) (fen ql) F n)) (fNo N0 D vwCl (fty cI cC cL cD cII cTr cTm cIt cB) F n) (fXC N0 D vwCl (fty cI cC cL cD cII cTr cTm cIt cB) "java/lang/IndexOutOfBoundsException" F n) 1 6 (fA N0) := by
  refine fx_startX 5 rfl rfl (Nat.le_of_ble_eq_true rfl) ?_ rfl
  intro p e s m below meth c ls S htab hlocks hG hl
  have hl : lv_has ls 5 [(0, .ref N0), (1, .int a1), (2, .int a2)] := hl
  have lt_h0 := hG.1.lt h0
  refine lv_aload_n S.1 S.2.1 dX7_distance_0 rfl (lv_at hl 0 rfl) ?_
  refine lv_iload_n S.1 S.2.1 dX7_distance_1 rfl (lv_at hl 1 rfl) ?_
  refine fx_xV (As := [.int a1]) (rest := []) S hG (k18_X7_treeAt g_a1_le_m1 hst (by omega)) h0 rfl (cwV 1 S.2.2.2.2 gX7_distance_X7_treeAt rfl rfl rfl (by decide +kernel) ⟨Nat.le_of_ble_eq_true rfl, Nat.le_of_ble_eq_true rfl⟩) rfl hl.1 rfl (Nat.le_of_ble_eq_true rfl) dX7_distance_2 ⟨Nat.le_of_ble_eq_true rfl, Nat.le_of_ble_eq_true rfl⟩ (fun ceq_1 q_1 H locs n_2 hn_2 hG h1q_1 h2q_1 h3q_1 => ?_)
  exact fx_out htab hlocks hG (by omega) h1q_1 h2q_1 h3q_1 (by decide) (by decide)
theorem k1177_L_distance {n : Nat} {a1 : Int32} {a2 : Int32} (g_a1_le_m1 : a1 ≤ (-1)) (hst : l.stackTraces = false) (hn : N0 + 231 ≤ n) (h0 : F N0 = some (.inr (9, [.ref (N0 + 1), .ref (N0 + 2), .ref (N0 + 11), .ref (N0 + 13), .ref (N0 + 63), .ref (N0 + 65), .ref (N0 + 85), .int (-1), .int (-1), .int 32]))) : Met l yL_distance wsL_distance ({ frames := 8, cells := 1, slots := 6, locals := 127 }) (va_Pc [.ref N0, .int a1, .int a2, .ref (N0 + 229)] (fP N0 D vwCl (fty cI cC cL cD cII cTr cTm cIt cB) (fen ql) F n)) (fQi N0 D vwCl (fty cI cC cL cD cII cTr cTm cIt cB) (fun (r : Int32) (u : Nat) => r = 1 ∧ n ≤ u) (fun _ => F) (fun u => u)) 1 6 (fA N0) := by
  refine fx_startW (hh := [(0, 10, 13, 19)]) 5 rfl rfl (Nat.le_of_ble_eq_true rfl) ?_ rfl
  intro p e s m below meth c ls S htab hr hlocks hG hl
  have hl : lv_has ls 5 [(0, .ref N0), (1, .int a1), (2, .int a2), (3, .ref (N0 + 229))] := hl
  have lt_h0 := hG.1.lt h0
  refine lv_aload_n S.1 S.2.1 dL_distance_0 rfl (lv_at hl 3 rfl) ?_
  refine lv_iconst (v := 0) S.1 S.2.1 dL_distance_1 (by decide) ?_
  refine lv_aload_n S.1 S.2.1 dL_distance_2 rfl (lv_at hl 0 rfl) ?_
  refine lv_iload_n S.1 S.2.1 dL_distance_3 rfl (lv_at hl 1 rfl) ?_
  refine lv_iload_n S.1 S.2.1 dL_distance_4 rfl (lv_at hl 2 rfl) ?_
  refine fx_xV (As := [.int a1, .int a2]) (rest := [.int 0, .ref (N0 + 229)]) S hG (k1176_X7_distance g_a1_le_m1 hst (by omega) h0) h0 rfl (cwV 2 S.2.2.2.2 gL_distance_X7_distance rfl rfl rfl (by decide +kernel) ⟨Nat.le_of_ble_eq_true rfl, Nat.le_of_ble_eq_true rfl⟩) rfl hl.1 rfl (Nat.le_of_ble_eq_true rfl) dL_distance_5 ⟨Nat.le_of_ble_eq_true rfl, Nat.le_of_ble_eq_true rfl⟩ (fun ceq_1 q_1 H locs n_2 hn_2 hG h1q_1 h2q_1 h3q_1 => ?_)
  refine fx_catch (hh := [(0, 10, 13, 19)]) S htab hG h1q_1 h2q_1 h3q_1 [] ⟨0, 10, 13, 19⟩ [] rfl [] (fun z hz => absurd hz List.not_mem_nil) (by decide) (by decide) (by decide +kernel) (List.mem_of_getElem? (i := 2) rfl) ?_
  refine lv_astore (lv' := [(4, .ref q_1), (0, .ref N0), (1, .int a1), (2, .int a2), (3, .ref (N0 + 229))]) S.1 S.2.1 dL_distance_13 hl (by decide) rfl (fun ls hl => ?_)
  refine lv_iconst (v := 1) S.1 S.2.1 dL_distance_15 (by decide) ?_
  exact fx_iret S hr hlocks n_2 hG (⟨rfl, hn_2⟩) dL_distance_16
theorem k1178_X10_distance {n : Nat} {a1 : Int32} {a2 : Int32} (g_a1_le_m1 : a1 ≤ (-1)) (hn : N0 + 231 ≤ n) (h0 : F (N0 + 164) = some (.inr (12, [.ref (N0 + 165), .int 0, .ref (N0 + 181), .int 0, .int 0, .int 0, .int (-1), .ref (ql 24), .ref (N0 + 182), .ref (N0 + 187), .ref (N0 + 208), .ref (N0 + 209), .ref (N0 + 210), .ref (N0 + 211), .ref (N0 + 212), .int 0, .ref (N0 + 213), .ref (N0 + 218), .ref (N0 + 223), .ref (N0 + 224), .ref (N0 + 225), .ref (N0 + 226), .ref (N0 + 227), .int 0, .int 0, .ref (N0 + 228), .null, .int (-1), .int 0, .int 0, .int 0]))) : Met l yX10_distance wsX10_distance ({ frames := 3, cells := 0, slots := 0, locals := 64 }) (va_Pc [.ref (N0 + 164), .int a1, .int a2] (fP N0 D vwCl (fty cI cC cL cD cII cTr cTm cIt cB) (fen ql) F n)) (fQi N0 D vwCl (fty cI cC cL cD cII cTr cTm cIt cB) (fun (r : Int32) (_ : Unit) => r = 0) (fun _ => (fu F (N0 + 164) (.inr (12, [.ref (N0 + 165), .int 1, .ref (N0 + 181), .int 0, .int 0, .int 0, .int (-1), .ref (ql 24), .ref (N0 + 182), .ref (N0 + 187), .ref (N0 + 208), .ref (N0 + 209), .ref (N0 + 210), .ref (N0 + 211), .ref (N0 + 212), .int 0, .ref (N0 + 213), .ref (N0 + 218), .ref (N0 + 223), .ref (N0 + 224), .ref (N0 + 225), .ref (N0 + 226), .ref (N0 + 227), .int 0, .int 0, .ref (N0 + 228), .null, .int (-1), .int 0, .int 0, .int 0])))) (fun _ => n)) 0 0 (fA N0) := by
  refine fx_start 3 rfl rfl (Nat.le_of_ble_eq_true rfl) ?_ rfl
  intro p e s m below meth c ls S hr hlocks hin hG hl
  have hl : lv_has ls 3 [(0, .ref (N0 + 164)), (1, .int a1), (2, .int a2)] := hl
  have lt_h0 := hG.1.lt h0
  refine lv_aload_n S.1 S.2.1 dX10_distance_0 rfl (lv_at hl 0 rfl) ?_
  refine lv_iload_n S.1 S.2.1 dX10_distance_1 rfl (lv_at hl 1 rfl) ?_
  refine lv_iload_n S.1 S.2.1 dX10_distance_2 rfl (lv_at hl 2 rfl) ?_
  refine fx_cVi (As := [.int a1, .int a2]) (rest := []) S hG (k448_X10_areNone g_a1_le_m1 (by omega) h0) h0 rfl (cwV 2 S.2.2.2.2 gX10_distance_X10_areNone rfl rfl rfl (by decide +kernel) ⟨Nat.le_of_ble_eq_true rfl, Nat.le_of_ble_eq_true rfl⟩) rfl hl.1 rfl (Nat.le_of_ble_eq_true rfl) dX10_distance_3 ⟨Nat.le_of_ble_eq_true rfl, Nat.le_of_ble_eq_true rfl⟩ (fun rv_1 _ H locs hp hG => ?_)
  subst rv_1
  refine lv_if_eq (tgt := 13) S.1 S.2.1 dX10_distance_6 (by decide) (fun c => absurd c (by decide)) (fun _ => ?_)
  refine lv_iconst (v := 0) S.1 S.2.1 dX10_distance_9 (by decide) ?_
  refine lv_goto (tgt := 29) S.1 S.2.1 dX10_distance_10 (by decide) ?_
  exact fx_iret S hr hlocks () hG (rfl) dX10_distance_29
theorem k1179_X7_distance {n : Nat} {a2 : Int32} (g_a2_le_m1 : a2 ≤ (-1)) (hst : l.stackTraces = false) (hn : N0 + 231 ≤ n) (h0 : F N0 = some (.inr (9, [.ref (N0 + 1), .ref (N0 + 2), .ref (N0 + 11), .ref (N0 + 13), .ref (N0 + 63), .ref (N0 + 65), .ref (N0 + 85), .int (-1), .int (-1), .int 32]))) (h1 : F (N0 + 1) = some (.inl (cTr, 3, .inr (.inr (.inr (.inr (va_up (va_up (va_up (fun _ => none) 0 (some (N0 + 143))) 1 (some (N0 + 150))) 2 (some (N0 + 157))))))))) : vx_Met l yX7_distance wsX7_distance ({ frames := 7, cells := 1, slots := 6, locals := 103 }) (va_Pc [.ref N0, .int 0, .int a2] (fP N0 D vwCl (fty cI cC cL cD cII cTr cTm cIt cB) (fen ql) F n)) (fNo N0 D vwCl (fty cI cC cL cD cII cTr cTm cIt cB) F n) (fXC N0 D vwCl (fty cI cC cL cD cII cTr cTm cIt cB) "java/lang/IndexOutOfBoundsException" F n) 1 6 (fA N0) := by
  refine fx_startX 5 rfl rfl (Nat.le_of_ble_eq_true rfl) ?_ rfl
  intro p e s m below meth c ls S htab hlocks hG hl
  have hl : lv_has ls 5 [(0, .ref N0), (1, .int 0), (2, .int a2)] := hl
  have lt_h0 := hG.1.lt h0
  have lt_h1 := hG.1.lt h1
  refine lv_aload_n S.1 S.2.1 dX7_distance_0 rfl (lv_at hl 0 rfl) ?_
  refine lv_iload_n S.1 S.2.1 dX7_distance_1 rfl (lv_at hl 1 rfl) ?_
  refine fx_cVr (As := [.int 0]) (rest := []) S hG (k26_X7_treeAt (by omega) h0 h1) h0 rfl (cwV 1 S.2.2.2.2 gX7_distance_X7_treeAt rfl rfl rfl (by decide +kernel) ⟨Nat.le_of_ble_eq_true rfl, Nat.le_of_ble_eq_true rfl⟩) rfl hl.1 rfl (Nat.le_of_ble_eq_true rfl) dX7_distance_2 ⟨Nat.le_of_ble_eq_true rfl, Nat.le_of_ble_eq_true rfl⟩ (fun rv_1 _ H locs hp hG => ?_)
  subst rv_1
  refine lv_astore_n (lv' := [(3, .ref (N0 + 143)), (0, .ref N0), (1, .int 0), (2, .int a2)]) S.1 S.2.1 dX7_distance_5 rfl hl (by decide) rfl (fun ls hl => ?_)
  refine lv_aload_n S.1 S.2.1 dX7_distance_6 rfl (lv_at hl 1 rfl) ?_
  refine lv_iload_n S.1 S.2.1 dX7_distance_7 rfl (lv_at hl 3 rfl) ?_
  refine fx_xV (As := [.int a2]) (rest := []) S hG (k450_X7_treeAt g_a2_le_m1 hst (by omega)) h0 rfl (cwV 1 S.2.2.2.2 gX7_distance_X7_treeAt rfl rfl rfl (by decide +kernel) ⟨Nat.le_of_ble_eq_true rfl, Nat.le_of_ble_eq_true rfl⟩) rfl hl.1 rfl (Nat.le_of_ble_eq_true rfl) dX7_distance_8 ⟨Nat.le_of_ble_eq_true rfl, Nat.le_of_ble_eq_true rfl⟩ (fun ceq_2 q_2 H locs n_3 hn_3 hG h1q_2 h2q_2 h3q_2 => ?_)
  exact fx_out htab hlocks hG (by omega) h1q_2 h2q_2 h3q_2 (by decide) (by decide)
theorem k1180_L_distance {n : Nat} {a2 : Int32} (g_a2_le_m1 : a2 ≤ (-1)) (hst : l.stackTraces = false) (hn : N0 + 231 ≤ n) (h0 : F N0 = some (.inr (9, [.ref (N0 + 1), .ref (N0 + 2), .ref (N0 + 11), .ref (N0 + 13), .ref (N0 + 63), .ref (N0 + 65), .ref (N0 + 85), .int (-1), .int (-1), .int 32]))) (h1 : F (N0 + 1) = some (.inl (cTr, 3, .inr (.inr (.inr (.inr (va_up (va_up (va_up (fun _ => none) 0 (some (N0 + 143))) 1 (some (N0 + 150))) 2 (some (N0 + 157))))))))) : Met l yL_distance wsL_distance ({ frames := 8, cells := 1, slots := 6, locals := 127 }) (va_Pc [.ref N0, .int 0, .int a2, .ref (N0 + 229)] (fP N0 D vwCl (fty cI cC cL cD cII cTr cTm cIt cB) (fen ql) F n)) (fQi N0 D vwCl (fty cI cC cL cD cII cTr cTm cIt cB) (fun (r : Int32) (u : Nat) => r = 1 ∧ n ≤ u) (fun _ => F) (fun u => u)) 1 6 (fA N0) := by
  refine fx_startW (hh := [(0, 10, 13, 19)]) 5 rfl rfl (Nat.le_of_ble_eq_true rfl) ?_ rfl
  intro p e s m below meth c ls S htab hr hlocks hG hl
  have hl : lv_has ls 5 [(0, .ref N0), (1, .int 0), (2, .int a2), (3, .ref (N0 + 229))] := hl
  have lt_h0 := hG.1.lt h0
  have lt_h1 := hG.1.lt h1
  refine lv_aload_n S.1 S.2.1 dL_distance_0 rfl (lv_at hl 3 rfl) ?_
  refine lv_iconst (v := 0) S.1 S.2.1 dL_distance_1 (by decide) ?_
  refine lv_aload_n S.1 S.2.1 dL_distance_2 rfl (lv_at hl 0 rfl) ?_
  refine lv_iload_n S.1 S.2.1 dL_distance_3 rfl (lv_at hl 1 rfl) ?_
  refine lv_iload_n S.1 S.2.1 dL_distance_4 rfl (lv_at hl 2 rfl) ?_
  refine fx_xV (As := [.int 0, .int a2]) (rest := [.int 0, .ref (N0 + 229)]) S hG (k1179_X7_distance g_a2_le_m1 hst (by omega) h0 h1) h0 rfl (cwV 2 S.2.2.2.2 gL_distance_X7_distance rfl rfl rfl (by decide +kernel) ⟨Nat.le_of_ble_eq_true rfl, Nat.le_of_ble_eq_true rfl⟩) rfl hl.1 rfl (Nat.le_of_ble_eq_true rfl) dL_distance_5 ⟨Nat.le_of_ble_eq_true rfl, Nat.le_of_ble_eq_true rfl⟩ (fun ceq_1 q_1 H locs n_2 hn_2 hG h1q_1 h2q_1 h3q_1 => ?_)
  refine fx_catch (hh := [(0, 10, 13, 19)]) S htab hG h1q_1 h2q_1 h3q_1 [] ⟨0, 10, 13, 19⟩ [] rfl [] (fun z hz => absurd hz List.not_mem_nil) (by decide) (by decide) (by decide +kernel) (List.mem_of_getElem? (i := 2) rfl) ?_
  refine lv_astore (lv' := [(4, .ref q_1), (0, .ref N0), (1, .int 0), (2, .int a2), (3, .ref (N0 + 229))]) S.1 S.2.1 dL_distance_13 hl (by decide) rfl (fun ls hl => ?_)
  refine lv_iconst (v := 1) S.1 S.2.1 dL_distance_15 (by decide) ?_
  exact fx_iret S hr hlocks n_2 hG (⟨rfl, hn_2⟩) dL_distance_16
theorem k1181_X10_distance {n : Nat} {a2 : Int32} (g_a2_le_m1 : a2 ≤ (-1)) (hn : N0 + 231 ≤ n) (h0 : F (N0 + 164) = some (.inr (12, [.ref (N0 + 165), .int 0, .ref (N0 + 181), .int 0, .int 0, .int 0, .int (-1), .ref (ql 24), .ref (N0 + 182), .ref (N0 + 187), .ref (N0 + 208), .ref (N0 + 209), .ref (N0 + 210), .ref (N0 + 211), .ref (N0 + 212), .int 0, .ref (N0 + 213), .ref (N0 + 218), .ref (N0 + 223), .ref (N0 + 224), .ref (N0 + 225), .ref (N0 + 226), .ref (N0 + 227), .int 0, .int 0, .ref (N0 + 228), .null, .int (-1), .int 0, .int 0, .int 0]))) : Met l yX10_distance wsX10_distance ({ frames := 3, cells := 0, slots := 0, locals := 64 }) (va_Pc [.ref (N0 + 164), .int 0, .int a2] (fP N0 D vwCl (fty cI cC cL cD cII cTr cTm cIt cB) (fen ql) F n)) (fQi N0 D vwCl (fty cI cC cL cD cII cTr cTm cIt cB) (fun (r : Int32) (_ : Unit) => r = 0) (fun _ => (fu F (N0 + 164) (.inr (12, [.ref (N0 + 165), .int 1, .ref (N0 + 181), .int 0, .int 0, .int 0, .int (-1), .ref (ql 24), .ref (N0 + 182), .ref (N0 + 187), .ref (N0 + 208), .ref (N0 + 209), .ref (N0 + 210), .ref (N0 + 211), .ref (N0 + 212), .int 0, .ref (N0 + 213), .ref (N0 + 218), .ref (N0 + 223), .ref (N0 + 224), .ref (N0 + 225), .ref (N0 + 226), .ref (N0 + 227), .int 0, .int 0, .ref (N0 + 228), .null, .int (-1), .int 0, .int 0, .int 0])))) (fun _ => n)) 0 0 (fA N0) := by
  refine fx_start 3 rfl rfl (Nat.le_of_ble_eq_true rfl) ?_ rfl
  intro p e s m below meth c ls S hr hlocks hin hG hl
  have hl : lv_has ls 3 [(0, .ref (N0 + 164)), (1, .int 0), (2, .int a2)] := hl
  have lt_h0 := hG.1.lt h0
  refine lv_aload_n S.1 S.2.1 dX10_distance_0 rfl (lv_at hl 0 rfl) ?_
  refine lv_iload_n S.1 S.2.1 dX10_distance_1 rfl (lv_at hl 1 rfl) ?_
  refine lv_iload_n S.1 S.2.1 dX10_distance_2 rfl (lv_at hl 2 rfl) ?_
  refine fx_cVi (As := [.int 0, .int a2]) (rest := []) S hG (k455_X10_areNone g_a2_le_m1 (by omega) h0) h0 rfl (cwV 2 S.2.2.2.2 gX10_distance_X10_areNone rfl rfl rfl (by decide +kernel) ⟨Nat.le_of_ble_eq_true rfl, Nat.le_of_ble_eq_true rfl⟩) rfl hl.1 rfl (Nat.le_of_ble_eq_true rfl) dX10_distance_3 ⟨Nat.le_of_ble_eq_true rfl, Nat.le_of_ble_eq_true rfl⟩ (fun rv_1 _ H locs hp hG => ?_)
  subst rv_1
  refine lv_if_eq (tgt := 13) S.1 S.2.1 dX10_distance_6 (by decide) (fun c => absurd c (by decide)) (fun _ => ?_)
  refine lv_iconst (v := 0) S.1 S.2.1 dX10_distance_9 (by decide) ?_
  refine lv_goto (tgt := 29) S.1 S.2.1 dX10_distance_10 (by decide) ?_
  exact fx_iret S hr hlocks () hG (rfl) dX10_distance_29
theorem i_X5_listWidths_X5 : ∀ w ∈ u_ws RX5 TX5 7, w ∈ wsX5_listWidths := by decide +kernel
theorem k1182_X5_listWidths {n : Nat} (hn : N0 + 231 ≤ n) (h0 : F (N0 + 143) = some (.inr (7, [.ref (N0 + 144), .ref (N0 + 145), .ref (N0 + 146), .ref (N0 + 147), .ref (N0 + 148), .ref (N0 + 149), .int 1]))) (h1 : F (N0 + 57) = some (.inl (cI, 20, .inl (fun _ => 0)))) : Met l yX5_listWidths wsX5_listWidths ({ frames := 1, cells := 0, slots := 0, locals := 22 }) (va_Pc [.ref (N0 + 143), .ref (N0 + 57)] (fP N0 D vwCl (fty cI cC cL cD cII cTr cTm cIt cB) (fen ql) F n)) (fQv N0 D vwCl (fty cI cC cL cD cII cTr cTm cIt cB) (fun (_ : Unit) => True) (fun _ => (fu F (N0 + 57) (.inl (cI, 20, .inl (upd (fun _ => 0) 0 1))))) (fun _ => n)) 0 0 (fA N0) := by
  refine fx_start 3 rfl rfl (Nat.le_of_ble_eq_true rfl) ?_ rfl
  intro p e s m below meth c ls S hr hlocks hin hG hl
  have hl : lv_has ls 3 [(0, .ref (N0 + 143)), (1, .ref (N0 + 57))] := hl
  have lt_h0 := hG.1.lt h0
  have lt_h1 := hG.1.lt h1
  refine lv_iconst (v := 0) S.1 S.2.1 dX5_listWidths_0 (by decide) ?_
  refine lv_istore_n (lv' := [(2, .int 0), (0, .ref (N0 + 143)), (1, .ref (N0 + 57))]) S.1 S.2.1 dX5_listWidths_1 rfl hl (by decide) rfl (fun ls hl => ?_)
  refine lv_iload_n S.1 S.2.1 dX5_listWidths_2 rfl (lv_at hl 0 rfl) ?_
  refine lv_aload_n S.1 S.2.1 dX5_listWidths_3 rfl (lv_at hl 1 rfl) ?_
  refine gx_get (C := RX5) (T := TX5) (N := 7) S hG h0 i_X5_listWidths_X5 rfl 6 (by decide) (by decide +kernel) rfl dX5_listWidths_4 ?_
  refine lv_icmp_ge (tgt := 30) S.1 S.2.1 dX5_listWidths_7 (by decide) (fun c => absurd c (by decide)) (fun _ => ?_)
  refine lv_iload_n S.1 S.2.1 dX5_listWidths_10 rfl (lv_at hl 0 rfl) ?_
  refine lv_aload_n S.1 S.2.1 dX5_listWidths_11 rfl (lv_at hl 2 rfl) ?_
  refine gx_alen (v := 20) S hG 0 h1 rfl (rfl) dX5_listWidths_12 ?_
  refine lv_icmp_ge (tgt := 30) S.1 S.2.1 dX5_listWidths_13 (by decide) (fun c => absurd c (by decide)) (fun _ => ?_)
  refine lv_aload_n S.1 S.2.1 dX5_listWidths_16 rfl (lv_at hl 2 rfl) ?_
  refine lv_iload_n S.1 S.2.1 dX5_listWidths_17 rfl (lv_at hl 0 rfl) ?_
  refine lv_aload_n S.1 S.2.1 dX5_listWidths_18 rfl (lv_at hl 1 rfl) ?_
  refine lv_iload_n S.1 S.2.1 dX5_listWidths_19 rfl (lv_at hl 0 rfl) ?_
  refine fx_cVi (As := [.int 0]) (rest := [.int 0, .ref (N0 + 57)]) S hG (k104_X5_widthOf (by omega) h0) h0 rfl (cwV 1 S.2.2.2.2 gX5_listWidths_X5_widthOf rfl rfl rfl (by decide +kernel) ⟨Nat.le_of_ble_eq_true rfl, Nat.le_of_ble_eq_true rfl⟩) rfl hl.1 rfl (Nat.le_of_ble_eq_true rfl) dX5_listWidths_20 ⟨Nat.le_of_ble_eq_true rfl, Nat.le_of_ble_eq_true rfl⟩ (fun rv_1 _ H locs hp hG => ?_)
  subst rv_1
  refine gx_iast (f' := upd (fun _ => 0) 0 1) S hG 0 h1 rfl (fin_l (by decide)) dX5_listWidths_23 (rfl) (fun H locs hG => ?_)
  refine lv_iinc (v := 1) (lv' := [(2, .int 1), (0, .ref (N0 + 143)), (1, .ref (N0 + 57))]) S.1 S.2.1 dX5_listWidths_24 hl (k := 0) rfl (by decide) (by decide) rfl (fun ls hl => ?_)
  refine lv_goto (tgt := 2) S.1 S.2.1 dX5_listWidths_27 (by decide) ?_
  refine lv_iload_n S.1 S.2.1 dX5_listWidths_2 rfl (lv_at hl 0 rfl) ?_
  refine lv_aload_n S.1 S.2.1 dX5_listWidths_3 rfl (lv_at hl 1 rfl) ?_
  refine gx_get (C := RX5) (T := TX5) (N := 7) S hG (fu_at (by omega) h0) i_X5_listWidths_X5 rfl 6 (by decide) (by decide +kernel) rfl dX5_listWidths_4 ?_
  refine lv_icmp_ge (tgt := 30) S.1 S.2.1 dX5_listWidths_7 (by decide) (fun _ => ?_) (fun c => absurd (by decide) c)
  exact fx_vret S hr hlocks () hG trivial dX5_listWidths_30
theorem k1183_X5_listWidths {n : Nat} (hn : N0 + 231 ≤ n) (h0 : F (N0 + 143) = some (.inr (7, [.ref (N0 + 144), .ref (N0 + 145), .ref (N0 + 146), .ref (N0 + 147), .ref (N0 + 148), .ref (N0 + 149), .int 1]))) (h1 : F (N0 + 58) = some (.inl (cI, 20, .inl (fun _ => 0)))) : Met l yX5_listWidths wsX5_listWidths ({ frames := 1, cells := 0, slots := 0, locals := 22 }) (va_Pc [.ref (N0 + 143), .ref (N0 + 58)] (fP N0 D vwCl (fty cI cC cL cD cII cTr cTm cIt cB) (fen ql) F n)) (fQv N0 D vwCl (fty cI cC cL cD cII cTr cTm cIt cB) (fun (_ : Unit) => True) (fun _ => (fu F (N0 + 58) (.inl (cI, 20, .inl (upd (fun _ => 0) 0 1))))) (fun _ => n)) 0 0 (fA N0) := by
  refine fx_start 3 rfl rfl (Nat.le_of_ble_eq_true rfl) ?_ rfl
  intro p e s m below meth c ls S hr hlocks hin hG hl
  have hl : lv_has ls 3 [(0, .ref (N0 + 143)), (1, .ref (N0 + 58))] := hl
  have lt_h0 := hG.1.lt h0
  have lt_h1 := hG.1.lt h1
  refine lv_iconst (v := 0) S.1 S.2.1 dX5_listWidths_0 (by decide) ?_
  refine lv_istore_n (lv' := [(2, .int 0), (0, .ref (N0 + 143)), (1, .ref (N0 + 58))]) S.1 S.2.1 dX5_listWidths_1 rfl hl (by decide) rfl (fun ls hl => ?_)
  refine lv_iload_n S.1 S.2.1 dX5_listWidths_2 rfl (lv_at hl 0 rfl) ?_
  refine lv_aload_n S.1 S.2.1 dX5_listWidths_3 rfl (lv_at hl 1 rfl) ?_
  refine gx_get (C := RX5) (T := TX5) (N := 7) S hG h0 i_X5_listWidths_X5 rfl 6 (by decide) (by decide +kernel) rfl dX5_listWidths_4 ?_
  refine lv_icmp_ge (tgt := 30) S.1 S.2.1 dX5_listWidths_7 (by decide) (fun c => absurd c (by decide)) (fun _ => ?_)
  refine lv_iload_n S.1 S.2.1 dX5_listWidths_10 rfl (lv_at hl 0 rfl) ?_
  refine lv_aload_n S.1 S.2.1 dX5_listWidths_11 rfl (lv_at hl 2 rfl) ?_
  refine gx_alen (v := 20) S hG 0 h1 rfl (rfl) dX5_listWidths_12 ?_
  refine lv_icmp_ge (tgt := 30) S.1 S.2.1 dX5_listWidths_13 (by decide) (fun c => absurd c (by decide)) (fun _ => ?_)
  refine lv_aload_n S.1 S.2.1 dX5_listWidths_16 rfl (lv_at hl 2 rfl) ?_
  refine lv_iload_n S.1 S.2.1 dX5_listWidths_17 rfl (lv_at hl 0 rfl) ?_
  refine lv_aload_n S.1 S.2.1 dX5_listWidths_18 rfl (lv_at hl 1 rfl) ?_
  refine lv_iload_n S.1 S.2.1 dX5_listWidths_19 rfl (lv_at hl 0 rfl) ?_
  refine fx_cVi (As := [.int 0]) (rest := [.int 0, .ref (N0 + 58)]) S hG (k104_X5_widthOf (by omega) h0) h0 rfl (cwV 1 S.2.2.2.2 gX5_listWidths_X5_widthOf rfl rfl rfl (by decide +kernel) ⟨Nat.le_of_ble_eq_true rfl, Nat.le_of_ble_eq_true rfl⟩) rfl hl.1 rfl (Nat.le_of_ble_eq_true rfl) dX5_listWidths_20 ⟨Nat.le_of_ble_eq_true rfl, Nat.le_of_ble_eq_true rfl⟩ (fun rv_1 _ H locs hp hG => ?_)
  subst rv_1
  refine gx_iast (f' := upd (fun _ => 0) 0 1) S hG 0 h1 rfl (fin_l (by decide)) dX5_listWidths_23 (rfl) (fun H locs hG => ?_)
  refine lv_iinc (v := 1) (lv' := [(2, .int 1), (0, .ref (N0 + 143)), (1, .ref (N0 + 58))]) S.1 S.2.1 dX5_listWidths_24 hl (k := 0) rfl (by decide) (by decide) rfl (fun ls hl => ?_)
  refine lv_goto (tgt := 2) S.1 S.2.1 dX5_listWidths_27 (by decide) ?_
  refine lv_iload_n S.1 S.2.1 dX5_listWidths_2 rfl (lv_at hl 0 rfl) ?_
  refine lv_aload_n S.1 S.2.1 dX5_listWidths_3 rfl (lv_at hl 1 rfl) ?_
  refine gx_get (C := RX5) (T := TX5) (N := 7) S hG (fu_at (by omega) h0) i_X5_listWidths_X5 rfl 6 (by decide) (by decide +kernel) rfl dX5_listWidths_4 ?_
  refine lv_icmp_ge (tgt := 30) S.1 S.2.1 dX5_listWidths_7 (by decide) (fun _ => ?_) (fun c => absurd (by decide) c)
  exact fx_vret S hr hlocks () hG trivial dX5_listWidths_30
theorem i_X5_listChildren_X5 : ∀ w ∈ u_ws RX5 TX5 7, w ∈ wsX5_listChildren := by decide +kernel
theorem k1184_X5_listChildren {n : Nat} (hn : N0 + 231 ≤ n) (h0 : F (N0 + 143) = some (.inr (7, [.ref (N0 + 144), .ref (N0 + 145), .ref (N0 + 146), .ref (N0 + 147), .ref (N0 + 148), .ref (N0 + 149), .int 1]))) : Met l yX5_listChildren wsX5_listChildren ({ frames := 0, cells := 0, slots := 0, locals := 0 }) (va_Pc [.ref (N0 + 143), .int 0, .ref (N0 + 59)] (fP N0 D vwCl (fty cI cC cL cD cII cTr cTm cIt cB) (fen ql) F n)) (fQi N0 D vwCl (fty cI cC cL cD cII cTr cTm cIt cB) (fun (r : Int32) (_ : Unit) => r = 0) (fun _ => F) (fun _ => n)) 0 0 (fA N0) := by
  refine fx_start 5 rfl rfl (Nat.le_of_ble_eq_true rfl) ?_ rfl
  intro p e s m below meth c ls S hr hlocks hin hG hl
  have hl : lv_has ls 5 [(0, .ref (N0 + 143)), (1, .int 0), (2, .ref (N0 + 59))] := hl
  have lt_h0 := hG.1.lt h0
  refine lv_iconst (v := 0) S.1 S.2.1 dX5_listChildren_0 (by decide) ?_
  refine lv_istore_n (lv' := [(3, .int 0), (0, .ref (N0 + 143)), (1, .int 0), (2, .ref (N0 + 59))]) S.1 S.2.1 dX5_listChildren_1 rfl hl (by decide) rfl (fun ls hl => ?_)
  refine lv_iload_n S.1 S.2.1 dX5_listChildren_2 rfl (lv_at hl 2 rfl) ?_
  refine lv_iconst (v := 1) S.1 S.2.1 dX5_listChildren_3 (by decide) ?_
  refine lv_iadd S.1 S.2.1 dX5_listChildren_4 ?_
  refine fx_topi (y := 1) (by decide) ?_
  refine lv_istore (lv' := [(4, .int 1), (3, .int 0), (0, .ref (N0 + 143)), (1, .int 0), (2, .ref (N0 + 59))]) S.1 S.2.1 dX5_listChildren_5 hl (by decide) rfl (fun ls hl => ?_)
  refine lv_iload S.1 S.2.1 dX5_listChildren_7 (lv_at hl 0 rfl) ?_
  refine lv_aload_n S.1 S.2.1 dX5_listChildren_9 rfl (lv_at hl 2 rfl) ?_
  refine gx_get (C := RX5) (T := TX5) (N := 7) S hG h0 i_X5_listChildren_X5 rfl 6 (by decide) (by decide +kernel) rfl dX5_listChildren_10 ?_
  refine lv_icmp_ge (tgt := 47) S.1 S.2.1 dX5_listChildren_13 (by decide) (fun _ => ?_) (fun c => absurd (by decide) c)
  refine lv_iload_n S.1 S.2.1 dX5_listChildren_47 rfl (lv_at hl 1 rfl) ?_
  exact fx_iret S hr hlocks () hG (rfl) dX5_listChildren_48
theorem k1185_X5_listChildren {n : Nat} (hn : N0 + 231 ≤ n) (h0 : F (N0 + 143) = some (.inr (7, [.ref (N0 + 144), .ref (N0 + 145), .ref (N0 + 146), .ref (N0 + 147), .ref (N0 + 148), .ref (N0 + 149), .int 1]))) : Met l yX5_listChildren wsX5_listChildren ({ frames := 0, cells := 0, slots := 0, locals := 0 }) (va_Pc [.ref (N0 + 143), .int 0, .ref (N0 + 60)] (fP N0 D vwCl (fty cI cC cL cD cII cTr cTm cIt cB) (fen ql) F n)) (fQi N0 D vwCl (fty cI cC cL cD cII cTr cTm cIt cB) (fun (r : Int32) (_ : Unit) => r = 0) (fun _ => F) (fun _ => n)) 0 0 (fA N0) := by
  refine fx_start 5 rfl rfl (Nat.le_of_ble_eq_true rfl) ?_ rfl
  intro p e s m below meth c ls S hr hlocks hin hG hl
  have hl : lv_has ls 5 [(0, .ref (N0 + 143)), (1, .int 0), (2, .ref (N0 + 60))] := hl
  have lt_h0 := hG.1.lt h0
  refine lv_iconst (v := 0) S.1 S.2.1 dX5_listChildren_0 (by decide) ?_
  refine lv_istore_n (lv' := [(3, .int 0), (0, .ref (N0 + 143)), (1, .int 0), (2, .ref (N0 + 60))]) S.1 S.2.1 dX5_listChildren_1 rfl hl (by decide) rfl (fun ls hl => ?_)
  refine lv_iload_n S.1 S.2.1 dX5_listChildren_2 rfl (lv_at hl 2 rfl) ?_
  refine lv_iconst (v := 1) S.1 S.2.1 dX5_listChildren_3 (by decide) ?_
  refine lv_iadd S.1 S.2.1 dX5_listChildren_4 ?_
  refine fx_topi (y := 1) (by decide) ?_
  refine lv_istore (lv' := [(4, .int 1), (3, .int 0), (0, .ref (N0 + 143)), (1, .int 0), (2, .ref (N0 + 60))]) S.1 S.2.1 dX5_listChildren_5 hl (by decide) rfl (fun ls hl => ?_)
  refine lv_iload S.1 S.2.1 dX5_listChildren_7 (lv_at hl 0 rfl) ?_
  refine lv_aload_n S.1 S.2.1 dX5_listChildren_9 rfl (lv_at hl 2 rfl) ?_
  refine gx_get (C := RX5) (T := TX5) (N := 7) S hG h0 i_X5_listChildren_X5 rfl 6 (by decide) (by decide +kernel) rfl dX5_listChildren_10 ?_
  refine lv_icmp_ge (tgt := 47) S.1 S.2.1 dX5_listChildren_13 (by decide) (fun _ => ?_) (fun c => absurd (by decide) c)
  refine lv_iload_n S.1 S.2.1 dX5_listChildren_47 rfl (lv_at hl 1 rfl) ?_
  exact fx_iret S hr hlocks () hG (rfl) dX5_listChildren_48
theorem i_X1_restCost_X1 : ∀ w ∈ u_ws RX1 TX1 10, w ∈ wsX1_restCost := by decide +kernel
theorem k1186_X1_restCost {n : Nat} (hn : N0 + 231 ≤ n) (h0 : F (N0 + 13) = some (.inr (3, [.ref (N0 + 14), .ref (N0 + 35), .ref (N0 + 57), .ref (N0 + 58), .ref (N0 + 59), .ref (N0 + 60), .int 0, .int 0, .ref (N0 + 61), .ref (N0 + 62)]))) : Met l yX1_restCost wsX1_restCost ({ frames := 0, cells := 0, slots := 0, locals := 0 }) (va_Pc [.ref (N0 + 13), .ref (N0 + 143), .ref (N0 + 143), .int 0, .int 0] (fP N0 D vwCl (fty cI cC cL cD cII cTr cTm cIt cB) (fen ql) F n)) (fQi N0 D vwCl (fty cI cC cL cD cII cTr cTm cIt cB) (fun (r : Int32) (_ : Unit) => r = 0) (fun _ => F) (fun _ => n)) 0 0 (fA N0) := by
  refine fx_start 6 rfl rfl (Nat.le_of_ble_eq_true rfl) ?_ rfl
  intro p e s m below meth c ls S hr hlocks hin hG hl
  have hl : lv_has ls 6 [(0, .ref (N0 + 13)), (1, .ref (N0 + 143)), (2, .ref (N0 + 143)), (3, .int 0), (4, .int 0)] := hl
  have lt_h0 := hG.1.lt h0
  refine lv_iload_n S.1 S.2.1 dX1_restCost_0 rfl (lv_at hl 3 rfl) ?_
  refine lv_aload_n S.1 S.2.1 dX1_restCost_1 rfl (lv_at hl 0 rfl) ?_
  refine gx_get (C := RX1) (T := TX1) (N := 10) S hG h0 i_X1_restCost_X1 rfl 6 (by decide) (by decide +kernel) rfl dX1_restCost_2 ?_
  refine lv_icmp_ne (tgt := 29) S.1 S.2.1 dX1_restCost_5 (by decide) (fun c => absurd (by decide) c) (fun _ => ?_)
  refine lv_iload S.1 S.2.1 dX1_restCost_8 (lv_at hl 4 rfl) ?_
  refine lv_aload_n S.1 S.2.1 dX1_restCost_10 rfl (lv_at hl 0 rfl) ?_
  refine gx_get (C := RX1) (T := TX1) (N := 10) S hG h0 i_X1_restCost_X1 rfl 7 (by decide) (by decide +kernel) rfl dX1_restCost_11 ?_
  refine lv_icmp_ne (tgt := 21) S.1 S.2.1 dX1_restCost_14 (by decide) (fun c => absurd (by decide) c) (fun _ => ?_)
  refine lv_iconst (v := 0) S.1 S.2.1 dX1_restCost_17 (by decide) ?_
  refine lv_goto (tgt := 28) S.1 S.2.1 dX1_restCost_18 (by decide) ?_
  exact fx_iret S hr hlocks () hG (rfl) dX1_restCost_28
theorem i_X1_fillRestCosts_X1 : ∀ w ∈ u_ws RX1 TX1 10, w ∈ wsX1_fillRestCosts := by decide +kernel
theorem k1187_X1_fillRestCosts {n : Nat} (hn : N0 + 231 ≤ n) (h0 : F (N0 + 13) = some (.inr (3, [.ref (N0 + 14), .ref (N0 + 35), .ref (N0 + 57), .ref (N0 + 58), .ref (N0 + 59), .ref (N0 + 60), .int 0, .int 0, .ref (N0 + 61), .ref (N0 + 62)]))) (h1 : F (N0 + 35) = some (.inl (cII, 21, .inr (.inr (.inr (.inr (fun j => if j < 21 then some ((N0 + 36) + j) else none))))))) (h2 : F (N0 + 36) = some (.inl (cI, 21, .inl (fun _ => 0)))) : Met l yX1_fillRestCosts wsX1_fillRestCosts ({ frames := 1, cells := 0, slots := 0, locals := 25 }) (va_Pc [.ref (N0 + 13), .ref (N0 + 143), .ref (N0 + 143)] (fP N0 D vwCl (fty cI cC cL cD cII cTr cTm cIt cB) (fen ql) F n)) (fQv N0 D vwCl (fty cI cC cL cD cII cTr cTm cIt cB) (fun (_ : Unit) => True) (fun _ => (fu F (N0 + 36) (.inl (cI, 21, .inl (upd (fun _ => 0) 0 0))))) (fun _ => n)) 0 0 (fA N0) := by
  refine fx_start 5 rfl rfl (Nat.le_of_ble_eq_true rfl) ?_ rfl
  intro p e s m below meth c ls S hr hlocks hin hG hl
  have hl : lv_has ls 5 [(0, .ref (N0 + 13)), (1, .ref (N0 + 143)), (2, .ref (N0 + 143))] := hl
  have lt_h0 := hG.1.lt h0
  have lt_h1 := hG.1.lt h1
  have lt_h2 := hG.1.lt h2
  refine lv_aload_n S.1 S.2.1 dX1_fillRestCosts_0 rfl (lv_at hl 0 rfl) ?_
  refine gx_get (C := RX1) (T := TX1) (N := 10) S hG h0 i_X1_fillRestCosts_X1 rfl 6 (by decide) (by decide +kernel) rfl dX1_fillRestCosts_1 ?_
  refine lv_istore_n (lv' := [(3, .int 0), (0, .ref (N0 + 13)), (1, .ref (N0 + 143)), (2, .ref (N0 + 143))]) S.1 S.2.1 dX1_fillRestCosts_4 rfl hl (by decide) rfl (fun ls hl => ?_)
  refine lv_iload_n S.1 S.2.1 dX1_fillRestCosts_5 rfl (lv_at hl 0 rfl) ?_
  refine lv_if_lt (tgt := 50) S.1 S.2.1 dX1_fillRestCosts_6 (by decide) (fun c => absurd c (by decide)) (fun _ => ?_)
  refine lv_aload_n S.1 S.2.1 dX1_fillRestCosts_9 rfl (lv_at hl 1 rfl) ?_
  refine gx_get (C := RX1) (T := TX1) (N := 10) S hG h0 i_X1_fillRestCosts_X1 rfl 7 (by decide) (by decide +kernel) rfl dX1_fillRestCosts_10 ?_
  refine lv_istore (lv' := [(4, .int 0), (3, .int 0), (0, .ref (N0 + 13)), (1, .ref (N0 + 143)), (2, .ref (N0 + 143))]) S.1 S.2.1 dX1_fillRestCosts_13 hl (by decide) rfl (fun ls hl => ?_)
  refine lv_iload S.1 S.2.1 dX1_fillRestCosts_15 (lv_at hl 0 rfl) ?_
  refine lv_if_lt (tgt := 44) S.1 S.2.1 dX1_fillRestCosts_17 (by decide) (fun c => absurd c (by decide)) (fun _ => ?_)
  refine lv_aload_n S.1 S.2.1 dX1_fillRestCosts_20 rfl (lv_at hl 2 rfl) ?_
  refine gx_get (C := RX1) (T := TX1) (N := 10) S hG h0 i_X1_fillRestCosts_X1 rfl 1 (by decide) (by decide +kernel) rfl dX1_fillRestCosts_21 ?_
  refine lv_iload_n S.1 S.2.1 dX1_fillRestCosts_24 rfl (lv_at hl 1 rfl) ?_
  refine gx_aldq (x := (N0 + 36)) S hG 4 rfl h1 rfl (fin_l (by decide)) (rfl) dX1_fillRestCosts_25 ?_
  refine lv_iload S.1 S.2.1 dX1_fillRestCosts_26 (lv_at hl 0 rfl) ?_
  refine lv_aload_n S.1 S.2.1 dX1_fillRestCosts_28 rfl (lv_at hl 2 rfl) ?_
  refine lv_aload_n S.1 S.2.1 dX1_fillRestCosts_29 rfl (lv_at hl 3 rfl) ?_
  refine lv_aload_n S.1 S.2.1 dX1_fillRestCosts_30 rfl (lv_at hl 4 rfl) ?_
  refine lv_iload_n S.1 S.2.1 dX1_fillRestCosts_31 rfl (lv_at hl 1 rfl) ?_
  refine lv_iload S.1 S.2.1 dX1_fillRestCosts_32 (lv_at hl 0 rfl) ?_
  refine fx_cVi (As := [.ref (N0 + 143), .ref (N0 + 143), .int 0, .int 0]) (rest := [.int 0, .ref (N0 + 36)]) S hG (k1186_X1_restCost (by omega) h0) h0 rfl (cwV 4 S.2.2.2.2 gX1_fillRestCosts_X1_restCost rfl rfl rfl (by decide +kernel) ⟨Nat.le_of_ble_eq_true rfl, Nat.le_of_ble_eq_true rfl⟩) rfl hl.1 rfl (Nat.le_of_ble_eq_true rfl) dX1_fillRestCosts_34 ⟨Nat.le_of_ble_eq_true rfl, Nat.le_of_ble_eq_true rfl⟩ (fun rv_1 _ H locs hp hG => ?_)
  subst rv_1
  refine gx_iast (f' := upd (fun _ => 0) 0 0) S hG 0 h2 rfl (fin_l (by decide)) dX1_fillRestCosts_37 (rfl) (fun H locs hG => ?_)
  refine lv_iinc (v := (-1)) (lv' := [(4, .int (-1)), (3, .int 0), (0, .ref (N0 + 13)), (1, .ref (N0 + 143)), (2, .ref (N0 + 143))]) S.1 S.2.1 dX1_fillRestCosts_38 hl (k := 0) rfl (by decide) (by decide) rfl (fun ls hl => ?_)
  refine lv_goto (tgt := 15) S.1 S.2.1 dX1_fillRestCosts_41 (by decide) ?_
  refine lv_iload S.1 S.2.1 dX1_fillRestCosts_15 (lv_at hl 0 rfl) ?_
  refine lv_if_lt (tgt := 44) S.1 S.2.1 dX1_fillRestCosts_17 (by decide) (fun _ => ?_) (fun c => absurd (by decide) c)
  refine lv_iinc (v := (-1)) (lv' := [(3, .int (-1)), (4, .int (-1)), (0, .ref (N0 + 13)), (1, .ref (N0 + 143)), (2, .ref (N0 + 143))]) S.1 S.2.1 dX1_fillRestCosts_44 hl (k := 1) rfl (by decide) (by decide) rfl (fun ls hl => ?_)
  refine lv_goto (tgt := 5) S.1 S.2.1 dX1_fillRestCosts_47 (by decide) ?_
  refine lv_iload_n S.1 S.2.1 dX1_fillRestCosts_5 rfl (lv_at hl 0 rfl) ?_
  refine lv_if_lt (tgt := 50) S.1 S.2.1 dX1_fillRestCosts_6 (by decide) (fun _ => ?_) (fun c => absurd (by decide) c)
  exact fx_vret S hr hlocks () hG trivial dX1_fillRestCosts_50
theorem i_X7_changeCost_X5 : ∀ w ∈ u_ws RX5 TX5 7, w ∈ wsX7_changeCost := by decide +kernel
theorem k1188_X7_changeCost {n : Nat} (hn : N0 + 231 ≤ n) (h0 : F (N0 + 143) = some (.inr (7, [.ref (N0 + 144), .ref (N0 + 145), .ref (N0 + 146), .ref (N0 + 147), .ref (N0 + 148), .ref (N0 + 149), .int 1]))) (h1 : F (N0 + 144) = some (.inl (cC, 20, .inl (upd (fun _ => 0) 0 97)))) (h2 : F (N0 + 146) = some (.inl (cI, 20, .inl (fun _ => 0)))) : Met l yX7_changeCost wsX7_changeCost ({ frames := 0, cells := 0, slots := 0, locals := 0 }) (va_Pc [.ref (N0 + 143), .int 0, .ref (N0 + 143), .int 0] (fP N0 D vwCl (fty cI cC cL cD cII cTr cTm cIt cB) (fen ql) F n)) (fQi N0 D vwCl (fty cI cC cL cD cII cTr cTm cIt cB) (fun (r : Int32) (_ : Unit) => r = 0) (fun _ => F) (fun _ => n)) 0 0 (fA N0) := by
  refine fx_start 5 rfl rfl (Nat.le_of_ble_eq_true rfl) ?_ rfl
  intro p e s m below meth c ls S hr hlocks hin hG hl
  have hl : lv_has ls 5 [(0, .ref (N0 + 143)), (1, .int 0), (2, .ref (N0 + 143)), (3, .int 0)] := hl
  have lt_h0 := hG.1.lt h0
  have lt_h1 := hG.1.lt h1
  have lt_h2 := hG.1.lt h2
  refine lv_iconst (v := 0) S.1 S.2.1 dX7_changeCost_0 (by decide) ?_
  refine lv_istore (lv' := [(4, .int 0), (0, .ref (N0 + 143)), (1, .int 0), (2, .ref (N0 + 143)), (3, .int 0)]) S.1 S.2.1 dX7_changeCost_1 hl (by decide) rfl (fun ls hl => ?_)
  refine lv_aload_n S.1 S.2.1 dX7_changeCost_3 rfl (lv_at hl 1 rfl) ?_
  refine gx_get (C := RX5) (T := TX5) (N := 7) S hG h0 i_X7_changeCost_X5 rfl 0 (by decide) (by decide +kernel) rfl dX7_changeCost_4 ?_
  refine lv_iload_n S.1 S.2.1 dX7_changeCost_7 rfl (lv_at hl 2 rfl) ?_
  refine gx_cald (v := 97) S hG 1 h1 rfl (fin_l (by decide)) (by decide) dX7_changeCost_8 ?_
  refine lv_aload_n S.1 S.2.1 dX7_changeCost_9 rfl (lv_at hl 3 rfl) ?_
  refine gx_get (C := RX5) (T := TX5) (N := 7) S hG h0 i_X7_changeCost_X5 rfl 0 (by decide) (by decide +kernel) rfl dX7_changeCost_10 ?_
  refine lv_iload_n S.1 S.2.1 dX7_changeCost_13 rfl (lv_at hl 4 rfl) ?_
  refine gx_cald (v := 97) S hG 1 h1 rfl (fin_l (by decide)) (by decide) dX7_changeCost_14 ?_
  refine lv_icmp_eq (tgt := 21) S.1 S.2.1 dX7_changeCost_15 (by decide) (fun _ => ?_) (fun c => absurd (by decide) c)
  refine lv_aload_n S.1 S.2.1 dX7_changeCost_21 rfl (lv_at hl 1 rfl) ?_
  refine gx_get (C := RX5) (T := TX5) (N := 7) S hG h0 i_X7_changeCost_X5 rfl 2 (by decide) (by decide +kernel) rfl dX7_changeCost_22 ?_
  refine lv_iload_n S.1 S.2.1 dX7_changeCost_25 rfl (lv_at hl 2 rfl) ?_
  refine gx_iald (v := 0) S hG 0 h2 rfl (fin_l (by decide)) (by decide) dX7_changeCost_26 ?_
  refine lv_aload_n S.1 S.2.1 dX7_changeCost_27 rfl (lv_at hl 3 rfl) ?_
  refine gx_get (C := RX5) (T := TX5) (N := 7) S hG h0 i_X7_changeCost_X5 rfl 2 (by decide) (by decide +kernel) rfl dX7_changeCost_28 ?_
  refine lv_iload_n S.1 S.2.1 dX7_changeCost_31 rfl (lv_at hl 4 rfl) ?_
  refine gx_iald (v := 0) S hG 0 h2 rfl (fin_l (by decide)) (by decide) dX7_changeCost_32 ?_
  refine lv_icmp_eq (tgt := 39) S.1 S.2.1 dX7_changeCost_33 (by decide) (fun _ => ?_) (fun c => absurd (by decide) c)
  refine lv_iload S.1 S.2.1 dX7_changeCost_39 (lv_at hl 0 rfl) ?_
  exact fx_iret S hr hlocks () hG (rfl) dX7_changeCost_41
theorem i_X1_leastCost_X1 : ∀ w ∈ u_ws RX1 TX1 10, w ∈ wsX1_leastCost := by decide +kernel
theorem i_X1_leastCost_X5 : ∀ w ∈ u_ws RX5 TX5 7, w ∈ wsX1_leastCost := by decide +kernel
set_option maxHeartbeats 16000000 in
theorem k1189_X1_leastCost {n : Nat} (hn : N0 + 231 ≤ n) (h0 : F (N0 + 13) = some (.inr (3, [.ref (N0 + 14), .ref (N0 + 35), .ref (N0 + 57), .ref (N0 + 58), .ref (N0 + 59), .ref (N0 + 60), .int 0, .int 0, .ref (N0 + 61), .ref (N0 + 62)]))) (h1 : F (N0 + 143) = some (.inr (7, [.ref (N0 + 144), .ref (N0 + 145), .ref (N0 + 146), .ref (N0 + 147), .ref (N0 + 148), .ref (N0 + 149), .int 1]))) (h2 : F (N0 + 57) = some (.inl (cI, 20, .inl (fun _ => 0)))) (h3 : F (N0 + 58) = some (.inl (cI, 20, .inl (fun _ => 0)))) (h4 : F (N0 + 35) = some (.inl (cII, 21, .inr (.inr (.inr (.inr (fun j => if j < 21 then some ((N0 + 36) + j) else none))))))) (h5 : F (N0 + 36) = some (.inl (cI, 21, .inl (fun _ => 0)))) (h6 : F (N0 + 14) = some (.inl (cII, 20, .inr (.inr (.inr (.inr (fun j => if j < 20 then some ((N0 + 15) + j) else none))))))) (h7 : F (N0 + 144) = some (.inl (cC, 20, .inl (upd (fun _ => 0) 0 97)))) (h8 : F (N0 + 146) = some (.inl (cI, 20, .inl (fun _ => 0)))) (h9 : F (N0 + 15) = some (.inl (cI, 20, .inl (fun _ => 0)))) : Met l yX1_leastCost wsX1_leastCost ({ frames := 2, cells := 0, slots := 0, locals := 49 }) (va_Pc [.ref (N0 + 13), .ref (N0 + 143), .ref (N0 + 143)] (fP N0 D vwCl (fty cI cC cL cD cII cTr cTm cIt cB) (fen ql) F n)) (fQi N0 D vwCl (fty cI cC cL cD cII cTr cTm cIt cB) (fun (r : Int32) (_ : Unit) => r = 0) (fun _ => (fu (fu (fu (fu (fu F (N0 + 57) (.inl (cI, 20, .inl (upd (fun _ => 0) 0 1)))) (N0 + 58) (.inl (cI, 20, .inl (upd (fun _ => 0) 0 1)))) (N0 + 13) (.inr (3, [.ref (N0 + 14), .ref (N0 + 35), .ref (N0 + 57), .ref (N0 + 58), .ref (N0 + 59), .ref (N0 + 60), .int 0, .int 0, .ref (N0 + 61), .ref (N0 + 62)]))) (N0 + 36) (.inl (cI, 21, .inl (upd (fun _ => 0) 0 0)))) (N0 + 15) (.inl (cI, 20, .inl (upd (fun _ => 0) 0 0))))) (fun _ => n)) 0 0 (fA N0) := by
  refine fx_start 5 rfl rfl (Nat.le_of_ble_eq_true rfl) ?_ rfl
  intro p e s m below meth c ls S hr hlocks hin hG hl
  have hl : lv_has ls 5 [(0, .ref (N0 + 13)), (1, .ref (N0 + 143)), (2, .ref (N0 + 143))] := hl
  have lt_h0 := hG.1.lt h0
  have lt_h1 := hG.1.lt h1
  have lt_h2 := hG.1.lt h2
  have lt_h3 := hG.1.lt h3
  have lt_h4 := hG.1.lt h4
  have lt_h5 := hG.1.lt h5
  have lt_h6 := hG.1.lt h6
  have lt_h7 := hG.1.lt h7
  have lt_h8 := hG.1.lt h8
  have lt_h9 := hG.1.lt h9
  refine lv_aload_n S.1 S.2.1 dX1_leastCost_0 rfl (lv_at hl 1 rfl) ?_
  refine lv_aload_n S.1 S.2.1 dX1_leastCost_1 rfl (lv_at hl 0 rfl) ?_
  refine gx_get (C := RX1) (T := TX1) (N := 10) S hG h0 i_X1_leastCost_X1 rfl 2 (by decide) (by decide +kernel) rfl dX1_leastCost_2 ?_
  refine fx_cVv (As := [.ref (N0 + 57)]) (rest := []) S hG (k1182_X5_listWidths (by omega) h1 h2) h1 rfl (cwV 1 S.2.2.2.2 gX1_leastCost_X5_listWidths rfl rfl rfl (by decide +kernel) ⟨Nat.le_of_ble_eq_true rfl, Nat.le_of_ble_eq_true rfl⟩) rfl hl.1 rfl (Nat.le_of_ble_eq_true rfl) dX1_leastCost_5 ⟨Nat.le_of_ble_eq_true rfl, Nat.le_of_ble_eq_true rfl⟩ (fun _ H locs hp hG => ?_)
  refine lv_aload_n S.1 S.2.1 dX1_leastCost_8 rfl (lv_at hl 2 rfl) ?_
  refine lv_aload_n S.1 S.2.1 dX1_leastCost_9 rfl (lv_at hl 0 rfl) ?_
  refine gx_get (C := RX1) (T := TX1) (N := 10) S hG (fu_at (by omega) h0) i_X1_leastCost_X1 rfl 3 (by decide) (by decide +kernel) rfl dX1_leastCost_10 ?_
  refine fx_cVv (As := [.ref (N0 + 58)]) (rest := []) S hG (k1183_X5_listWidths (by omega) (fu_at (by omega) h1) (fu_at (by omega) h3)) (fu_at (by omega) h1) rfl (cwV 1 S.2.2.2.2 gX1_leastCost_X5_listWidths rfl rfl rfl (by decide +kernel) ⟨Nat.le_of_ble_eq_true rfl, Nat.le_of_ble_eq_true rfl⟩) rfl hl.1 rfl (Nat.le_of_ble_eq_true rfl) dX1_leastCost_13 ⟨Nat.le_of_ble_eq_true rfl, Nat.le_of_ble_eq_true rfl⟩ (fun _ H locs hp hG => ?_)
  refine lv_aload_n S.1 S.2.1 dX1_leastCost_16 rfl (lv_at hl 1 rfl) ?_
  refine gx_get (C := RX5) (T := TX5) (N := 7) S hG (fu_at (by omega) (fu_at (by omega) h1)) i_X1_leastCost_X5 rfl 6 (by decide) (by decide +kernel) rfl dX1_leastCost_17 ?_
  refine lv_iconst (v := 1) S.1 S.2.1 dX1_leastCost_20 (by decide) ?_
  refine lv_isub S.1 S.2.1 dX1_leastCost_21 ?_
  refine fx_topi (y := 0) (by decide) ?_
  refine lv_istore_n (lv' := [(3, .int 0), (0, .ref (N0 + 13)), (1, .ref (N0 + 143)), (2, .ref (N0 + 143))]) S.1 S.2.1 dX1_leastCost_22 rfl hl (by decide) rfl (fun ls hl => ?_)
  refine lv_iload_n S.1 S.2.1 dX1_leastCost_23 rfl (lv_at hl 0 rfl) ?_
  refine lv_if_lt (tgt := 111) S.1 S.2.1 dX1_leastCost_24 (by decide) (fun c => absurd c (by decide)) (fun _ => ?_)
  refine lv_aload_n S.1 S.2.1 dX1_leastCost_27 rfl (lv_at hl 1 rfl) ?_
  refine lv_aload_n S.1 S.2.1 dX1_leastCost_28 rfl (lv_at hl 2 rfl) ?_
  refine lv_iload_n S.1 S.2.1 dX1_leastCost_29 rfl (lv_at hl 0 rfl) ?_
  refine lv_aload_n S.1 S.2.1 dX1_leastCost_30 rfl (lv_at hl 1 rfl) ?_
  refine gx_get (C := RX1) (T := TX1) (N := 10) S hG (fu_at (by omega) (fu_at (by omega) h0)) i_X1_leastCost_X1 rfl 4 (by decide) (by decide +kernel) rfl dX1_leastCost_31 ?_
  refine fx_cVi (As := [.int 0, .ref (N0 + 59)]) (rest := [.ref (N0 + 13)]) S hG (k1184_X5_listChildren (by omega) (fu_at (by omega) (fu_at (by omega) h1))) (fu_at (by omega) (fu_at (by omega) h1)) rfl (cwV 2 S.2.2.2.2 gX1_leastCost_X5_listChildren rfl rfl rfl (by decide +kernel) ⟨Nat.le_of_ble_eq_true rfl, Nat.le_of_ble_eq_true rfl⟩) rfl hl.1 rfl (Nat.le_of_ble_eq_true rfl) dX1_leastCost_34 ⟨Nat.le_of_ble_eq_true rfl, Nat.le_of_ble_eq_true rfl⟩ (fun rv_3 _ H locs hp hG => ?_)
  subst rv_3
  refine gx_put (C := RX1) (T := TX1) (N := 10) (ty := .int) (v := .int 0) (fs' := [.ref (N0 + 14), .ref (N0 + 35), .ref (N0 + 57), .ref (N0 + 58), .ref (N0 + 59), .ref (N0 + 60), .int 0, .int 0, .ref (N0 + 61), .ref (N0 + 62)]) S hG (fu_at (by omega) (fu_at (by omega) h0)) i_X1_leastCost_X1 rfl 6 (by decide) tyX1 tyX1_ok nmX1 (by decide +kernel) rfl (by decide +kernel) rfl rfl (Nat.le_of_ble_eq_true rfl) rfl dX1_leastCost_37 (fun H locs hG => ?_)
  refine lv_aload_n S.1 S.2.1 dX1_leastCost_40 rfl (lv_at hl 3 rfl) ?_
  refine gx_get (C := RX5) (T := TX5) (N := 7) S hG (fu_at (by omega) (fu_at (by omega) (fu_at (by omega) h1))) i_X1_leastCost_X5 rfl 6 (by decide) (by decide +kernel) rfl dX1_leastCost_41 ?_
  refine lv_iconst (v := 1) S.1 S.2.1 dX1_leastCost_44 (by decide) ?_
  refine lv_isub S.1 S.2.1 dX1_leastCost_45 ?_
  refine fx_topi (y := 0) (by decide) ?_
  refine lv_istore (lv' := [(4, .int 0), (3, .int 0), (0, .ref (N0 + 13)), (1, .ref (N0 + 143)), (2, .ref (N0 + 143))]) S.1 S.2.1 dX1_leastCost_46 hl (by decide) rfl (fun ls hl => ?_)
  refine lv_iload S.1 S.2.1 dX1_leastCost_48 (lv_at hl 0 rfl) ?_
  refine lv_if_lt (tgt := 105) S.1 S.2.1 dX1_leastCost_50 (by decide) (fun c => absurd c (by decide)) (fun _ => ?_)
  refine lv_aload_n S.1 S.2.1 dX1_leastCost_53 rfl (lv_at hl 2 rfl) ?_
  refine lv_aload_n S.1 S.2.1 dX1_leastCost_54 rfl (lv_at hl 4 rfl) ?_
  refine lv_iload S.1 S.2.1 dX1_leastCost_55 (lv_at hl 0 rfl) ?_
  refine lv_aload_n S.1 S.2.1 dX1_leastCost_57 rfl (lv_at hl 2 rfl) ?_
  refine gx_get (C := RX1) (T := TX1) (N := 10) S hG fu_s i_X1_leastCost_X1 rfl 5 (by decide) (by decide +kernel) rfl dX1_leastCost_58 ?_
  refine fx_cVi (As := [.int 0, .ref (N0 + 60)]) (rest := [.ref (N0 + 13)]) S hG (k1185_X5_listChildren (by omega) (fu_at (by omega) (fu_at (by omega) (fu_at (by omega) h1)))) (fu_at (by omega) (fu_at (by omega) (fu_at (by omega) h1))) rfl (cwV 2 S.2.2.2.2 gX1_leastCost_X5_listChildren rfl rfl rfl (by decide +kernel) ⟨Nat.le_of_ble_eq_true rfl, Nat.le_of_ble_eq_true rfl⟩) rfl hl.1 rfl (Nat.le_of_ble_eq_true rfl) dX1_leastCost_61 ⟨Nat.le_of_ble_eq_true rfl, Nat.le_of_ble_eq_true rfl⟩ (fun rv_4 _ H locs hp hG => ?_)
  subst rv_4
  refine gx_put (C := RX1) (T := TX1) (N := 10) (ty := .int) (v := .int 0) (fs' := [.ref (N0 + 14), .ref (N0 + 35), .ref (N0 + 57), .ref (N0 + 58), .ref (N0 + 59), .ref (N0 + 60), .int 0, .int 0, .ref (N0 + 61), .ref (N0 + 62)]) S hG fu_s i_X1_leastCost_X1 rfl 7 (by decide) tyX1 tyX1_ok nmX1 (by decide +kernel) rfl (by decide +kernel) rfl rfl (Nat.le_of_ble_eq_true rfl) rfl dX1_leastCost_64 (fun H locs hG => ?_)
  refine lv_aload_n S.1 S.2.1 dX1_leastCost_67 rfl (lv_at hl 2 rfl) ?_
  refine lv_aload_n S.1 S.2.1 dX1_leastCost_68 rfl (lv_at hl 3 rfl) ?_
  refine lv_aload_n S.1 S.2.1 dX1_leastCost_69 rfl (lv_at hl 4 rfl) ?_
  refine fx_cVv (As := [.ref (N0 + 143), .ref (N0 + 143)]) (rest := []) S hG (k1187_X1_fillRestCosts (by omega) fu_s (fu_at (by omega) (fu_at (by omega) (fu_at (by omega) (fu_at (by omega) h4)))) (fu_at (by omega) (fu_at (by omega) (fu_at (by omega) (fu_at (by omega) h5))))) fu_s rfl (cwV 2 S.2.2.2.2 gX1_leastCost_X1_fillRestCosts rfl rfl rfl (by decide +kernel) ⟨Nat.le_of_ble_eq_true rfl, Nat.le_of_ble_eq_true rfl⟩) rfl hl.1 rfl (Nat.le_of_ble_eq_true rfl) dX1_leastCost_70 ⟨Nat.le_of_ble_eq_true rfl, Nat.le_of_ble_eq_true rfl⟩ (fun _ H locs hp hG => ?_)
  refine lv_aload_n S.1 S.2.1 dX1_leastCost_73 rfl (lv_at hl 2 rfl) ?_
  refine gx_get (C := RX1) (T := TX1) (N := 10) S hG (fu_at (by omega) fu_s) i_X1_leastCost_X1 rfl 0 (by decide) (by decide +kernel) rfl dX1_leastCost_74 ?_
  refine lv_iload_n S.1 S.2.1 dX1_leastCost_77 rfl (lv_at hl 1 rfl) ?_
  refine gx_aldq (x := (N0 + 15)) S hG 4 rfl (fu_at (by omega) (fu_at (by omega) (fu_at (by omega) (fu_at (by omega) (fu_at (by omega) h6))))) rfl (fin_l (by decide)) (rfl) dX1_leastCost_78 ?_
  refine lv_iload S.1 S.2.1 dX1_leastCost_79 (lv_at hl 0 rfl) ?_
  refine lv_aload_n S.1 S.2.1 dX1_leastCost_81 rfl (lv_at hl 3 rfl) ?_
  refine lv_iload_n S.1 S.2.1 dX1_leastCost_82 rfl (lv_at hl 1 rfl) ?_
  refine lv_aload_n S.1 S.2.1 dX1_leastCost_83 rfl (lv_at hl 4 rfl) ?_
  refine lv_iload S.1 S.2.1 dX1_leastCost_84 (lv_at hl 0 rfl) ?_
  refine fx_cSNi (host := "TreeDiffer") (As := [.ref (N0 + 143), .int 0, .ref (N0 + 143), .int 0]) (rest := [.int 0, .ref (N0 + 15)]) S hG (k1188_X7_changeCost (by omega) (fu_at (by omega) (fu_at (by omega) (fu_at (by omega) (fu_at (by omega) (fu_at (by omega) h1))))) (fu_at (by omega) (fu_at (by omega) (fu_at (by omega) (fu_at (by omega) (fu_at (by omega) h7))))) (fu_at (by omega) (fu_at (by omega) (fu_at (by omega) (fu_at (by omega) (fu_at (by omega) h8)))))) ⟨(va_cnB 4 S.2.2.2.2 gX1_leastCost_X7_changeCost_n62 rfl rfl rfl (hG.nest (show _ ∈ fen2.2.2.1 from by decide)) (S.2.2.2.2 (.initialized RX7) (by decide +kernel)) (by decide +kernel) ⟨Nat.le_of_ble_eq_true rfl, Nat.le_of_ble_eq_true rfl⟩), S.2.2.2.2 (.static yX7_changeCost) (by decide +kernel), trivial⟩ rfl hl.1 rfl (Nat.le_of_ble_eq_true rfl) dX1_leastCost_86 ⟨Nat.le_of_ble_eq_true rfl, Nat.le_of_ble_eq_true rfl⟩ (fun rv_6 _ H locs hp hG => ?_)
  subst rv_6
  refine lv_aload_n S.1 S.2.1 dX1_leastCost_89 rfl (lv_at hl 2 rfl) ?_
  refine gx_get (C := RX1) (T := TX1) (N := 10) S hG (fu_at (by omega) fu_s) i_X1_leastCost_X1 rfl 1 (by decide) (by decide +kernel) rfl dX1_leastCost_90 ?_
  refine lv_iconst (v := 0) S.1 S.2.1 dX1_leastCost_93 (by decide) ?_
  refine gx_aldq (x := (N0 + 36)) S hG 4 rfl (fu_at (by omega) (fu_at (by omega) (fu_at (by omega) (fu_at (by omega) (fu_at (by omega) h4))))) rfl (fin_l (by decide)) (rfl) dX1_leastCost_94 ?_
  refine lv_iconst (v := 0) S.1 S.2.1 dX1_leastCost_95 (by decide) ?_
  refine gx_iald (v := 0) S hG 0 fu_s rfl (fin_l (by decide)) (by decide) dX1_leastCost_96 ?_
  refine lv_iadd S.1 S.2.1 dX1_leastCost_97 ?_
  refine fx_topi (y := 0) (by decide) ?_
  refine gx_iast (f' := upd (fun _ => 0) 0 0) S hG 0 (fu_at (by omega) (fu_at (by omega) (fu_at (by omega) (fu_at (by omega) (fu_at (by omega) h9))))) rfl (fin_l (by decide)) dX1_leastCost_98 (rfl) (fun H locs hG => ?_)
  refine lv_iinc (v := (-1)) (lv' := [(4, .int (-1)), (3, .int 0), (0, .ref (N0 + 13)), (1, .ref (N0 + 143)), (2, .ref (N0 + 143))]) S.1 S.2.1 dX1_leastCost_99 hl (k := 0) rfl (by decide) (by decide) rfl (fun ls hl => ?_)
  refine lv_goto (tgt := 48) S.1 S.2.1 dX1_leastCost_102 (by decide) ?_
  refine lv_iload S.1 S.2.1 dX1_leastCost_48 (lv_at hl 0 rfl) ?_
  refine lv_if_lt (tgt := 105) S.1 S.2.1 dX1_leastCost_50 (by decide) (fun _ => ?_) (fun c => absurd (by decide) c)
  refine lv_iinc (v := (-1)) (lv' := [(3, .int (-1)), (4, .int (-1)), (0, .ref (N0 + 13)), (1, .ref (N0 + 143)), (2, .ref (N0 + 143))]) S.1 S.2.1 dX1_leastCost_105 hl (k := 1) rfl (by decide) (by decide) rfl (fun ls hl => ?_)
  refine lv_goto (tgt := 23) S.1 S.2.1 dX1_leastCost_108 (by decide) ?_
  refine lv_iload_n S.1 S.2.1 dX1_leastCost_23 rfl (lv_at hl 0 rfl) ?_
  refine lv_if_lt (tgt := 111) S.1 S.2.1 dX1_leastCost_24 (by decide) (fun _ => ?_) (fun c => absurd (by decide) c)
  refine lv_aload_n S.1 S.2.1 dX1_leastCost_111 rfl (lv_at hl 2 rfl) ?_
  refine gx_get (C := RX1) (T := TX1) (N := 10) S hG (fu_at (by omega) (fu_at (by omega) fu_s)) i_X1_leastCost_X1 rfl 0 (by decide) (by decide +kernel) rfl dX1_leastCost_112 ?_
  refine lv_iconst (v := 0) S.1 S.2.1 dX1_leastCost_115 (by decide) ?_
  refine gx_aldq (x := (N0 + 15)) S hG 4 rfl (fu_at (by omega) (fu_at (by omega) (fu_at (by omega) (fu_at (by omega) (fu_at (by omega) (fu_at (by omega) h6)))))) rfl (fin_l (by decide)) (rfl) dX1_leastCost_116 ?_
  refine lv_iconst (v := 0) S.1 S.2.1 dX1_leastCost_117 (by decide) ?_
  refine gx_iald (v := 0) S hG 0 fu_s rfl (fin_l (by decide)) (by decide) dX1_leastCost_118 ?_
  have hG : fG N0 D vwCl (fty cI cC cL cD cII cTr cTm cIt cB) (fen ql) s (fu (fu (fu (fu (fu F (N0 + 57) (.inl (cI, 20, .inl (upd (fun _ => 0) 0 1)))) (N0 + 58) (.inl (cI, 20, .inl (upd (fun _ => 0) 0 1)))) (N0 + 13) (.inr (3, [.ref (N0 + 14), .ref (N0 + 35), .ref (N0 + 57), .ref (N0 + 58), .ref (N0 + 59), .ref (N0 + 60), .int 0, .int 0, .ref (N0 + 61), .ref (N0 + 62)]))) (N0 + 36) (.inl (cI, 21, .inl (upd (fun _ => 0) 0 0)))) (N0 + 15) (.inl (cI, 20, .inl (upd (fun _ => 0) 0 0)))) n H locs := hG.weak (fun a e h => by
    rcases fu_cases h with ⟨rfl, he⟩ | ⟨hne0, h⟩
    · cases he; exact fu_s
    · skip
      rcases fu_cases h with ⟨rfl, he⟩ | ⟨hne1, h⟩
      · cases he; exact (fu_at (by omega) fu_s)
      · skip
        rcases fu_cases h with ⟨rfl, he⟩ | ⟨hne2, h⟩
        · cases he; exact (fu_at (by omega) (fu_at (by omega) fu_s))
        · skip
          rcases fu_cases h with ⟨rfl, he⟩ | ⟨hne3, h⟩
          · cases he; exact (fu_at (by omega) (fu_at (by omega) (fu_at (by omega) (fu_at (by omega) fu_s))))
          · skip
            rcases fu_cases h with ⟨rfl, he⟩ | ⟨hne4, h⟩
            · cases he; exact (fu_at (by omega) (fu_at (by omega) (fu_at (by omega) (fu_at (by omega) (fu_at (by omega) fu_s)))))
            · exact (fu_at (by omega) (fu_at (by omega) (fu_at (by omega) (fu_at (by omega) (fu_at (by omega) (fu_at (by omega) h)))))))
  exact fx_iret S hr hlocks () hG (rfl) dX1_leastCost_119
theorem i_X7_distance_X7 : ∀ w ∈ u_ws RX7 TX7 10, w ∈ wsX7_distance := by decide +kernel
theorem k1190_X7_distance {n : Nat} (hn : N0 + 231 ≤ n) (h0 : F N0 = some (.inr (9, [.ref (N0 + 1), .ref (N0 + 2), .ref (N0 + 11), .ref (N0 + 13), .ref (N0 + 63), .ref (N0 + 65), .ref (N0 + 85), .int (-1), .int (-1), .int 32]))) (h1 : F (N0 + 1) = some (.inl (cTr, 3, .inr (.inr (.inr (.inr (va_up (va_up (va_up (fun _ => none) 0 (some (N0 + 143))) 1 (some (N0 + 150))) 2 (some (N0 + 157))))))))) (h2 : F (N0 + 13) = some (.inr (3, [.ref (N0 + 14), .ref (N0 + 35), .ref (N0 + 57), .ref (N0 + 58), .ref (N0 + 59), .ref (N0 + 60), .int 0, .int 0, .ref (N0 + 61), .ref (N0 + 62)]))) (h3 : F (N0 + 143) = some (.inr (7, [.ref (N0 + 144), .ref (N0 + 145), .ref (N0 + 146), .ref (N0 + 147), .ref (N0 + 148), .ref (N0 + 149), .int 1]))) (h4 : F (N0 + 57) = some (.inl (cI, 20, .inl (fun _ => 0)))) (h5 : F (N0 + 58) = some (.inl (cI, 20, .inl (fun _ => 0)))) (h6 : F (N0 + 35) = some (.inl (cII, 21, .inr (.inr (.inr (.inr (fun j => if j < 21 then some ((N0 + 36) + j) else none))))))) (h7 : F (N0 + 36) = some (.inl (cI, 21, .inl (fun _ => 0)))) (h8 : F (N0 + 14) = some (.inl (cII, 20, .inr (.inr (.inr (.inr (fun j => if j < 20 then some ((N0 + 15) + j) else none))))))) (h9 : F (N0 + 144) = some (.inl (cC, 20, .inl (upd (fun _ => 0) 0 97)))) (h10 : F (N0 + 146) = some (.inl (cI, 20, .inl (fun _ => 0)))) (h11 : F (N0 + 15) = some (.inl (cI, 20, .inl (fun _ => 0)))) : Met l yX7_distance wsX7_distance ({ frames := 3, cells := 0, slots := 0, locals := 73 }) (va_Pc [.ref N0, .int 0, .int 0] (fP N0 D vwCl (fty cI cC cL cD cII cTr cTm cIt cB) (fen ql) F n)) (fQi N0 D vwCl (fty cI cC cL cD cII cTr cTm cIt cB) (fun (r : Int32) (_ : Unit) => r = 0) (fun _ => (fu (fu (fu (fu (fu F (N0 + 57) (.inl (cI, 20, .inl (upd (fun _ => 0) 0 1)))) (N0 + 58) (.inl (cI, 20, .inl (upd (fun _ => 0) 0 1)))) (N0 + 13) (.inr (3, [.ref (N0 + 14), .ref (N0 + 35), .ref (N0 + 57), .ref (N0 + 58), .ref (N0 + 59), .ref (N0 + 60), .int 0, .int 0, .ref (N0 + 61), .ref (N0 + 62)]))) (N0 + 36) (.inl (cI, 21, .inl (upd (fun _ => 0) 0 0)))) (N0 + 15) (.inl (cI, 20, .inl (upd (fun _ => 0) 0 0))))) (fun _ => n)) 0 0 (fA N0) := by
  refine fx_start 5 rfl rfl (Nat.le_of_ble_eq_true rfl) ?_ rfl
  intro p e s m below meth c ls S hr hlocks hin hG hl
  have hl : lv_has ls 5 [(0, .ref N0), (1, .int 0), (2, .int 0)] := hl
  have lt_h0 := hG.1.lt h0
  have lt_h1 := hG.1.lt h1
  have lt_h2 := hG.1.lt h2
  have lt_h3 := hG.1.lt h3
  have lt_h4 := hG.1.lt h4
  have lt_h5 := hG.1.lt h5
  have lt_h6 := hG.1.lt h6
  have lt_h7 := hG.1.lt h7
  have lt_h8 := hG.1.lt h8
  have lt_h9 := hG.1.lt h9
  have lt_h10 := hG.1.lt h10
  have lt_h11 := hG.1.lt h11
  refine lv_aload_n S.1 S.2.1 dX7_distance_0 rfl (lv_at hl 0 rfl) ?_
  refine lv_iload_n S.1 S.2.1 dX7_distance_1 rfl (lv_at hl 1 rfl) ?_
  refine fx_cVr (As := [.int 0]) (rest := []) S hG (k26_X7_treeAt (by omega) h0 h1) h0 rfl (cwV 1 S.2.2.2.2 gX7_distance_X7_treeAt rfl rfl rfl (by decide +kernel) ⟨Nat.le_of_ble_eq_true rfl, Nat.le_of_ble_eq_true rfl⟩) rfl hl.1 rfl (Nat.le_of_ble_eq_true rfl) dX7_distance_2 ⟨Nat.le_of_ble_eq_true rfl, Nat.le_of_ble_eq_true rfl⟩ (fun rv_1 _ H locs hp hG => ?_)
  subst rv_1
  refine lv_astore_n (lv' := [(3, .ref (N0 + 143)), (0, .ref N0), (1, .int 0), (2, .int 0)]) S.1 S.2.1 dX7_distance_5 rfl hl (by decide) rfl (fun ls hl => ?_)
  refine lv_aload_n S.1 S.2.1 dX7_distance_6 rfl (lv_at hl 1 rfl) ?_
  refine lv_iload_n S.1 S.2.1 dX7_distance_7 rfl (lv_at hl 3 rfl) ?_
  refine fx_cVr (As := [.int 0]) (rest := []) S hG (k26_X7_treeAt (by omega) h0 h1) h0 rfl (cwV 1 S.2.2.2.2 gX7_distance_X7_treeAt rfl rfl rfl (by decide +kernel) ⟨Nat.le_of_ble_eq_true rfl, Nat.le_of_ble_eq_true rfl⟩) rfl hl.1 rfl (Nat.le_of_ble_eq_true rfl) dX7_distance_8 ⟨Nat.le_of_ble_eq_true rfl, Nat.le_of_ble_eq_true rfl⟩ (fun rv_2 _ H locs hp hG => ?_)
  subst rv_2
  refine lv_astore (lv' := [(4, .ref (N0 + 143)), (3, .ref (N0 + 143)), (0, .ref N0), (1, .int 0), (2, .int 0)]) S.1 S.2.1 dX7_distance_11 hl (by decide) rfl (fun ls hl => ?_)
  refine lv_aload_n S.1 S.2.1 dX7_distance_13 rfl (lv_at hl 2 rfl) ?_
  refine gx_get (C := RX7) (T := TX7) (N := 10) S hG h0 i_X7_distance_X7 rfl 3 (by decide) (by decide +kernel) rfl dX7_distance_14 ?_
  refine lv_aload_n S.1 S.2.1 dX7_distance_17 rfl (lv_at hl 1 rfl) ?_
  refine lv_aload S.1 S.2.1 dX7_distance_18 (lv_at hl 0 rfl) ?_
  refine fx_cVi (As := [.ref (N0 + 143), .ref (N0 + 143)]) (rest := []) S hG (k1189_X1_leastCost (by omega) h2 h3 h4 h5 h6 h7 h8 h9 h10 h11) h2 rfl (cwV 2 S.2.2.2.2 gX7_distance_X1_leastCost rfl rfl rfl (by decide +kernel) ⟨Nat.le_of_ble_eq_true rfl, Nat.le_of_ble_eq_true rfl⟩) rfl hl.1 rfl (Nat.le_of_ble_eq_true rfl) dX7_distance_20 ⟨Nat.le_of_ble_eq_true rfl, Nat.le_of_ble_eq_true rfl⟩ (fun rv_3 _ H locs hp hG => ?_)
  subst rv_3
  exact fx_iret S hr hlocks () hG (rfl) dX7_distance_23
theorem k1191_L_distance {n : Nat} (hn : N0 + 231 ≤ n) (h0 : F N0 = some (.inr (9, [.ref (N0 + 1), .ref (N0 + 2), .ref (N0 + 11), .ref (N0 + 13), .ref (N0 + 63), .ref (N0 + 65), .ref (N0 + 85), .int (-1), .int (-1), .int 32]))) (h1 : F (N0 + 1) = some (.inl (cTr, 3, .inr (.inr (.inr (.inr (va_up (va_up (va_up (fun _ => none) 0 (some (N0 + 143))) 1 (some (N0 + 150))) 2 (some (N0 + 157))))))))) (h2 : F (N0 + 13) = some (.inr (3, [.ref (N0 + 14), .ref (N0 + 35), .ref (N0 + 57), .ref (N0 + 58), .ref (N0 + 59), .ref (N0 + 60), .int 0, .int 0, .ref (N0 + 61), .ref (N0 + 62)]))) (h3 : F (N0 + 143) = some (.inr (7, [.ref (N0 + 144), .ref (N0 + 145), .ref (N0 + 146), .ref (N0 + 147), .ref (N0 + 148), .ref (N0 + 149), .int 1]))) (h4 : F (N0 + 57) = some (.inl (cI, 20, .inl (fun _ => 0)))) (h5 : F (N0 + 58) = some (.inl (cI, 20, .inl (fun _ => 0)))) (h6 : F (N0 + 35) = some (.inl (cII, 21, .inr (.inr (.inr (.inr (fun j => if j < 21 then some ((N0 + 36) + j) else none))))))) (h7 : F (N0 + 36) = some (.inl (cI, 21, .inl (fun _ => 0)))) (h8 : F (N0 + 14) = some (.inl (cII, 20, .inr (.inr (.inr (.inr (fun j => if j < 20 then some ((N0 + 15) + j) else none))))))) (h9 : F (N0 + 144) = some (.inl (cC, 20, .inl (upd (fun _ => 0) 0 97)))) (h10 : F (N0 + 146) = some (.inl (cI, 20, .inl (fun _ => 0)))) (h11 : F (N0 + 15) = some (.inl (cI, 20, .inl (fun _ => 0)))) (h12 : F (N0 + 229) = some (.inl (cL, 1, .inr (.inl (fun _ => 0))))) : Met l yL_distance wsL_distance ({ frames := 4, cells := 0, slots := 0, locals := 97 }) (va_Pc [.ref N0, .int 0, .int 0, .ref (N0 + 229)] (fP N0 D vwCl (fty cI cC cL cD cII cTr cTm cIt cB) (fen ql) F n)) (fQi N0 D vwCl (fty cI cC cL cD cII cTr cTm cIt cB) (fun (r : Int32) (_ : Unit) => r = 0) (fun _ => (fu (fu (fu (fu (fu (fu F (N0 + 57) (.inl (cI, 20, .inl (upd (fun _ => 0) 0 1)))) (N0 + 58) (.inl (cI, 20, .inl (upd (fun _ => 0) 0 1)))) (N0 + 13) (.inr (3, [.ref (N0 + 14), .ref (N0 + 35), .ref (N0 + 57), .ref (N0 + 58), .ref (N0 + 59), .ref (N0 + 60), .int 0, .int 0, .ref (N0 + 61), .ref (N0 + 62)]))) (N0 + 36) (.inl (cI, 21, .inl (upd (fun _ => 0) 0 0)))) (N0 + 15) (.inl (cI, 20, .inl (upd (fun _ => 0) 0 0)))) (N0 + 229) (.inl (cL, 1, .inr (.inl (vp_updL (fun _ => 0) 0 0)))))) (fun _ => n)) 0 0 (fA N0) := by
  refine fx_startW (hh := [(0, 10, 13, 19)]) 5 rfl rfl (Nat.le_of_ble_eq_true rfl) ?_ rfl
  intro p e s m below meth c ls S htab hr hlocks hG hl
  have hl : lv_has ls 5 [(0, .ref N0), (1, .int 0), (2, .int 0), (3, .ref (N0 + 229))] := hl
  have lt_h0 := hG.1.lt h0
  have lt_h1 := hG.1.lt h1
  have lt_h2 := hG.1.lt h2
  have lt_h3 := hG.1.lt h3
  have lt_h4 := hG.1.lt h4
  have lt_h5 := hG.1.lt h5
  have lt_h6 := hG.1.lt h6
  have lt_h7 := hG.1.lt h7
  have lt_h8 := hG.1.lt h8
  have lt_h9 := hG.1.lt h9
  have lt_h10 := hG.1.lt h10
  have lt_h11 := hG.1.lt h11
  have lt_h12 := hG.1.lt h12
  refine lv_aload_n S.1 S.2.1 dL_distance_0 rfl (lv_at hl 3 rfl) ?_
  refine lv_iconst (v := 0) S.1 S.2.1 dL_distance_1 (by decide) ?_
  refine lv_aload_n S.1 S.2.1 dL_distance_2 rfl (lv_at hl 0 rfl) ?_
  refine lv_iload_n S.1 S.2.1 dL_distance_3 rfl (lv_at hl 1 rfl) ?_
  refine lv_iload_n S.1 S.2.1 dL_distance_4 rfl (lv_at hl 2 rfl) ?_
  refine fx_cVi (As := [.int 0, .int 0]) (rest := [.int 0, .ref (N0 + 229)]) S hG (k1190_X7_distance (by omega) h0 h1 h2 h3 h4 h5 h6 h7 h8 h9 h10 h11) h0 rfl (cwV 2 S.2.2.2.2 gL_distance_X7_distance rfl rfl rfl (by decide +kernel) ⟨Nat.le_of_ble_eq_true rfl, Nat.le_of_ble_eq_true rfl⟩) rfl hl.1 rfl (Nat.le_of_ble_eq_true rfl) dL_distance_5 ⟨Nat.le_of_ble_eq_true rfl, Nat.le_of_ble_eq_true rfl⟩ (fun rv_1 _ H locs hp hG => ?_)
  subst rv_1
  refine lv_i2l (v := 0) S.1 S.2.1 dL_distance_8 (by decide) ?_
  refine gx_last (f' := vp_updL (fun _ => 0) 0 0) S hG 2 (fu_at (by omega) (fu_at (by omega) (fu_at (by omega) (fu_at (by omega) (fu_at (by omega) h12))))) rfl (fin_l (by decide)) dL_distance_9 rfl (fun H locs hG => ?_)
  refine lv_goto (tgt := 17) S.1 S.2.1 dL_distance_10 (by decide) ?_
  refine lv_iconst (v := 0) S.1 S.2.1 dL_distance_17 (by decide) ?_
  exact fx_iret S hr hlocks () hG (rfl) dL_distance_18
theorem k1192_X10_left {n b1 : Nat} (hn : N0 + 231 ≤ n) (hb1 : N0 + 231 ≤ b1) (h0 : F b1 = some (.inl (cI, 0, .inl (fun _ => 0)))) (h1 : F (b1 + 1) = some (.inl (cI, 0, .inl (fun _ => 0)))) : Met l yX10_left wsX10_left ({ frames := 0, cells := 2, slots := 2, locals := 0 }) (va_Pc [.ref (N0 + 164), .ref (N0 + 166), .ref b1, .ref (N0 + 166), .ref (b1 + 1)] (fP N0 D vwCl (fty cI cC cL cD cII cTr cTm cIt cB) (fen ql) F n)) (fQr N0 D vwCl (fty cI cC cL cD cII cTr cTm cIt cB) (fun (r : Nat) (_ : Unit) => r = n) (fun _ => (fblk F n [.inl (cII, 1, .inr (.inr (.inr (.inr (fun j => if j < 1 then some ((n + 1) + j) else none))))), .inl (cI, 1, .inl (fun _ => 0))])) (fun _ => (n + 2))) 2 2 (fA N0) := by
  refine fx_start 9 rfl rfl (Nat.le_of_ble_eq_true rfl) ?_ rfl
  intro p e s m below meth c ls S hr hlocks hin hG hl
  have hl : lv_has ls 9 [(0, .ref (N0 + 164)), (1, .ref (N0 + 166)), (2, .ref b1), (3, .ref (N0 + 166)), (4, .ref (b1 + 1))] := hl
  have lt_h0 := hG.1.lt h0
  have lt_h1 := hG.1.lt h1
  refine lv_aload_n S.1 S.2.1 dX10_left_0 rfl (lv_at hl 2 rfl) ?_
  refine gx_alen (v := 0) S hG 0 h0 rfl (rfl) dX10_left_1 ?_
  refine lv_iconst (v := 1) S.1 S.2.1 dX10_left_2 (by decide) ?_
  refine lv_iadd S.1 S.2.1 dX10_left_3 ?_
  refine fx_topi (y := 1) (by decide) ?_
  refine lv_aload S.1 S.2.1 dX10_left_4 (lv_at hl 4 rfl) ?_
  refine gx_alen (v := 0) S hG 0 h1 rfl (rfl) dX10_left_6 ?_
  refine lv_iconst (v := 1) S.1 S.2.1 dX10_left_7 (by decide) ?_
  refine lv_iadd S.1 S.2.1 dX10_left_8 ?_
  refine fx_topi (y := 1) (by decide) ?_
  refine gx_mna (N' := 1) (K' := 1) S hG (by decide +kernel) (by decide +kernel) 0 4 rfl rfl (by decide) (by decide) (by decide) (by decide) (by decide) (by decide) (by decide) (by decide) dX10_left_9 (fun H hG => ?_)
  refine W.widen (k := 2) (n := 2) (by decide) (by decide) ?_
  refine lv_astore (lv' := [(5, .ref n), (0, .ref (N0 + 164)), (1, .ref (N0 + 166)), (2, .ref b1), (3, .ref (N0 + 166)), (4, .ref (b1 + 1))]) S.1 S.2.1 dX10_left_13 hl (by decide) rfl (fun ls hl => ?_)
  refine lv_aload_n S.1 S.2.1 dX10_left_15 rfl (lv_at hl 3 rfl) ?_
  refine gx_alen (v := 0) S hG 0 (fblk_sk 1 rfl (by omega) (fu_at (by omega) h0)) rfl (rfl) dX10_left_16 ?_
  refine lv_istore (lv' := [(6, .int 0), (5, .ref n), (0, .ref (N0 + 164)), (1, .ref (N0 + 166)), (2, .ref b1), (3, .ref (N0 + 166)), (4, .ref (b1 + 1))]) S.1 S.2.1 dX10_left_17 hl (by decide) rfl (fun ls hl => ?_)
  refine lv_iload S.1 S.2.1 dX10_left_19 (lv_at hl 0 rfl) ?_
  refine lv_if_lt (tgt := 228) S.1 S.2.1 dX10_left_21 (by decide) (fun c => absurd c (by decide)) (fun _ => ?_)
  refine lv_aload S.1 S.2.1 dX10_left_24 (lv_at hl 6 rfl) ?_
  refine gx_alen (v := 0) S hG 0 (fblk_sk 1 rfl (by omega) (fu_at (by omega) h1)) rfl (rfl) dX10_left_26 ?_
  refine lv_istore (lv' := [(7, .int 0), (6, .int 0), (5, .ref n), (0, .ref (N0 + 164)), (1, .ref (N0 + 166)), (2, .ref b1), (3, .ref (N0 + 166)), (4, .ref (b1 + 1))]) S.1 S.2.1 dX10_left_27 hl (by decide) rfl (fun ls hl => ?_)
  refine lv_iload S.1 S.2.1 dX10_left_29 (lv_at hl 0 rfl) ?_
  refine lv_if_lt (tgt := 222) S.1 S.2.1 dX10_left_31 (by decide) (fun c => absurd c (by decide)) (fun _ => ?_)
  refine lv_iload S.1 S.2.1 dX10_left_34 (lv_at hl 1 rfl) ?_
  refine lv_aload_n S.1 S.2.1 dX10_left_36 rfl (lv_at hl 5 rfl) ?_
  refine gx_alen (v := 0) S hG 0 (fblk_sk 1 rfl (by omega) (fu_at (by omega) h0)) rfl (rfl) dX10_left_37 ?_
  refine lv_icmp_ne (tgt := 52) S.1 S.2.1 dX10_left_38 (by decide) (fun c => absurd (by decide) c) (fun _ => ?_)
  refine lv_iload S.1 S.2.1 dX10_left_41 (lv_at hl 0 rfl) ?_
  refine lv_aload S.1 S.2.1 dX10_left_43 (lv_at hl 7 rfl) ?_
  refine gx_alen (v := 0) S hG 0 (fblk_sk 1 rfl (by omega) (fu_at (by omega) h1)) rfl (rfl) dX10_left_45 ?_
  refine lv_icmp_ne (tgt := 52) S.1 S.2.1 dX10_left_46 (by decide) (fun c => absurd (by decide) c) (fun _ => ?_)
  refine lv_goto (tgt := 216) S.1 S.2.1 dX10_left_49 (by decide) ?_
  refine lv_iinc (v := (-1)) (lv' := [(7, .int (-1)), (6, .int 0), (5, .ref n), (0, .ref (N0 + 164)), (1, .ref (N0 + 166)), (2, .ref b1), (3, .ref (N0 + 166)), (4, .ref (b1 + 1))]) S.1 S.2.1 dX10_left_216 hl (k := 0) rfl (by decide) (by decide) rfl (fun ls hl => ?_)
  refine lv_goto (tgt := 29) S.1 S.2.1 dX10_left_219 (by decide) ?_
  refine lv_iload S.1 S.2.1 dX10_left_29 (lv_at hl 0 rfl) ?_
  refine lv_if_lt (tgt := 222) S.1 S.2.1 dX10_left_31 (by decide) (fun _ => ?_) (fun c => absurd (by decide) c)
  refine lv_iinc (v := (-1)) (lv' := [(6, .int (-1)), (7, .int (-1)), (5, .ref n), (0, .ref (N0 + 164)), (1, .ref (N0 + 166)), (2, .ref b1), (3, .ref (N0 + 166)), (4, .ref (b1 + 1))]) S.1 S.2.1 dX10_left_222 hl (k := 1) rfl (by decide) (by decide) rfl (fun ls hl => ?_)
  refine lv_goto (tgt := 19) S.1 S.2.1 dX10_left_225 (by decide) ?_
  refine lv_iload S.1 S.2.1 dX10_left_19 (lv_at hl 0 rfl) ?_
  refine lv_if_lt (tgt := 228) S.1 S.2.1 dX10_left_21 (by decide) (fun _ => ?_) (fun c => absurd (by decide) c)
  refine lv_aload S.1 S.2.1 dX10_left_228 (lv_at hl 2 rfl) ?_
  have hG : fG N0 D vwCl (fty cI cC cL cD cII cTr cTm cIt cB) (fen ql) s (fblk F n [.inl (cII, 1, .inr (.inr (.inr (.inr (fun j => if j < 1 then some ((n + 1) + j) else none))))), .inl (cI, 1, .inl (fun _ => 0))]) (n + 2) H _ := hG.weak (fun a e h => by
    rcases fblk_cases 2 rfl h with ⟨k, rfl, hlt, hk⟩ | ⟨hout, h⟩
    · rcases (show k = 0 ∨ k = 1 by omega) with rfl | rfl
      · cases (show some (.inl (cII, 1, .inr (.inr (.inr (.inr (fun j => if j < 1 then some ((n + 1) + j) else none)))))) = some e from hk); exact (fblk_sk 1 rfl (by omega) fu_s)
      · cases (show some (.inl (cI, 1, .inl (fun _ => 0))) = some e from hk); exact (fblk_at 0 (by omega) rfl)
    · exact (fblk_sk 1 rfl (by omega) (fu_at (by omega) h)))
  exact fx_aret S hr (Or.inr ⟨_, rfl⟩) hlocks () hG (rfl) dX10_left_230
theorem i_X10_fills_X10 : ∀ w ∈ u_ws RX10 TX10 31, w ∈ wsX10_fills := by decide +kernel
theorem i_X10_fills_X9 : ∀ w ∈ u_ws RX9 TX9 5, w ∈ wsX10_fills := by decide +kernel
set_option maxHeartbeats 16000000 in
theorem k1193_X10_fills {n : Nat} (hn : N0 + 231 ≤ n) (h0 : F (N0 + 166) = some (.inr (11, [.ref (N0 + 167), .ref (N0 + 168), .ref (N0 + 169), .ref (N0 + 170), .int 1]))) (h1 : F (N0 + 167) = some (.inl (cI, 20, .inl (upd (fun _ => 0) 0 97)))) (h2 : F (N0 + 169) = some (.inl (cI, 20, .inl (upd (fun _ => 0) 0 0)))) (h3 : F (N0 + 164) = some (.inr (12, [.ref (N0 + 165), .int 0, .ref (N0 + 181), .int 0, .int 0, .int 0, .int (-1), .ref (ql 24), .ref (N0 + 182), .ref (N0 + 187), .ref (N0 + 208), .ref (N0 + 209), .ref (N0 + 210), .ref (N0 + 211), .ref (N0 + 212), .int 0, .ref (N0 + 213), .ref (N0 + 218), .ref (N0 + 223), .ref (N0 + 224), .ref (N0 + 225), .ref (N0 + 226), .ref (N0 + 227), .int 0, .int 0, .ref (N0 + 228), .null, .int (-1), .int 0, .int 0, .int 0]))) (h4 : F (N0 + 187) = some (.inl (cII, 20, .inr (.inr (.inr (.inr (fun j => if j < 20 then some ((N0 + 188) + j) else none))))))) (h5 : F (N0 + 188) = some (.inl (cI, 20, .inl (fun _ => 0)))) : Met l yX10_fills wsX10_fills ({ frames := 2, cells := 4, slots := 2, locals := 47 }) (va_Pc [.ref (N0 + 164), .ref (N0 + 166), .ref (N0 + 166)] (fP N0 D vwCl (fty cI cC cL cD cII cTr cTm cIt cB) (fen ql) F n)) (fQi N0 D vwCl (fty cI cC cL cD cII cTr cTm cIt cB) (fun (r : Int32) (_ : Unit) => r = 0) (fun _ => (fblk (fu F (N0 + 188) (.inl (cI, 20, .inl (upd (fun _ => 0) 0 0)))) n [.inl (cI, 0, .inl (fun _ => 0)), .inl (cI, 0, .inl (fun _ => 0)), .inl (cII, 1, .inr (.inr (.inr (.inr (fun j => if j < 1 then some ((n + 3) + j) else none))))), .inl (cI, 1, .inl (fun _ => 0))])) (fun _ => (n + 4))) 4 2 (fA N0) := by
  refine fx_start 6 rfl rfl (Nat.le_of_ble_eq_true rfl) ?_ rfl
  intro p e s m below meth c ls S hr hlocks hin hG hl
  have hl : lv_has ls 6 [(0, .ref (N0 + 164)), (1, .ref (N0 + 166)), (2, .ref (N0 + 166))] := hl
  have lt_h0 := hG.1.lt h0
  have lt_h1 := hG.1.lt h1
  have lt_h2 := hG.1.lt h2
  have lt_h3 := hG.1.lt h3
  have lt_h4 := hG.1.lt h4
  have lt_h5 := hG.1.lt h5
  refine lv_aload_n S.1 S.2.1 dX10_fills_0 rfl (lv_at hl 1 rfl) ?_
  refine gx_getN (C := RX9) (T := TX9) (N := 5) S hG h0 i_X10_fills_X9 rfl 4 (by decide) (List.mem_of_getElem? (i := 4) rfl) rfl dX10_fills_1 ?_
  refine lv_iconst (v := 1) S.1 S.2.1 dX10_fills_4 (by decide) ?_
  refine lv_isub S.1 S.2.1 dX10_fills_5 ?_
  refine fx_topi (y := 0) (by decide) ?_
  refine lv_istore_n (lv' := [(3, .int 0), (0, .ref (N0 + 164)), (1, .ref (N0 + 166)), (2, .ref (N0 + 166))]) S.1 S.2.1 dX10_fills_6 rfl hl (by decide) rfl (fun ls hl => ?_)
  refine lv_iload_n S.1 S.2.1 dX10_fills_7 rfl (lv_at hl 0 rfl) ?_
  refine lv_if_lt (tgt := 114) S.1 S.2.1 dX10_fills_8 (by decide) (fun c => absurd c (by decide)) (fun _ => ?_)
  refine lv_aload_n S.1 S.2.1 dX10_fills_11 rfl (lv_at hl 3 rfl) ?_
  refine gx_getN (C := RX9) (T := TX9) (N := 5) S hG h0 i_X10_fills_X9 rfl 4 (by decide) (List.mem_of_getElem? (i := 4) rfl) rfl dX10_fills_12 ?_
  refine lv_iconst (v := 1) S.1 S.2.1 dX10_fills_15 (by decide) ?_
  refine lv_isub S.1 S.2.1 dX10_fills_16 ?_
  refine fx_topi (y := 0) (by decide) ?_
  refine lv_istore (lv' := [(4, .int 0), (3, .int 0), (0, .ref (N0 + 164)), (1, .ref (N0 + 166)), (2, .ref (N0 + 166))]) S.1 S.2.1 dX10_fills_17 hl (by decide) rfl (fun ls hl => ?_)
  refine lv_iload S.1 S.2.1 dX10_fills_19 (lv_at hl 0 rfl) ?_
  refine lv_if_lt (tgt := 108) S.1 S.2.1 dX10_fills_21 (by decide) (fun c => absurd c (by decide)) (fun _ => ?_)
  refine lv_aload_n S.1 S.2.1 dX10_fills_24 rfl (lv_at hl 3 rfl) ?_
  refine gx_getN (C := RX9) (T := TX9) (N := 5) S hG h0 i_X10_fills_X9 rfl 0 (by decide) (List.mem_of_getElem? (i := 1) rfl) rfl dX10_fills_25 ?_
  refine lv_iload_n S.1 S.2.1 dX10_fills_28 rfl (lv_at hl 1 rfl) ?_
  refine gx_iald (v := 97) S hG 0 h1 rfl (fin_l (by decide)) (by decide) dX10_fills_29 ?_
  refine lv_aload_n S.1 S.2.1 dX10_fills_30 rfl (lv_at hl 4 rfl) ?_
  refine gx_getN (C := RX9) (T := TX9) (N := 5) S hG h0 i_X10_fills_X9 rfl 0 (by decide) (List.mem_of_getElem? (i := 1) rfl) rfl dX10_fills_31 ?_
  refine lv_iload S.1 S.2.1 dX10_fills_34 (lv_at hl 0 rfl) ?_
  refine gx_iald (v := 97) S hG 0 h1 rfl (fin_l (by decide)) (by decide) dX10_fills_36 ?_
  refine lv_icmp_ne (tgt := 44) S.1 S.2.1 dX10_fills_37 (by decide) (fun c => absurd (by decide) c) (fun _ => ?_)
  refine lv_iconst (v := 0) S.1 S.2.1 dX10_fills_40 (by decide) ?_
  refine lv_goto (tgt := 45) S.1 S.2.1 dX10_fills_41 (by decide) ?_
  refine lv_aload_n S.1 S.2.1 dX10_fills_45 rfl (lv_at hl 3 rfl) ?_
  refine gx_getN (C := RX9) (T := TX9) (N := 5) S hG h0 i_X10_fills_X9 rfl 2 (by decide) (List.mem_of_getElem? (i := 3) rfl) rfl dX10_fills_46 ?_
  refine lv_iload_n S.1 S.2.1 dX10_fills_49 rfl (lv_at hl 1 rfl) ?_
  refine gx_iald (v := 0) S hG 0 h2 rfl (fin_l (by decide)) (by decide) dX10_fills_50 ?_
  refine lv_aload_n S.1 S.2.1 dX10_fills_51 rfl (lv_at hl 4 rfl) ?_
  refine gx_getN (C := RX9) (T := TX9) (N := 5) S hG h0 i_X10_fills_X9 rfl 2 (by decide) (List.mem_of_getElem? (i := 3) rfl) rfl dX10_fills_52 ?_
  refine lv_iload S.1 S.2.1 dX10_fills_55 (lv_at hl 0 rfl) ?_
  refine gx_iald (v := 0) S hG 0 h2 rfl (fin_l (by decide)) (by decide) dX10_fills_57 ?_
  refine lv_icmp_ne (tgt := 65) S.1 S.2.1 dX10_fills_58 (by decide) (fun c => absurd (by decide) c) (fun _ => ?_)
  refine lv_iconst (v := 0) S.1 S.2.1 dX10_fills_61 (by decide) ?_
  refine lv_goto (tgt := 66) S.1 S.2.1 dX10_fills_62 (by decide) ?_
  refine lv_iadd S.1 S.2.1 dX10_fills_66 ?_
  refine fx_topi (y := 0) (by decide) ?_
  refine lv_istore (lv' := [(5, .int 0), (4, .int 0), (3, .int 0), (0, .ref (N0 + 164)), (1, .ref (N0 + 166)), (2, .ref (N0 + 166))]) S.1 S.2.1 dX10_fills_67 hl (by decide) rfl (fun ls hl => ?_)
  refine lv_aload_n S.1 S.2.1 dX10_fills_69 rfl (lv_at hl 3 rfl) ?_
  refine gx_get (C := RX10) (T := TX10) (N := 31) S hG h3 i_X10_fills_X10 rfl 9 (by decide) (by decide +kernel) rfl dX10_fills_70 ?_
  refine lv_iload_n S.1 S.2.1 dX10_fills_73 rfl (lv_at hl 2 rfl) ?_
  refine gx_aldq (x := (N0 + 188)) S hG 4 rfl h4 rfl (fin_l (by decide)) (rfl) dX10_fills_74 ?_
  refine lv_iload S.1 S.2.1 dX10_fills_75 (lv_at hl 1 rfl) ?_
  refine lv_iload S.1 S.2.1 dX10_fills_77 (lv_at hl 0 rfl) ?_
  refine lv_aload_n S.1 S.2.1 dX10_fills_79 rfl (lv_at hl 3 rfl) ?_
  refine lv_aload_n S.1 S.2.1 dX10_fills_80 rfl (lv_at hl 4 rfl) ?_
  refine lv_aload_n S.1 S.2.1 dX10_fills_81 rfl (lv_at hl 4 rfl) ?_
  refine lv_iload_n S.1 S.2.1 dX10_fills_82 rfl (lv_at hl 2 rfl) ?_
  refine fx_cVNr (host := "TreeDifferModel") (As := [.int 0]) (rest := [.ref (N0 + 166), .ref (N0 + 164), .int 0, .int 0, .ref (N0 + 188)]) S hG (k89_X9_kids (by omega) h0) h0 rfl ⟨(va_cnB 1 S.2.2.2.2 gX10_fills_X9_kids_n173 rfl rfl rfl (hG.nest (show _ ∈ fen2.2.2.1 from by decide)) (S.2.2.2.2 (.initialized RX9) (by decide +kernel)) (by decide +kernel) ⟨Nat.le_of_ble_eq_true rfl, Nat.le_of_ble_eq_true rfl⟩), S.2.2.2.2 (.instanceMethod yX9_kids) (by decide +kernel), S.2.2.2.2 (.selects RX9 yX9_kids yX9_kids) (by decide +kernel)⟩ rfl hl.1 rfl (Nat.le_of_ble_eq_true rfl) dX10_fills_83 ⟨Nat.le_of_ble_eq_true rfl, Nat.le_of_ble_eq_true rfl⟩ (fun rv_1 _ H locs hp hG => ?_)
  subst rv_1
  refine W.widen (k := 1) (n := 0) (by decide) (by decide) ?_
  refine lv_aload_n S.1 S.2.1 dX10_fills_86 rfl (lv_at hl 5 rfl) ?_
  refine lv_aload_n S.1 S.2.1 dX10_fills_87 rfl (lv_at hl 5 rfl) ?_
  refine lv_iload S.1 S.2.1 dX10_fills_88 (lv_at hl 1 rfl) ?_
  refine fx_cVNr (host := "TreeDifferModel") (As := [.int 0]) (rest := [.ref (N0 + 166), .ref n, .ref (N0 + 166), .ref (N0 + 164), .int 0, .int 0, .ref (N0 + 188)]) S hG (k89_X9_kids (by omega) (fblk_sk 1 rfl (by omega) h0)) (fblk_sk 1 rfl (by omega) h0) rfl ⟨(va_cnB 1 S.2.2.2.2 gX10_fills_X9_kids_n173 rfl rfl rfl (hG.nest (show _ ∈ fen2.2.2.1 from by decide)) (S.2.2.2.2 (.initialized RX9) (by decide +kernel)) (by decide +kernel) ⟨Nat.le_of_ble_eq_true rfl, Nat.le_of_ble_eq_true rfl⟩), S.2.2.2.2 (.instanceMethod yX9_kids) (by decide +kernel), S.2.2.2.2 (.selects RX9 yX9_kids yX9_kids) (by decide +kernel)⟩ rfl hl.1 rfl (Nat.le_of_ble_eq_true rfl) dX10_fills_90 ⟨Nat.le_of_ble_eq_true rfl, Nat.le_of_ble_eq_true rfl⟩ (fun rv_2 _ H locs hp hG => ?_)
  subst rv_2
  refine W.widen (k := 2) (n := 0) (by decide) (by decide) ?_
  refine fx_cVr (As := [.ref (N0 + 166), .ref n, .ref (N0 + 166), .ref (n + 1)]) (rest := [.int 0, .int 0, .ref (N0 + 188)]) S hG (k1192_X10_left (by omega) (by omega) (fblk_sk 1 rfl (by omega) (fblk_at 0 (by omega) rfl)) (fblk_at 0 (by omega) rfl)) (fblk_sk 1 rfl (by omega) (fblk_sk 1 rfl (by omega) h3)) rfl (cwV 4 S.2.2.2.2 gX10_fills_X10_left rfl rfl rfl (by decide +kernel) ⟨Nat.le_of_ble_eq_true rfl, Nat.le_of_ble_eq_true rfl⟩) rfl hl.1 rfl (Nat.le_of_ble_eq_true rfl) dX10_fills_93 ⟨Nat.le_of_ble_eq_true rfl, Nat.le_of_ble_eq_true rfl⟩ (fun rv_3 _ H locs hp hG => ?_)
  subst rv_3
  refine W.widen (k := 4) (n := 2) (by decide) (by decide) ?_
  refine lv_iconst (v := 0) S.1 S.2.1 dX10_fills_96 (by decide) ?_
  refine gx_aldq (x := (n + 3)) S hG 4 rfl (fblk_at 0 (by omega) rfl) rfl (fin_l (by decide)) (rfl) dX10_fills_97 ?_
  refine lv_iconst (v := 0) S.1 S.2.1 dX10_fills_98 (by decide) ?_
  refine gx_iald (v := 0) S hG 0 (fblk_at 1 (by omega) rfl) rfl (fin_l (by decide)) (by decide) dX10_fills_99 ?_
  refine lv_iadd S.1 S.2.1 dX10_fills_100 ?_
  refine fx_topi (y := 0) (by decide) ?_
  refine gx_iast (f' := upd (fun _ => 0) 0 0) S hG 0 (fblk_sk 2 rfl (by omega) (fblk_sk 1 rfl (by omega) (fblk_sk 1 rfl (by omega) h5))) rfl (fin_l (by decide)) dX10_fills_101 (rfl) (fun H locs hG => ?_)
  refine lv_iinc (v := (-1)) (lv' := [(4, .int (-1)), (5, .int 0), (3, .int 0), (0, .ref (N0 + 164)), (1, .ref (N0 + 166)), (2, .ref (N0 + 166))]) S.1 S.2.1 dX10_fills_102 hl (k := 1) rfl (by decide) (by decide) rfl (fun ls hl => ?_)
  refine lv_goto (tgt := 19) S.1 S.2.1 dX10_fills_105 (by decide) ?_
  refine lv_iload S.1 S.2.1 dX10_fills_19 (lv_at hl 0 rfl) ?_
  refine lv_if_lt (tgt := 108) S.1 S.2.1 dX10_fills_21 (by decide) (fun _ => ?_) (fun c => absurd (by decide) c)
  refine lv_iinc (v := (-1)) (lv' := [(3, .int (-1)), (4, .int (-1)), (5, .int 0), (0, .ref (N0 + 164)), (1, .ref (N0 + 166)), (2, .ref (N0 + 166))]) S.1 S.2.1 dX10_fills_108 hl (k := 2) rfl (by decide) (by decide) rfl (fun ls hl => ?_)
  refine lv_goto (tgt := 7) S.1 S.2.1 dX10_fills_111 (by decide) ?_
  refine lv_iload_n S.1 S.2.1 dX10_fills_7 rfl (lv_at hl 0 rfl) ?_
  refine lv_if_lt (tgt := 114) S.1 S.2.1 dX10_fills_8 (by decide) (fun _ => ?_) (fun c => absurd (by decide) c)
  refine lv_aload_n S.1 S.2.1 dX10_fills_114 rfl (lv_at hl 3 rfl) ?_
  refine gx_get (C := RX10) (T := TX10) (N := 31) S hG (fu_at (by omega) (fblk_sk 2 rfl (by omega) (fblk_sk 1 rfl (by omega) (fblk_sk 1 rfl (by omega) h3)))) i_X10_fills_X10 rfl 9 (by decide) (by decide +kernel) rfl dX10_fills_115 ?_
  refine lv_iconst (v := 0) S.1 S.2.1 dX10_fills_118 (by decide) ?_
  refine gx_aldq (x := (N0 + 188)) S hG 4 rfl (fu_at (by omega) (fblk_sk 2 rfl (by omega) (fblk_sk 1 rfl (by omega) (fblk_sk 1 rfl (by omega) h4)))) rfl (fin_l (by decide)) (rfl) dX10_fills_119 ?_
  refine lv_iconst (v := 0) S.1 S.2.1 dX10_fills_120 (by decide) ?_
  refine gx_iald (v := 0) S hG 0 fu_s rfl (fin_l (by decide)) (by decide) dX10_fills_121 ?_
  have hG : fG N0 D vwCl (fty cI cC cL cD cII cTr cTm cIt cB) (fen ql) s (fblk (fu F (N0 + 188) (.inl (cI, 20, .inl (upd (fun _ => 0) 0 0)))) n [.inl (cI, 0, .inl (fun _ => 0)), .inl (cI, 0, .inl (fun _ => 0)), .inl (cII, 1, .inr (.inr (.inr (.inr (fun j => if j < 1 then some ((n + 3) + j) else none))))), .inl (cI, 1, .inl (fun _ => 0))]) (n + 4) H locs := hG.weak (fun a e h => by
    rcases fblk_cases 4 rfl h with ⟨k, rfl, hlt, hk⟩ | ⟨hout, h⟩
    · rcases (show k = 0 ∨ k = 1 ∨ k = 2 ∨ k = 3 by omega) with rfl | rfl | rfl | rfl
      · cases (show some (.inl (cI, 0, .inl (fun _ => 0))) = some e from hk); exact (fu_at (by omega) (fblk_sk 2 rfl (by omega) (fblk_sk 1 rfl (by omega) (fblk_at 0 (by omega) rfl))))
      · cases (show some (.inl (cI, 0, .inl (fun _ => 0))) = some e from hk); exact (fu_at (by omega) (fblk_sk 2 rfl (by omega) (fblk_at 0 (by omega) rfl)))
      · cases (show some (.inl (cII, 1, .inr (.inr (.inr (.inr (fun j => if j < 1 then some ((n + 3) + j) else none)))))) = some e from hk); exact (fu_at (by omega) (fblk_at 0 (by omega) rfl))
      · cases (show some (.inl (cI, 1, .inl (fun _ => 0))) = some e from hk); exact (fu_at (by omega) (fblk_at 1 (by omega) rfl))
    · rcases fu_cases h with ⟨rfl, he⟩ | ⟨hne0, h⟩
      · cases he; exact fu_s
      · exact (fu_at (by omega) (fblk_sk 2 rfl (by omega) (fblk_sk 1 rfl (by omega) (fblk_sk 1 rfl (by omega) h)))))
  exact fx_iret S hr hlocks () hG (rfl) dX10_fills_122
theorem i_X10_distance_X10 : ∀ w ∈ u_ws RX10 TX10 31, w ∈ wsX10_distance := by decide +kernel
theorem k1194_X10_distance {n : Nat} (hn : N0 + 231 ≤ n) (h0 : F (N0 + 164) = some (.inr (12, [.ref (N0 + 165), .int 0, .ref (N0 + 181), .int 0, .int 0, .int 0, .int (-1), .ref (ql 24), .ref (N0 + 182), .ref (N0 + 187), .ref (N0 + 208), .ref (N0 + 209), .ref (N0 + 210), .ref (N0 + 211), .ref (N0 + 212), .int 0, .ref (N0 + 213), .ref (N0 + 218), .ref (N0 + 223), .ref (N0 + 224), .ref (N0 + 225), .ref (N0 + 226), .ref (N0 + 227), .int 0, .int 0, .ref (N0 + 228), .null, .int (-1), .int 0, .int 0, .int 0]))) (h1 : F (N0 + 165) = some (.inl (cTm, 3, .inr (.inr (.inr (.inr (va_up (va_up (va_up (fun _ => none) 0 (some (N0 + 166))) 1 (some (N0 + 171))) 2 (some (N0 + 176))))))))) (h2 : F (N0 + 166) = some (.inr (11, [.ref (N0 + 167), .ref (N0 + 168), .ref (N0 + 169), .ref (N0 + 170), .int 1]))) (h3 : F (N0 + 167) = some (.inl (cI, 20, .inl (upd (fun _ => 0) 0 97)))) (h4 : F (N0 + 169) = some (.inl (cI, 20, .inl (upd (fun _ => 0) 0 0)))) (h5 : F (N0 + 187) = some (.inl (cII, 20, .inr (.inr (.inr (.inr (fun j => if j < 20 then some ((N0 + 188) + j) else none))))))) (h6 : F (N0 + 188) = some (.inl (cI, 20, .inl (fun _ => 0)))) : Met l yX10_distance wsX10_distance ({ frames := 3, cells := 4, slots := 2, locals := 72 }) (va_Pc [.ref (N0 + 164), .int 0, .int 0] (fP N0 D vwCl (fty cI cC cL cD cII cTr cTm cIt cB) (fen ql) F n)) (fQi N0 D vwCl (fty cI cC cL cD cII cTr cTm cIt cB) (fun (r : Int32) (_ : Unit) => r = 0) (fun _ => (fblk (fu (fu F (N0 + 164) (.inr (12, [.ref (N0 + 165), .int 0, .ref (N0 + 181), .int 0, .int 0, .int 0, .int (-1), .ref (ql 24), .ref (N0 + 182), .ref (N0 + 187), .ref (N0 + 208), .ref (N0 + 209), .ref (N0 + 210), .ref (N0 + 211), .ref (N0 + 212), .int 0, .ref (N0 + 213), .ref (N0 + 218), .ref (N0 + 223), .ref (N0 + 224), .ref (N0 + 225), .ref (N0 + 226), .ref (N0 + 227), .int 0, .int 0, .ref (N0 + 228), .null, .int (-1), .int 0, .int 0, .int 0]))) (N0 + 188) (.inl (cI, 20, .inl (upd (fun _ => 0) 0 0)))) n [.inl (cI, 0, .inl (fun _ => 0)), .inl (cI, 0, .inl (fun _ => 0)), .inl (cII, 1, .inr (.inr (.inr (.inr (fun j => if j < 1 then some ((n + 3) + j) else none))))), .inl (cI, 1, .inl (fun _ => 0))])) (fun _ => (n + 4))) 4 2 (fA N0) := by
  refine fx_start 3 rfl rfl (Nat.le_of_ble_eq_true rfl) ?_ rfl
  intro p e s m below meth c ls S hr hlocks hin hG hl
  have hl : lv_has ls 3 [(0, .ref (N0 + 164)), (1, .int 0), (2, .int 0)] := hl
  have lt_h0 := hG.1.lt h0
  have lt_h1 := hG.1.lt h1
  have lt_h2 := hG.1.lt h2
  have lt_h3 := hG.1.lt h3
  have lt_h4 := hG.1.lt h4
  have lt_h5 := hG.1.lt h5
  have lt_h6 := hG.1.lt h6
  refine lv_aload_n S.1 S.2.1 dX10_distance_0 rfl (lv_at hl 0 rfl) ?_
  refine lv_iload_n S.1 S.2.1 dX10_distance_1 rfl (lv_at hl 1 rfl) ?_
  refine lv_iload_n S.1 S.2.1 dX10_distance_2 rfl (lv_at hl 2 rfl) ?_
  refine fx_cVi (As := [.int 0, .int 0]) (rest := []) S hG (k460_X10_areNone (by omega) h0) h0 rfl (cwV 2 S.2.2.2.2 gX10_distance_X10_areNone rfl rfl rfl (by decide +kernel) ⟨Nat.le_of_ble_eq_true rfl, Nat.le_of_ble_eq_true rfl⟩) rfl hl.1 rfl (Nat.le_of_ble_eq_true rfl) dX10_distance_3 ⟨Nat.le_of_ble_eq_true rfl, Nat.le_of_ble_eq_true rfl⟩ (fun rv_1 _ H locs hp hG => ?_)
  subst rv_1
  refine lv_if_eq (tgt := 13) S.1 S.2.1 dX10_distance_6 (by decide) (fun _ => ?_) (fun c => absurd (by decide) c)
  refine lv_aload_n S.1 S.2.1 dX10_distance_13 rfl (lv_at hl 0 rfl) ?_
  refine lv_aload_n S.1 S.2.1 dX10_distance_14 rfl (lv_at hl 0 rfl) ?_
  refine gx_get (C := RX10) (T := TX10) (N := 31) S hG fu_s i_X10_distance_X10 rfl 0 (by decide) (by decide +kernel) rfl dX10_distance_15 ?_
  refine lv_iload_n S.1 S.2.1 dX10_distance_18 rfl (lv_at hl 1 rfl) ?_
  refine gx_aldq (x := (N0 + 166)) S hG 6 rfl (fu_at (by omega) h1) rfl (fin_l (by decide)) (rfl) dX10_distance_19 ?_
  refine lv_aload_n S.1 S.2.1 dX10_distance_20 rfl (lv_at hl 0 rfl) ?_
  refine gx_get (C := RX10) (T := TX10) (N := 31) S hG fu_s i_X10_distance_X10 rfl 0 (by decide) (by decide +kernel) rfl dX10_distance_21 ?_
  refine lv_iload_n S.1 S.2.1 dX10_distance_24 rfl (lv_at hl 2 rfl) ?_
  refine gx_aldq (x := (N0 + 166)) S hG 6 rfl (fu_at (by omega) h1) rfl (fin_l (by decide)) (rfl) dX10_distance_25 ?_
  refine fx_cVi (As := [.ref (N0 + 166), .ref (N0 + 166)]) (rest := []) S hG (k1193_X10_fills (by omega) (fu_at (by omega) h2) (fu_at (by omega) h3) (fu_at (by omega) h4) fu_s (fu_at (by omega) h5) (fu_at (by omega) h6)) fu_s rfl (cwV 2 S.2.2.2.2 gX10_distance_X10_fills rfl rfl rfl (by decide +kernel) ⟨Nat.le_of_ble_eq_true rfl, Nat.le_of_ble_eq_true rfl⟩) rfl hl.1 rfl (Nat.le_of_ble_eq_true rfl) dX10_distance_26 ⟨Nat.le_of_ble_eq_true rfl, Nat.le_of_ble_eq_true rfl⟩ (fun rv_2 _ H locs hp hG => ?_)
  subst rv_2
  refine W.widen (k := 4) (n := 2) (by decide) (by decide) ?_
  have hG : fG N0 D vwCl (fty cI cC cL cD cII cTr cTm cIt cB) (fen ql) s (fblk (fu (fu F (N0 + 164) (.inr (12, [.ref (N0 + 165), .int 0, .ref (N0 + 181), .int 0, .int 0, .int 0, .int (-1), .ref (ql 24), .ref (N0 + 182), .ref (N0 + 187), .ref (N0 + 208), .ref (N0 + 209), .ref (N0 + 210), .ref (N0 + 211), .ref (N0 + 212), .int 0, .ref (N0 + 213), .ref (N0 + 218), .ref (N0 + 223), .ref (N0 + 224), .ref (N0 + 225), .ref (N0 + 226), .ref (N0 + 227), .int 0, .int 0, .ref (N0 + 228), .null, .int (-1), .int 0, .int 0, .int 0]))) (N0 + 188) (.inl (cI, 20, .inl (upd (fun _ => 0) 0 0)))) n [.inl (cI, 0, .inl (fun _ => 0)), .inl (cI, 0, .inl (fun _ => 0)), .inl (cII, 1, .inr (.inr (.inr (.inr (fun j => if j < 1 then some ((n + 3) + j) else none))))), .inl (cI, 1, .inl (fun _ => 0))]) (n + 4) H locs := hG.weak (fun a e h => by
    rcases fblk_cases 4 rfl h with ⟨k, rfl, hlt, hk⟩ | ⟨hout, h⟩
    · rcases (show k = 0 ∨ k = 1 ∨ k = 2 ∨ k = 3 by omega) with rfl | rfl | rfl | rfl
      · cases (show some (.inl (cI, 0, .inl (fun _ => 0))) = some e from hk); exact (fblk_at 0 (by omega) rfl)
      · cases (show some (.inl (cI, 0, .inl (fun _ => 0))) = some e from hk); exact (fblk_at 1 (by omega) rfl)
      · cases (show some (.inl (cII, 1, .inr (.inr (.inr (.inr (fun j => if j < 1 then some ((n + 3) + j) else none)))))) = some e from hk); exact (fblk_at 2 (by omega) rfl)
      · cases (show some (.inl (cI, 1, .inl (fun _ => 0))) = some e from hk); exact (fblk_at 3 (by omega) rfl)
    · rcases fu_cases h with ⟨rfl, he⟩ | ⟨hne0, h⟩
      · cases he; exact (fblk_sk 4 rfl (by omega) fu_s)
      · skip
        rcases fu_cases h with ⟨rfl, he⟩ | ⟨hne1, h⟩
        · cases he; exact (fblk_sk 4 rfl (by omega) (fu_at (by omega) fu_s))
        · exact (fblk_sk 4 rfl (by omega) (fu_at (by omega) (fu_at (by omega) h))))
  exact fx_iret S hr hlocks () hG (rfl) dX10_distance_29
theorem k1195_X5_listWidths {n : Nat} (hn : N0 + 231 ≤ n) (h0 : F (N0 + 150) = some (.inr (7, [.ref (N0 + 151), .ref (N0 + 152), .ref (N0 + 153), .ref (N0 + 154), .ref (N0 + 155), .ref (N0 + 156), .int 1]))) (h1 : F (N0 + 58) = some (.inl (cI, 20, .inl (fun _ => 0)))) : Met l yX5_listWidths wsX5_listWidths ({ frames := 1, cells := 0, slots := 0, locals := 22 }) (va_Pc [.ref (N0 + 150), .ref (N0 + 58)] (fP N0 D vwCl (fty cI cC cL cD cII cTr cTm cIt cB) (fen ql) F n)) (fQv N0 D vwCl (fty cI cC cL cD cII cTr cTm cIt cB) (fun (_ : Unit) => True) (fun _ => (fu F (N0 + 58) (.inl (cI, 20, .inl (upd (fun _ => 0) 0 1))))) (fun _ => n)) 0 0 (fA N0) := by
  refine fx_start 3 rfl rfl (Nat.le_of_ble_eq_true rfl) ?_ rfl
  intro p e s m below meth c ls S hr hlocks hin hG hl
  have hl : lv_has ls 3 [(0, .ref (N0 + 150)), (1, .ref (N0 + 58))] := hl
  have lt_h0 := hG.1.lt h0
  have lt_h1 := hG.1.lt h1
  refine lv_iconst (v := 0) S.1 S.2.1 dX5_listWidths_0 (by decide) ?_
  refine lv_istore_n (lv' := [(2, .int 0), (0, .ref (N0 + 150)), (1, .ref (N0 + 58))]) S.1 S.2.1 dX5_listWidths_1 rfl hl (by decide) rfl (fun ls hl => ?_)
  refine lv_iload_n S.1 S.2.1 dX5_listWidths_2 rfl (lv_at hl 0 rfl) ?_
  refine lv_aload_n S.1 S.2.1 dX5_listWidths_3 rfl (lv_at hl 1 rfl) ?_
  refine gx_get (C := RX5) (T := TX5) (N := 7) S hG h0 i_X5_listWidths_X5 rfl 6 (by decide) (by decide +kernel) rfl dX5_listWidths_4 ?_
  refine lv_icmp_ge (tgt := 30) S.1 S.2.1 dX5_listWidths_7 (by decide) (fun c => absurd c (by decide)) (fun _ => ?_)
  refine lv_iload_n S.1 S.2.1 dX5_listWidths_10 rfl (lv_at hl 0 rfl) ?_
  refine lv_aload_n S.1 S.2.1 dX5_listWidths_11 rfl (lv_at hl 2 rfl) ?_
  refine gx_alen (v := 20) S hG 0 h1 rfl (rfl) dX5_listWidths_12 ?_
  refine lv_icmp_ge (tgt := 30) S.1 S.2.1 dX5_listWidths_13 (by decide) (fun c => absurd c (by decide)) (fun _ => ?_)
  refine lv_aload_n S.1 S.2.1 dX5_listWidths_16 rfl (lv_at hl 2 rfl) ?_
  refine lv_iload_n S.1 S.2.1 dX5_listWidths_17 rfl (lv_at hl 0 rfl) ?_
  refine lv_aload_n S.1 S.2.1 dX5_listWidths_18 rfl (lv_at hl 1 rfl) ?_
  refine lv_iload_n S.1 S.2.1 dX5_listWidths_19 rfl (lv_at hl 0 rfl) ?_
  refine fx_cVi (As := [.int 0]) (rest := [.int 0, .ref (N0 + 58)]) S hG (k157_X5_widthOf (by omega) h0) h0 rfl (cwV 1 S.2.2.2.2 gX5_listWidths_X5_widthOf rfl rfl rfl (by decide +kernel) ⟨Nat.le_of_ble_eq_true rfl, Nat.le_of_ble_eq_true rfl⟩) rfl hl.1 rfl (Nat.le_of_ble_eq_true rfl) dX5_listWidths_20 ⟨Nat.le_of_ble_eq_true rfl, Nat.le_of_ble_eq_true rfl⟩ (fun rv_1 _ H locs hp hG => ?_)
  subst rv_1
  refine gx_iast (f' := upd (fun _ => 0) 0 1) S hG 0 h1 rfl (fin_l (by decide)) dX5_listWidths_23 (rfl) (fun H locs hG => ?_)
  refine lv_iinc (v := 1) (lv' := [(2, .int 1), (0, .ref (N0 + 150)), (1, .ref (N0 + 58))]) S.1 S.2.1 dX5_listWidths_24 hl (k := 0) rfl (by decide) (by decide) rfl (fun ls hl => ?_)
  refine lv_goto (tgt := 2) S.1 S.2.1 dX5_listWidths_27 (by decide) ?_
  refine lv_iload_n S.1 S.2.1 dX5_listWidths_2 rfl (lv_at hl 0 rfl) ?_
  refine lv_aload_n S.1 S.2.1 dX5_listWidths_3 rfl (lv_at hl 1 rfl) ?_
  refine gx_get (C := RX5) (T := TX5) (N := 7) S hG (fu_at (by omega) h0) i_X5_listWidths_X5 rfl 6 (by decide) (by decide +kernel) rfl dX5_listWidths_4 ?_
  refine lv_icmp_ge (tgt := 30) S.1 S.2.1 dX5_listWidths_7 (by decide) (fun _ => ?_) (fun c => absurd (by decide) c)
  exact fx_vret S hr hlocks () hG trivial dX5_listWidths_30
theorem k1196_X5_listChildren {n : Nat} (hn : N0 + 231 ≤ n) (h0 : F (N0 + 150) = some (.inr (7, [.ref (N0 + 151), .ref (N0 + 152), .ref (N0 + 153), .ref (N0 + 154), .ref (N0 + 155), .ref (N0 + 156), .int 1]))) : Met l yX5_listChildren wsX5_listChildren ({ frames := 0, cells := 0, slots := 0, locals := 0 }) (va_Pc [.ref (N0 + 150), .int 0, .ref (N0 + 60)] (fP N0 D vwCl (fty cI cC cL cD cII cTr cTm cIt cB) (fen ql) F n)) (fQi N0 D vwCl (fty cI cC cL cD cII cTr cTm cIt cB) (fun (r : Int32) (_ : Unit) => r = 0) (fun _ => F) (fun _ => n)) 0 0 (fA N0) := by
  refine fx_start 5 rfl rfl (Nat.le_of_ble_eq_true rfl) ?_ rfl
  intro p e s m below meth c ls S hr hlocks hin hG hl
  have hl : lv_has ls 5 [(0, .ref (N0 + 150)), (1, .int 0), (2, .ref (N0 + 60))] := hl
  have lt_h0 := hG.1.lt h0
  refine lv_iconst (v := 0) S.1 S.2.1 dX5_listChildren_0 (by decide) ?_
  refine lv_istore_n (lv' := [(3, .int 0), (0, .ref (N0 + 150)), (1, .int 0), (2, .ref (N0 + 60))]) S.1 S.2.1 dX5_listChildren_1 rfl hl (by decide) rfl (fun ls hl => ?_)
  refine lv_iload_n S.1 S.2.1 dX5_listChildren_2 rfl (lv_at hl 2 rfl) ?_
  refine lv_iconst (v := 1) S.1 S.2.1 dX5_listChildren_3 (by decide) ?_
  refine lv_iadd S.1 S.2.1 dX5_listChildren_4 ?_
  refine fx_topi (y := 1) (by decide) ?_
  refine lv_istore (lv' := [(4, .int 1), (3, .int 0), (0, .ref (N0 + 150)), (1, .int 0), (2, .ref (N0 + 60))]) S.1 S.2.1 dX5_listChildren_5 hl (by decide) rfl (fun ls hl => ?_)
  refine lv_iload S.1 S.2.1 dX5_listChildren_7 (lv_at hl 0 rfl) ?_
  refine lv_aload_n S.1 S.2.1 dX5_listChildren_9 rfl (lv_at hl 2 rfl) ?_
  refine gx_get (C := RX5) (T := TX5) (N := 7) S hG h0 i_X5_listChildren_X5 rfl 6 (by decide) (by decide +kernel) rfl dX5_listChildren_10 ?_
  refine lv_icmp_ge (tgt := 47) S.1 S.2.1 dX5_listChildren_13 (by decide) (fun _ => ?_) (fun c => absurd (by decide) c)
  refine lv_iload_n S.1 S.2.1 dX5_listChildren_47 rfl (lv_at hl 1 rfl) ?_
  exact fx_iret S hr hlocks () hG (rfl) dX5_listChildren_48
theorem k1197_X1_restCost {n : Nat} (hn : N0 + 231 ≤ n) (h0 : F (N0 + 13) = some (.inr (3, [.ref (N0 + 14), .ref (N0 + 35), .ref (N0 + 57), .ref (N0 + 58), .ref (N0 + 59), .ref (N0 + 60), .int 0, .int 0, .ref (N0 + 61), .ref (N0 + 62)]))) : Met l yX1_restCost wsX1_restCost ({ frames := 0, cells := 0, slots := 0, locals := 0 }) (va_Pc [.ref (N0 + 13), .ref (N0 + 143), .ref (N0 + 150), .int 0, .int 0] (fP N0 D vwCl (fty cI cC cL cD cII cTr cTm cIt cB) (fen ql) F n)) (fQi N0 D vwCl (fty cI cC cL cD cII cTr cTm cIt cB) (fun (r : Int32) (_ : Unit) => r = 0) (fun _ => F) (fun _ => n)) 0 0 (fA N0) := by
  refine fx_start 6 rfl rfl (Nat.le_of_ble_eq_true rfl) ?_ rfl
  intro p e s m below meth c ls S hr hlocks hin hG hl
  have hl : lv_has ls 6 [(0, .ref (N0 + 13)), (1, .ref (N0 + 143)), (2, .ref (N0 + 150)), (3, .int 0), (4, .int 0)] := hl
  have lt_h0 := hG.1.lt h0
  refine lv_iload_n S.1 S.2.1 dX1_restCost_0 rfl (lv_at hl 3 rfl) ?_
  refine lv_aload_n S.1 S.2.1 dX1_restCost_1 rfl (lv_at hl 0 rfl) ?_
  refine gx_get (C := RX1) (T := TX1) (N := 10) S hG h0 i_X1_restCost_X1 rfl 6 (by decide) (by decide +kernel) rfl dX1_restCost_2 ?_
  refine lv_icmp_ne (tgt := 29) S.1 S.2.1 dX1_restCost_5 (by decide) (fun c => absurd (by decide) c) (fun _ => ?_)
  refine lv_iload S.1 S.2.1 dX1_restCost_8 (lv_at hl 4 rfl) ?_
  refine lv_aload_n S.1 S.2.1 dX1_restCost_10 rfl (lv_at hl 0 rfl) ?_
  refine gx_get (C := RX1) (T := TX1) (N := 10) S hG h0 i_X1_restCost_X1 rfl 7 (by decide) (by decide +kernel) rfl dX1_restCost_11 ?_
  refine lv_icmp_ne (tgt := 21) S.1 S.2.1 dX1_restCost_14 (by decide) (fun c => absurd (by decide) c) (fun _ => ?_)
  refine lv_iconst (v := 0) S.1 S.2.1 dX1_restCost_17 (by decide) ?_
  refine lv_goto (tgt := 28) S.1 S.2.1 dX1_restCost_18 (by decide) ?_
  exact fx_iret S hr hlocks () hG (rfl) dX1_restCost_28
theorem k1198_X1_fillRestCosts {n : Nat} (hn : N0 + 231 ≤ n) (h0 : F (N0 + 13) = some (.inr (3, [.ref (N0 + 14), .ref (N0 + 35), .ref (N0 + 57), .ref (N0 + 58), .ref (N0 + 59), .ref (N0 + 60), .int 0, .int 0, .ref (N0 + 61), .ref (N0 + 62)]))) (h1 : F (N0 + 35) = some (.inl (cII, 21, .inr (.inr (.inr (.inr (fun j => if j < 21 then some ((N0 + 36) + j) else none))))))) (h2 : F (N0 + 36) = some (.inl (cI, 21, .inl (fun _ => 0)))) : Met l yX1_fillRestCosts wsX1_fillRestCosts ({ frames := 1, cells := 0, slots := 0, locals := 25 }) (va_Pc [.ref (N0 + 13), .ref (N0 + 143), .ref (N0 + 150)] (fP N0 D vwCl (fty cI cC cL cD cII cTr cTm cIt cB) (fen ql) F n)) (fQv N0 D vwCl (fty cI cC cL cD cII cTr cTm cIt cB) (fun (_ : Unit) => True) (fun _ => (fu F (N0 + 36) (.inl (cI, 21, .inl (upd (fun _ => 0) 0 0))))) (fun _ => n)) 0 0 (fA N0) := by
  refine fx_start 5 rfl rfl (Nat.le_of_ble_eq_true rfl) ?_ rfl
  intro p e s m below meth c ls S hr hlocks hin hG hl
  have hl : lv_has ls 5 [(0, .ref (N0 + 13)), (1, .ref (N0 + 143)), (2, .ref (N0 + 150))] := hl
  have lt_h0 := hG.1.lt h0
  have lt_h1 := hG.1.lt h1
  have lt_h2 := hG.1.lt h2
  refine lv_aload_n S.1 S.2.1 dX1_fillRestCosts_0 rfl (lv_at hl 0 rfl) ?_
  refine gx_get (C := RX1) (T := TX1) (N := 10) S hG h0 i_X1_fillRestCosts_X1 rfl 6 (by decide) (by decide +kernel) rfl dX1_fillRestCosts_1 ?_
  refine lv_istore_n (lv' := [(3, .int 0), (0, .ref (N0 + 13)), (1, .ref (N0 + 143)), (2, .ref (N0 + 150))]) S.1 S.2.1 dX1_fillRestCosts_4 rfl hl (by decide) rfl (fun ls hl => ?_)
  refine lv_iload_n S.1 S.2.1 dX1_fillRestCosts_5 rfl (lv_at hl 0 rfl) ?_
  refine lv_if_lt (tgt := 50) S.1 S.2.1 dX1_fillRestCosts_6 (by decide) (fun c => absurd c (by decide)) (fun _ => ?_)
  refine lv_aload_n S.1 S.2.1 dX1_fillRestCosts_9 rfl (lv_at hl 1 rfl) ?_
  refine gx_get (C := RX1) (T := TX1) (N := 10) S hG h0 i_X1_fillRestCosts_X1 rfl 7 (by decide) (by decide +kernel) rfl dX1_fillRestCosts_10 ?_
  refine lv_istore (lv' := [(4, .int 0), (3, .int 0), (0, .ref (N0 + 13)), (1, .ref (N0 + 143)), (2, .ref (N0 + 150))]) S.1 S.2.1 dX1_fillRestCosts_13 hl (by decide) rfl (fun ls hl => ?_)
  refine lv_iload S.1 S.2.1 dX1_fillRestCosts_15 (lv_at hl 0 rfl) ?_
  refine lv_if_lt (tgt := 44) S.1 S.2.1 dX1_fillRestCosts_17 (by decide) (fun c => absurd c (by decide)) (fun _ => ?_)
  refine lv_aload_n S.1 S.2.1 dX1_fillRestCosts_20 rfl (lv_at hl 2 rfl) ?_
  refine gx_get (C := RX1) (T := TX1) (N := 10) S hG h0 i_X1_fillRestCosts_X1 rfl 1 (by decide) (by decide +kernel) rfl dX1_fillRestCosts_21 ?_
  refine lv_iload_n S.1 S.2.1 dX1_fillRestCosts_24 rfl (lv_at hl 1 rfl) ?_
  refine gx_aldq (x := (N0 + 36)) S hG 4 rfl h1 rfl (fin_l (by decide)) (rfl) dX1_fillRestCosts_25 ?_
  refine lv_iload S.1 S.2.1 dX1_fillRestCosts_26 (lv_at hl 0 rfl) ?_
  refine lv_aload_n S.1 S.2.1 dX1_fillRestCosts_28 rfl (lv_at hl 2 rfl) ?_
  refine lv_aload_n S.1 S.2.1 dX1_fillRestCosts_29 rfl (lv_at hl 3 rfl) ?_
  refine lv_aload_n S.1 S.2.1 dX1_fillRestCosts_30 rfl (lv_at hl 4 rfl) ?_
  refine lv_iload_n S.1 S.2.1 dX1_fillRestCosts_31 rfl (lv_at hl 1 rfl) ?_
  refine lv_iload S.1 S.2.1 dX1_fillRestCosts_32 (lv_at hl 0 rfl) ?_
  refine fx_cVi (As := [.ref (N0 + 143), .ref (N0 + 150), .int 0, .int 0]) (rest := [.int 0, .ref (N0 + 36)]) S hG (k1197_X1_restCost (by omega) h0) h0 rfl (cwV 4 S.2.2.2.2 gX1_fillRestCosts_X1_restCost rfl rfl rfl (by decide +kernel) ⟨Nat.le_of_ble_eq_true rfl, Nat.le_of_ble_eq_true rfl⟩) rfl hl.1 rfl (Nat.le_of_ble_eq_true rfl) dX1_fillRestCosts_34 ⟨Nat.le_of_ble_eq_true rfl, Nat.le_of_ble_eq_true rfl⟩ (fun rv_1 _ H locs hp hG => ?_)
  subst rv_1
  refine gx_iast (f' := upd (fun _ => 0) 0 0) S hG 0 h2 rfl (fin_l (by decide)) dX1_fillRestCosts_37 (rfl) (fun H locs hG => ?_)
  refine lv_iinc (v := (-1)) (lv' := [(4, .int (-1)), (3, .int 0), (0, .ref (N0 + 13)), (1, .ref (N0 + 143)), (2, .ref (N0 + 150))]) S.1 S.2.1 dX1_fillRestCosts_38 hl (k := 0) rfl (by decide) (by decide) rfl (fun ls hl => ?_)
  refine lv_goto (tgt := 15) S.1 S.2.1 dX1_fillRestCosts_41 (by decide) ?_
  refine lv_iload S.1 S.2.1 dX1_fillRestCosts_15 (lv_at hl 0 rfl) ?_
  refine lv_if_lt (tgt := 44) S.1 S.2.1 dX1_fillRestCosts_17 (by decide) (fun _ => ?_) (fun c => absurd (by decide) c)
  refine lv_iinc (v := (-1)) (lv' := [(3, .int (-1)), (4, .int (-1)), (0, .ref (N0 + 13)), (1, .ref (N0 + 143)), (2, .ref (N0 + 150))]) S.1 S.2.1 dX1_fillRestCosts_44 hl (k := 1) rfl (by decide) (by decide) rfl (fun ls hl => ?_)
  refine lv_goto (tgt := 5) S.1 S.2.1 dX1_fillRestCosts_47 (by decide) ?_
  refine lv_iload_n S.1 S.2.1 dX1_fillRestCosts_5 rfl (lv_at hl 0 rfl) ?_
  refine lv_if_lt (tgt := 50) S.1 S.2.1 dX1_fillRestCosts_6 (by decide) (fun _ => ?_) (fun c => absurd (by decide) c)
  exact fx_vret S hr hlocks () hG trivial dX1_fillRestCosts_50
theorem k1199_X7_changeCost {n : Nat} (hn : N0 + 231 ≤ n) (h0 : F (N0 + 143) = some (.inr (7, [.ref (N0 + 144), .ref (N0 + 145), .ref (N0 + 146), .ref (N0 + 147), .ref (N0 + 148), .ref (N0 + 149), .int 1]))) (h1 : F (N0 + 144) = some (.inl (cC, 20, .inl (upd (fun _ => 0) 0 97)))) (h2 : F (N0 + 150) = some (.inr (7, [.ref (N0 + 151), .ref (N0 + 152), .ref (N0 + 153), .ref (N0 + 154), .ref (N0 + 155), .ref (N0 + 156), .int 1]))) (h3 : F (N0 + 151) = some (.inl (cC, 20, .inl (upd (fun _ => 0) 0 97)))) (h4 : F (N0 + 146) = some (.inl (cI, 20, .inl (fun _ => 0)))) (h5 : F (N0 + 153) = some (.inl (cI, 20, .inl (fun _ => 0)))) : Met l yX7_changeCost wsX7_changeCost ({ frames := 0, cells := 0, slots := 0, locals := 0 }) (va_Pc [.ref (N0 + 143), .int 0, .ref (N0 + 150), .int 0] (fP N0 D vwCl (fty cI cC cL cD cII cTr cTm cIt cB) (fen ql) F n)) (fQi N0 D vwCl (fty cI cC cL cD cII cTr cTm cIt cB) (fun (r : Int32) (_ : Unit) => r = 0) (fun _ => F) (fun _ => n)) 0 0 (fA N0) := by
  refine fx_start 5 rfl rfl (Nat.le_of_ble_eq_true rfl) ?_ rfl
  intro p e s m below meth c ls S hr hlocks hin hG hl
  have hl : lv_has ls 5 [(0, .ref (N0 + 143)), (1, .int 0), (2, .ref (N0 + 150)), (3, .int 0)] := hl
  have lt_h0 := hG.1.lt h0
  have lt_h1 := hG.1.lt h1
  have lt_h2 := hG.1.lt h2
  have lt_h3 := hG.1.lt h3
  have lt_h4 := hG.1.lt h4
  have lt_h5 := hG.1.lt h5
  refine lv_iconst (v := 0) S.1 S.2.1 dX7_changeCost_0 (by decide) ?_
  refine lv_istore (lv' := [(4, .int 0), (0, .ref (N0 + 143)), (1, .int 0), (2, .ref (N0 + 150)), (3, .int 0)]) S.1 S.2.1 dX7_changeCost_1 hl (by decide) rfl (fun ls hl => ?_)
  refine lv_aload_n S.1 S.2.1 dX7_changeCost_3 rfl (lv_at hl 1 rfl) ?_
  refine gx_get (C := RX5) (T := TX5) (N := 7) S hG h0 i_X7_changeCost_X5 rfl 0 (by decide) (by decide +kernel) rfl dX7_changeCost_4 ?_
  refine lv_iload_n S.1 S.2.1 dX7_changeCost_7 rfl (lv_at hl 2 rfl) ?_
  refine gx_cald (v := 97) S hG 1 h1 rfl (fin_l (by decide)) (by decide) dX7_changeCost_8 ?_
  refine lv_aload_n S.1 S.2.1 dX7_changeCost_9 rfl (lv_at hl 3 rfl) ?_
  refine gx_get (C := RX5) (T := TX5) (N := 7) S hG h2 i_X7_changeCost_X5 rfl 0 (by decide) (by decide +kernel) rfl dX7_changeCost_10 ?_
  refine lv_iload_n S.1 S.2.1 dX7_changeCost_13 rfl (lv_at hl 4 rfl) ?_
  refine gx_cald (v := 97) S hG 1 h3 rfl (fin_l (by decide)) (by decide) dX7_changeCost_14 ?_
  refine lv_icmp_eq (tgt := 21) S.1 S.2.1 dX7_changeCost_15 (by decide) (fun _ => ?_) (fun c => absurd (by decide) c)
  refine lv_aload_n S.1 S.2.1 dX7_changeCost_21 rfl (lv_at hl 1 rfl) ?_
  refine gx_get (C := RX5) (T := TX5) (N := 7) S hG h0 i_X7_changeCost_X5 rfl 2 (by decide) (by decide +kernel) rfl dX7_changeCost_22 ?_
  refine lv_iload_n S.1 S.2.1 dX7_changeCost_25 rfl (lv_at hl 2 rfl) ?_
  refine gx_iald (v := 0) S hG 0 h4 rfl (fin_l (by decide)) (by decide) dX7_changeCost_26 ?_
  refine lv_aload_n S.1 S.2.1 dX7_changeCost_27 rfl (lv_at hl 3 rfl) ?_
  refine gx_get (C := RX5) (T := TX5) (N := 7) S hG h2 i_X7_changeCost_X5 rfl 2 (by decide) (by decide +kernel) rfl dX7_changeCost_28 ?_
  refine lv_iload_n S.1 S.2.1 dX7_changeCost_31 rfl (lv_at hl 4 rfl) ?_
  refine gx_iald (v := 0) S hG 0 h5 rfl (fin_l (by decide)) (by decide) dX7_changeCost_32 ?_
  refine lv_icmp_eq (tgt := 39) S.1 S.2.1 dX7_changeCost_33 (by decide) (fun _ => ?_) (fun c => absurd (by decide) c)
  refine lv_iload S.1 S.2.1 dX7_changeCost_39 (lv_at hl 0 rfl) ?_
  exact fx_iret S hr hlocks () hG (rfl) dX7_changeCost_41
set_option maxHeartbeats 16000000 in
theorem k1200_X1_leastCost {n : Nat} (hn : N0 + 231 ≤ n) (h0 : F (N0 + 13) = some (.inr (3, [.ref (N0 + 14), .ref (N0 + 35), .ref (N0 + 57), .ref (N0 + 58), .ref (N0 + 59), .ref (N0 + 60), .int 0, .int 0, .ref (N0 + 61), .ref (N0 + 62)]))) (h1 : F (N0 + 143) = some (.inr (7, [.ref (N0 + 144), .ref (N0 + 145), .ref (N0 + 146), .ref (N0 + 147), .ref (N0 + 148), .ref (N0 + 149), .int 1]))) (h2 : F (N0 + 57) = some (.inl (cI, 20, .inl (fun _ => 0)))) (h3 : F (N0 + 150) = some (.inr (7, [.ref (N0 + 151), .ref (N0 + 152), .ref (N0 + 153), .ref (N0 + 154), .ref (N0 + 155), .ref (N0 + 156), .int 1]))) (h4 : F (N0 + 58) = some (.inl (cI, 20, .inl (fun _ => 0)))) (h5 : F (N0 + 35) = some (.inl (cII, 21, .inr (.inr (.inr (.inr (fun j => if j < 21 then some ((N0 + 36) + j) else none))))))) (h6 : F (N0 + 36) = some (.inl (cI, 21, .inl (fun _ => 0)))) (h7 : F (N0 + 14) = some (.inl (cII, 20, .inr (.inr (.inr (.inr (fun j => if j < 20 then some ((N0 + 15) + j) else none))))))) (h8 : F (N0 + 144) = some (.inl (cC, 20, .inl (upd (fun _ => 0) 0 97)))) (h9 : F (N0 + 151) = some (.inl (cC, 20, .inl (upd (fun _ => 0) 0 97)))) (h10 : F (N0 + 146) = some (.inl (cI, 20, .inl (fun _ => 0)))) (h11 : F (N0 + 153) = some (.inl (cI, 20, .inl (fun _ => 0)))) (h12 : F (N0 + 15) = some (.inl (cI, 20, .inl (fun _ => 0)))) : Met l yX1_leastCost wsX1_leastCost ({ frames := 2, cells := 0, slots := 0, locals := 49 }) (va_Pc [.ref (N0 + 13), .ref (N0 + 143), .ref (N0 + 150)] (fP N0 D vwCl (fty cI cC cL cD cII cTr cTm cIt cB) (fen ql) F n)) (fQi N0 D vwCl (fty cI cC cL cD cII cTr cTm cIt cB) (fun (r : Int32) (_ : Unit) => r = 0) (fun _ => (fu (fu (fu (fu (fu F (N0 + 57) (.inl (cI, 20, .inl (upd (fun _ => 0) 0 1)))) (N0 + 58) (.inl (cI, 20, .inl (upd (fun _ => 0) 0 1)))) (N0 + 13) (.inr (3, [.ref (N0 + 14), .ref (N0 + 35), .ref (N0 + 57), .ref (N0 + 58), .ref (N0 + 59), .ref (N0 + 60), .int 0, .int 0, .ref (N0 + 61), .ref (N0 + 62)]))) (N0 + 36) (.inl (cI, 21, .inl (upd (fun _ => 0) 0 0)))) (N0 + 15) (.inl (cI, 20, .inl (upd (fun _ => 0) 0 0))))) (fun _ => n)) 0 0 (fA N0) := by
  refine fx_start 5 rfl rfl (Nat.le_of_ble_eq_true rfl) ?_ rfl
  intro p e s m below meth c ls S hr hlocks hin hG hl
  have hl : lv_has ls 5 [(0, .ref (N0 + 13)), (1, .ref (N0 + 143)), (2, .ref (N0 + 150))] := hl
  have lt_h0 := hG.1.lt h0
  have lt_h1 := hG.1.lt h1
  have lt_h2 := hG.1.lt h2
  have lt_h3 := hG.1.lt h3
  have lt_h4 := hG.1.lt h4
  have lt_h5 := hG.1.lt h5
  have lt_h6 := hG.1.lt h6
  have lt_h7 := hG.1.lt h7
  have lt_h8 := hG.1.lt h8
  have lt_h9 := hG.1.lt h9
  have lt_h10 := hG.1.lt h10
  have lt_h11 := hG.1.lt h11
  have lt_h12 := hG.1.lt h12
  refine lv_aload_n S.1 S.2.1 dX1_leastCost_0 rfl (lv_at hl 1 rfl) ?_
  refine lv_aload_n S.1 S.2.1 dX1_leastCost_1 rfl (lv_at hl 0 rfl) ?_
  refine gx_get (C := RX1) (T := TX1) (N := 10) S hG h0 i_X1_leastCost_X1 rfl 2 (by decide) (by decide +kernel) rfl dX1_leastCost_2 ?_
  refine fx_cVv (As := [.ref (N0 + 57)]) (rest := []) S hG (k1182_X5_listWidths (by omega) h1 h2) h1 rfl (cwV 1 S.2.2.2.2 gX1_leastCost_X5_listWidths rfl rfl rfl (by decide +kernel) ⟨Nat.le_of_ble_eq_true rfl, Nat.le_of_ble_eq_true rfl⟩) rfl hl.1 rfl (Nat.le_of_ble_eq_true rfl) dX1_leastCost_5 ⟨Nat.le_of_ble_eq_true rfl, Nat.le_of_ble_eq_true rfl⟩ (fun _ H locs hp hG => ?_)
  refine lv_aload_n S.1 S.2.1 dX1_leastCost_8 rfl (lv_at hl 2 rfl) ?_
  refine lv_aload_n S.1 S.2.1 dX1_leastCost_9 rfl (lv_at hl 0 rfl) ?_
  refine gx_get (C := RX1) (T := TX1) (N := 10) S hG (fu_at (by omega) h0) i_X1_leastCost_X1 rfl 3 (by decide) (by decide +kernel) rfl dX1_leastCost_10 ?_
  refine fx_cVv (As := [.ref (N0 + 58)]) (rest := []) S hG (k1195_X5_listWidths (by omega) (fu_at (by omega) h3) (fu_at (by omega) h4)) (fu_at (by omega) h3) rfl (cwV 1 S.2.2.2.2 gX1_leastCost_X5_listWidths rfl rfl rfl (by decide +kernel) ⟨Nat.le_of_ble_eq_true rfl, Nat.le_of_ble_eq_true rfl⟩) rfl hl.1 rfl (Nat.le_of_ble_eq_true rfl) dX1_leastCost_13 ⟨Nat.le_of_ble_eq_true rfl, Nat.le_of_ble_eq_true rfl⟩ (fun _ H locs hp hG => ?_)
  refine lv_aload_n S.1 S.2.1 dX1_leastCost_16 rfl (lv_at hl 1 rfl) ?_
  refine gx_get (C := RX5) (T := TX5) (N := 7) S hG (fu_at (by omega) (fu_at (by omega) h1)) i_X1_leastCost_X5 rfl 6 (by decide) (by decide +kernel) rfl dX1_leastCost_17 ?_
  refine lv_iconst (v := 1) S.1 S.2.1 dX1_leastCost_20 (by decide) ?_
  refine lv_isub S.1 S.2.1 dX1_leastCost_21 ?_
  refine fx_topi (y := 0) (by decide) ?_
  refine lv_istore_n (lv' := [(3, .int 0), (0, .ref (N0 + 13)), (1, .ref (N0 + 143)), (2, .ref (N0 + 150))]) S.1 S.2.1 dX1_leastCost_22 rfl hl (by decide) rfl (fun ls hl => ?_)
  refine lv_iload_n S.1 S.2.1 dX1_leastCost_23 rfl (lv_at hl 0 rfl) ?_
  refine lv_if_lt (tgt := 111) S.1 S.2.1 dX1_leastCost_24 (by decide) (fun c => absurd c (by decide)) (fun _ => ?_)
  refine lv_aload_n S.1 S.2.1 dX1_leastCost_27 rfl (lv_at hl 1 rfl) ?_
  refine lv_aload_n S.1 S.2.1 dX1_leastCost_28 rfl (lv_at hl 2 rfl) ?_
  refine lv_iload_n S.1 S.2.1 dX1_leastCost_29 rfl (lv_at hl 0 rfl) ?_
  refine lv_aload_n S.1 S.2.1 dX1_leastCost_30 rfl (lv_at hl 1 rfl) ?_
  refine gx_get (C := RX1) (T := TX1) (N := 10) S hG (fu_at (by omega) (fu_at (by omega) h0)) i_X1_leastCost_X1 rfl 4 (by decide) (by decide +kernel) rfl dX1_leastCost_31 ?_
  refine fx_cVi (As := [.int 0, .ref (N0 + 59)]) (rest := [.ref (N0 + 13)]) S hG (k1184_X5_listChildren (by omega) (fu_at (by omega) (fu_at (by omega) h1))) (fu_at (by omega) (fu_at (by omega) h1)) rfl (cwV 2 S.2.2.2.2 gX1_leastCost_X5_listChildren rfl rfl rfl (by decide +kernel) ⟨Nat.le_of_ble_eq_true rfl, Nat.le_of_ble_eq_true rfl⟩) rfl hl.1 rfl (Nat.le_of_ble_eq_true rfl) dX1_leastCost_34 ⟨Nat.le_of_ble_eq_true rfl, Nat.le_of_ble_eq_true rfl⟩ (fun rv_3 _ H locs hp hG => ?_)
  subst rv_3
  refine gx_put (C := RX1) (T := TX1) (N := 10) (ty := .int) (v := .int 0) (fs' := [.ref (N0 + 14), .ref (N0 + 35), .ref (N0 + 57), .ref (N0 + 58), .ref (N0 + 59), .ref (N0 + 60), .int 0, .int 0, .ref (N0 + 61), .ref (N0 + 62)]) S hG (fu_at (by omega) (fu_at (by omega) h0)) i_X1_leastCost_X1 rfl 6 (by decide) tyX1 tyX1_ok nmX1 (by decide +kernel) rfl (by decide +kernel) rfl rfl (Nat.le_of_ble_eq_true rfl) rfl dX1_leastCost_37 (fun H locs hG => ?_)
  refine lv_aload_n S.1 S.2.1 dX1_leastCost_40 rfl (lv_at hl 3 rfl) ?_
  refine gx_get (C := RX5) (T := TX5) (N := 7) S hG (fu_at (by omega) (fu_at (by omega) (fu_at (by omega) h3))) i_X1_leastCost_X5 rfl 6 (by decide) (by decide +kernel) rfl dX1_leastCost_41 ?_
  refine lv_iconst (v := 1) S.1 S.2.1 dX1_leastCost_44 (by decide) ?_
  refine lv_isub S.1 S.2.1 dX1_leastCost_45 ?_
  refine fx_topi (y := 0) (by decide) ?_
  refine lv_istore (lv' := [(4, .int 0), (3, .int 0), (0, .ref (N0 + 13)), (1, .ref (N0 + 143)), (2, .ref (N0 + 150))]) S.1 S.2.1 dX1_leastCost_46 hl (by decide) rfl (fun ls hl => ?_)
  refine lv_iload S.1 S.2.1 dX1_leastCost_48 (lv_at hl 0 rfl) ?_
  refine lv_if_lt (tgt := 105) S.1 S.2.1 dX1_leastCost_50 (by decide) (fun c => absurd c (by decide)) (fun _ => ?_)
  refine lv_aload_n S.1 S.2.1 dX1_leastCost_53 rfl (lv_at hl 2 rfl) ?_
  refine lv_aload_n S.1 S.2.1 dX1_leastCost_54 rfl (lv_at hl 4 rfl) ?_
  refine lv_iload S.1 S.2.1 dX1_leastCost_55 (lv_at hl 0 rfl) ?_
  refine lv_aload_n S.1 S.2.1 dX1_leastCost_57 rfl (lv_at hl 2 rfl) ?_
  refine gx_get (C := RX1) (T := TX1) (N := 10) S hG fu_s i_X1_leastCost_X1 rfl 5 (by decide) (by decide +kernel) rfl dX1_leastCost_58 ?_
  refine fx_cVi (As := [.int 0, .ref (N0 + 60)]) (rest := [.ref (N0 + 13)]) S hG (k1196_X5_listChildren (by omega) (fu_at (by omega) (fu_at (by omega) (fu_at (by omega) h3)))) (fu_at (by omega) (fu_at (by omega) (fu_at (by omega) h3))) rfl (cwV 2 S.2.2.2.2 gX1_leastCost_X5_listChildren rfl rfl rfl (by decide +kernel) ⟨Nat.le_of_ble_eq_true rfl, Nat.le_of_ble_eq_true rfl⟩) rfl hl.1 rfl (Nat.le_of_ble_eq_true rfl) dX1_leastCost_61 ⟨Nat.le_of_ble_eq_true rfl, Nat.le_of_ble_eq_true rfl⟩ (fun rv_4 _ H locs hp hG => ?_)
  subst rv_4
  refine gx_put (C := RX1) (T := TX1) (N := 10) (ty := .int) (v := .int 0) (fs' := [.ref (N0 + 14), .ref (N0 + 35), .ref (N0 + 57), .ref (N0 + 58), .ref (N0 + 59), .ref (N0 + 60), .int 0, .int 0, .ref (N0 + 61), .ref (N0 + 62)]) S hG fu_s i_X1_leastCost_X1 rfl 7 (by decide) tyX1 tyX1_ok nmX1 (by decide +kernel) rfl (by decide +kernel) rfl rfl (Nat.le_of_ble_eq_true rfl) rfl dX1_leastCost_64 (fun H locs hG => ?_)
  refine lv_aload_n S.1 S.2.1 dX1_leastCost_67 rfl (lv_at hl 2 rfl) ?_
  refine lv_aload_n S.1 S.2.1 dX1_leastCost_68 rfl (lv_at hl 3 rfl) ?_
  refine lv_aload_n S.1 S.2.1 dX1_leastCost_69 rfl (lv_at hl 4 rfl) ?_
  refine fx_cVv (As := [.ref (N0 + 143), .ref (N0 + 150)]) (rest := []) S hG (k1198_X1_fillRestCosts (by omega) fu_s (fu_at (by omega) (fu_at (by omega) (fu_at (by omega) (fu_at (by omega) h5)))) (fu_at (by omega) (fu_at (by omega) (fu_at (by omega) (fu_at (by omega) h6))))) fu_s rfl (cwV 2 S.2.2.2.2 gX1_leastCost_X1_fillRestCosts rfl rfl rfl (by decide +kernel) ⟨Nat.le_of_ble_eq_true rfl, Nat.le_of_ble_eq_true rfl⟩) rfl hl.1 rfl (Nat.le_of_ble_eq_true rfl) dX1_leastCost_70 ⟨Nat.le_of_ble_eq_true rfl, Nat.le_of_ble_eq_true rfl⟩ (fun _ H locs hp hG => ?_)
  refine lv_aload_n S.1 S.2.1 dX1_leastCost_73 rfl (lv_at hl 2 rfl) ?_
  refine gx_get (C := RX1) (T := TX1) (N := 10) S hG (fu_at (by omega) fu_s) i_X1_leastCost_X1 rfl 0 (by decide) (by decide +kernel) rfl dX1_leastCost_74 ?_
  refine lv_iload_n S.1 S.2.1 dX1_leastCost_77 rfl (lv_at hl 1 rfl) ?_
  refine gx_aldq (x := (N0 + 15)) S hG 4 rfl (fu_at (by omega) (fu_at (by omega) (fu_at (by omega) (fu_at (by omega) (fu_at (by omega) h7))))) rfl (fin_l (by decide)) (rfl) dX1_leastCost_78 ?_
  refine lv_iload S.1 S.2.1 dX1_leastCost_79 (lv_at hl 0 rfl) ?_
  refine lv_aload_n S.1 S.2.1 dX1_leastCost_81 rfl (lv_at hl 3 rfl) ?_
  refine lv_iload_n S.1 S.2.1 dX1_leastCost_82 rfl (lv_at hl 1 rfl) ?_
  refine lv_aload_n S.1 S.2.1 dX1_leastCost_83 rfl (lv_at hl 4 rfl) ?_
  refine lv_iload S.1 S.2.1 dX1_leastCost_84 (lv_at hl 0 rfl) ?_
  refine fx_cSNi (host := "TreeDiffer") (As := [.ref (N0 + 143), .int 0, .ref (N0 + 150), .int 0]) (rest := [.int 0, .ref (N0 + 15)]) S hG (k1199_X7_changeCost (by omega) (fu_at (by omega) (fu_at (by omega) (fu_at (by omega) (fu_at (by omega) (fu_at (by omega) h1))))) (fu_at (by omega) (fu_at (by omega) (fu_at (by omega) (fu_at (by omega) (fu_at (by omega) h8))))) (fu_at (by omega) (fu_at (by omega) (fu_at (by omega) (fu_at (by omega) (fu_at (by omega) h3))))) (fu_at (by omega) (fu_at (by omega) (fu_at (by omega) (fu_at (by omega) (fu_at (by omega) h9))))) (fu_at (by omega) (fu_at (by omega) (fu_at (by omega) (fu_at (by omega) (fu_at (by omega) h10))))) (fu_at (by omega) (fu_at (by omega) (fu_at (by omega) (fu_at (by omega) (fu_at (by omega) h11)))))) ⟨(va_cnB 4 S.2.2.2.2 gX1_leastCost_X7_changeCost_n62 rfl rfl rfl (hG.nest (show _ ∈ fen2.2.2.1 from by decide)) (S.2.2.2.2 (.initialized RX7) (by decide +kernel)) (by decide +kernel) ⟨Nat.le_of_ble_eq_true rfl, Nat.le_of_ble_eq_true rfl⟩), S.2.2.2.2 (.static yX7_changeCost) (by decide +kernel), trivial⟩ rfl hl.1 rfl (Nat.le_of_ble_eq_true rfl) dX1_leastCost_86 ⟨Nat.le_of_ble_eq_true rfl, Nat.le_of_ble_eq_true rfl⟩ (fun rv_6 _ H locs hp hG => ?_)
  subst rv_6
  refine lv_aload_n S.1 S.2.1 dX1_leastCost_89 rfl (lv_at hl 2 rfl) ?_
  refine gx_get (C := RX1) (T := TX1) (N := 10) S hG (fu_at (by omega) fu_s) i_X1_leastCost_X1 rfl 1 (by decide) (by decide +kernel) rfl dX1_leastCost_90 ?_
  refine lv_iconst (v := 0) S.1 S.2.1 dX1_leastCost_93 (by decide) ?_
  refine gx_aldq (x := (N0 + 36)) S hG 4 rfl (fu_at (by omega) (fu_at (by omega) (fu_at (by omega) (fu_at (by omega) (fu_at (by omega) h5))))) rfl (fin_l (by decide)) (rfl) dX1_leastCost_94 ?_
  refine lv_iconst (v := 0) S.1 S.2.1 dX1_leastCost_95 (by decide) ?_
  refine gx_iald (v := 0) S hG 0 fu_s rfl (fin_l (by decide)) (by decide) dX1_leastCost_96 ?_
  refine lv_iadd S.1 S.2.1 dX1_leastCost_97 ?_
  refine fx_topi (y := 0) (by decide) ?_
  refine gx_iast (f' := upd (fun _ => 0) 0 0) S hG 0 (fu_at (by omega) (fu_at (by omega) (fu_at (by omega) (fu_at (by omega) (fu_at (by omega) h12))))) rfl (fin_l (by decide)) dX1_leastCost_98 (rfl) (fun H locs hG => ?_)
  refine lv_iinc (v := (-1)) (lv' := [(4, .int (-1)), (3, .int 0), (0, .ref (N0 + 13)), (1, .ref (N0 + 143)), (2, .ref (N0 + 150))]) S.1 S.2.1 dX1_leastCost_99 hl (k := 0) rfl (by decide) (by decide) rfl (fun ls hl => ?_)
  refine lv_goto (tgt := 48) S.1 S.2.1 dX1_leastCost_102 (by decide) ?_
  refine lv_iload S.1 S.2.1 dX1_leastCost_48 (lv_at hl 0 rfl) ?_
  refine lv_if_lt (tgt := 105) S.1 S.2.1 dX1_leastCost_50 (by decide) (fun _ => ?_) (fun c => absurd (by decide) c)
  refine lv_iinc (v := (-1)) (lv' := [(3, .int (-1)), (4, .int (-1)), (0, .ref (N0 + 13)), (1, .ref (N0 + 143)), (2, .ref (N0 + 150))]) S.1 S.2.1 dX1_leastCost_105 hl (k := 1) rfl (by decide) (by decide) rfl (fun ls hl => ?_)
  refine lv_goto (tgt := 23) S.1 S.2.1 dX1_leastCost_108 (by decide) ?_
  refine lv_iload_n S.1 S.2.1 dX1_leastCost_23 rfl (lv_at hl 0 rfl) ?_
  refine lv_if_lt (tgt := 111) S.1 S.2.1 dX1_leastCost_24 (by decide) (fun _ => ?_) (fun c => absurd (by decide) c)
  refine lv_aload_n S.1 S.2.1 dX1_leastCost_111 rfl (lv_at hl 2 rfl) ?_
  refine gx_get (C := RX1) (T := TX1) (N := 10) S hG (fu_at (by omega) (fu_at (by omega) fu_s)) i_X1_leastCost_X1 rfl 0 (by decide) (by decide +kernel) rfl dX1_leastCost_112 ?_
  refine lv_iconst (v := 0) S.1 S.2.1 dX1_leastCost_115 (by decide) ?_
  refine gx_aldq (x := (N0 + 15)) S hG 4 rfl (fu_at (by omega) (fu_at (by omega) (fu_at (by omega) (fu_at (by omega) (fu_at (by omega) (fu_at (by omega) h7)))))) rfl (fin_l (by decide)) (rfl) dX1_leastCost_116 ?_
  refine lv_iconst (v := 0) S.1 S.2.1 dX1_leastCost_117 (by decide) ?_
  refine gx_iald (v := 0) S hG 0 fu_s rfl (fin_l (by decide)) (by decide) dX1_leastCost_118 ?_
  have hG : fG N0 D vwCl (fty cI cC cL cD cII cTr cTm cIt cB) (fen ql) s (fu (fu (fu (fu (fu F (N0 + 57) (.inl (cI, 20, .inl (upd (fun _ => 0) 0 1)))) (N0 + 58) (.inl (cI, 20, .inl (upd (fun _ => 0) 0 1)))) (N0 + 13) (.inr (3, [.ref (N0 + 14), .ref (N0 + 35), .ref (N0 + 57), .ref (N0 + 58), .ref (N0 + 59), .ref (N0 + 60), .int 0, .int 0, .ref (N0 + 61), .ref (N0 + 62)]))) (N0 + 36) (.inl (cI, 21, .inl (upd (fun _ => 0) 0 0)))) (N0 + 15) (.inl (cI, 20, .inl (upd (fun _ => 0) 0 0)))) n H locs := hG.weak (fun a e h => by
    rcases fu_cases h with ⟨rfl, he⟩ | ⟨hne0, h⟩
    · cases he; exact fu_s
    · skip
      rcases fu_cases h with ⟨rfl, he⟩ | ⟨hne1, h⟩
      · cases he; exact (fu_at (by omega) fu_s)
      · skip
        rcases fu_cases h with ⟨rfl, he⟩ | ⟨hne2, h⟩
        · cases he; exact (fu_at (by omega) (fu_at (by omega) fu_s))
        · skip
          rcases fu_cases h with ⟨rfl, he⟩ | ⟨hne3, h⟩
          · cases he; exact (fu_at (by omega) (fu_at (by omega) (fu_at (by omega) (fu_at (by omega) fu_s))))
          · skip
            rcases fu_cases h with ⟨rfl, he⟩ | ⟨hne4, h⟩
            · cases he; exact (fu_at (by omega) (fu_at (by omega) (fu_at (by omega) (fu_at (by omega) (fu_at (by omega) fu_s)))))
            · exact (fu_at (by omega) (fu_at (by omega) (fu_at (by omega) (fu_at (by omega) (fu_at (by omega) (fu_at (by omega) h)))))))
  exact fx_iret S hr hlocks () hG (rfl) dX1_leastCost_119
theorem k1201_X7_distance {n : Nat} (hn : N0 + 231 ≤ n) (h0 : F N0 = some (.inr (9, [.ref (N0 + 1), .ref (N0 + 2), .ref (N0 + 11), .ref (N0 + 13), .ref (N0 + 63), .ref (N0 + 65), .ref (N0 + 85), .int (-1), .int (-1), .int 32]))) (h1 : F (N0 + 1) = some (.inl (cTr, 3, .inr (.inr (.inr (.inr (va_up (va_up (va_up (fun _ => none) 0 (some (N0 + 143))) 1 (some (N0 + 150))) 2 (some (N0 + 157))))))))) (h2 : F (N0 + 13) = some (.inr (3, [.ref (N0 + 14), .ref (N0 + 35), .ref (N0 + 57), .ref (N0 + 58), .ref (N0 + 59), .ref (N0 + 60), .int 0, .int 0, .ref (N0 + 61), .ref (N0 + 62)]))) (h3 : F (N0 + 143) = some (.inr (7, [.ref (N0 + 144), .ref (N0 + 145), .ref (N0 + 146), .ref (N0 + 147), .ref (N0 + 148), .ref (N0 + 149), .int 1]))) (h4 : F (N0 + 57) = some (.inl (cI, 20, .inl (fun _ => 0)))) (h5 : F (N0 + 150) = some (.inr (7, [.ref (N0 + 151), .ref (N0 + 152), .ref (N0 + 153), .ref (N0 + 154), .ref (N0 + 155), .ref (N0 + 156), .int 1]))) (h6 : F (N0 + 58) = some (.inl (cI, 20, .inl (fun _ => 0)))) (h7 : F (N0 + 35) = some (.inl (cII, 21, .inr (.inr (.inr (.inr (fun j => if j < 21 then some ((N0 + 36) + j) else none))))))) (h8 : F (N0 + 36) = some (.inl (cI, 21, .inl (fun _ => 0)))) (h9 : F (N0 + 14) = some (.inl (cII, 20, .inr (.inr (.inr (.inr (fun j => if j < 20 then some ((N0 + 15) + j) else none))))))) (h10 : F (N0 + 144) = some (.inl (cC, 20, .inl (upd (fun _ => 0) 0 97)))) (h11 : F (N0 + 151) = some (.inl (cC, 20, .inl (upd (fun _ => 0) 0 97)))) (h12 : F (N0 + 146) = some (.inl (cI, 20, .inl (fun _ => 0)))) (h13 : F (N0 + 153) = some (.inl (cI, 20, .inl (fun _ => 0)))) (h14 : F (N0 + 15) = some (.inl (cI, 20, .inl (fun _ => 0)))) : Met l yX7_distance wsX7_distance ({ frames := 3, cells := 0, slots := 0, locals := 73 }) (va_Pc [.ref N0, .int 0, .int 1] (fP N0 D vwCl (fty cI cC cL cD cII cTr cTm cIt cB) (fen ql) F n)) (fQi N0 D vwCl (fty cI cC cL cD cII cTr cTm cIt cB) (fun (r : Int32) (_ : Unit) => r = 0) (fun _ => (fu (fu (fu (fu (fu F (N0 + 57) (.inl (cI, 20, .inl (upd (fun _ => 0) 0 1)))) (N0 + 58) (.inl (cI, 20, .inl (upd (fun _ => 0) 0 1)))) (N0 + 13) (.inr (3, [.ref (N0 + 14), .ref (N0 + 35), .ref (N0 + 57), .ref (N0 + 58), .ref (N0 + 59), .ref (N0 + 60), .int 0, .int 0, .ref (N0 + 61), .ref (N0 + 62)]))) (N0 + 36) (.inl (cI, 21, .inl (upd (fun _ => 0) 0 0)))) (N0 + 15) (.inl (cI, 20, .inl (upd (fun _ => 0) 0 0))))) (fun _ => n)) 0 0 (fA N0) := by
  refine fx_start 5 rfl rfl (Nat.le_of_ble_eq_true rfl) ?_ rfl
  intro p e s m below meth c ls S hr hlocks hin hG hl
  have hl : lv_has ls 5 [(0, .ref N0), (1, .int 0), (2, .int 1)] := hl
  have lt_h0 := hG.1.lt h0
  have lt_h1 := hG.1.lt h1
  have lt_h2 := hG.1.lt h2
  have lt_h3 := hG.1.lt h3
  have lt_h4 := hG.1.lt h4
  have lt_h5 := hG.1.lt h5
  have lt_h6 := hG.1.lt h6
  have lt_h7 := hG.1.lt h7
  have lt_h8 := hG.1.lt h8
  have lt_h9 := hG.1.lt h9
  have lt_h10 := hG.1.lt h10
  have lt_h11 := hG.1.lt h11
  have lt_h12 := hG.1.lt h12
  have lt_h13 := hG.1.lt h13
  have lt_h14 := hG.1.lt h14
  refine lv_aload_n S.1 S.2.1 dX7_distance_0 rfl (lv_at hl 0 rfl) ?_
  refine lv_iload_n S.1 S.2.1 dX7_distance_1 rfl (lv_at hl 1 rfl) ?_
  refine fx_cVr (As := [.int 0]) (rest := []) S hG (k26_X7_treeAt (by omega) h0 h1) h0 rfl (cwV 1 S.2.2.2.2 gX7_distance_X7_treeAt rfl rfl rfl (by decide +kernel) ⟨Nat.le_of_ble_eq_true rfl, Nat.le_of_ble_eq_true rfl⟩) rfl hl.1 rfl (Nat.le_of_ble_eq_true rfl) dX7_distance_2 ⟨Nat.le_of_ble_eq_true rfl, Nat.le_of_ble_eq_true rfl⟩ (fun rv_1 _ H locs hp hG => ?_)
  subst rv_1
  refine lv_astore_n (lv' := [(3, .ref (N0 + 143)), (0, .ref N0), (1, .int 0), (2, .int 1)]) S.1 S.2.1 dX7_distance_5 rfl hl (by decide) rfl (fun ls hl => ?_)
  refine lv_aload_n S.1 S.2.1 dX7_distance_6 rfl (lv_at hl 1 rfl) ?_
  refine lv_iload_n S.1 S.2.1 dX7_distance_7 rfl (lv_at hl 3 rfl) ?_
  refine fx_cVr (As := [.int 1]) (rest := []) S hG (k42_X7_treeAt (by omega) h0 h1) h0 rfl (cwV 1 S.2.2.2.2 gX7_distance_X7_treeAt rfl rfl rfl (by decide +kernel) ⟨Nat.le_of_ble_eq_true rfl, Nat.le_of_ble_eq_true rfl⟩) rfl hl.1 rfl (Nat.le_of_ble_eq_true rfl) dX7_distance_8 ⟨Nat.le_of_ble_eq_true rfl, Nat.le_of_ble_eq_true rfl⟩ (fun rv_2 _ H locs hp hG => ?_)
  subst rv_2
  refine lv_astore (lv' := [(4, .ref (N0 + 150)), (3, .ref (N0 + 143)), (0, .ref N0), (1, .int 0), (2, .int 1)]) S.1 S.2.1 dX7_distance_11 hl (by decide) rfl (fun ls hl => ?_)
  refine lv_aload_n S.1 S.2.1 dX7_distance_13 rfl (lv_at hl 2 rfl) ?_
  refine gx_get (C := RX7) (T := TX7) (N := 10) S hG h0 i_X7_distance_X7 rfl 3 (by decide) (by decide +kernel) rfl dX7_distance_14 ?_
  refine lv_aload_n S.1 S.2.1 dX7_distance_17 rfl (lv_at hl 1 rfl) ?_
  refine lv_aload S.1 S.2.1 dX7_distance_18 (lv_at hl 0 rfl) ?_
  refine fx_cVi (As := [.ref (N0 + 143), .ref (N0 + 150)]) (rest := []) S hG (k1200_X1_leastCost (by omega) h2 h3 h4 h5 h6 h7 h8 h9 h10 h11 h12 h13 h14) h2 rfl (cwV 2 S.2.2.2.2 gX7_distance_X1_leastCost rfl rfl rfl (by decide +kernel) ⟨Nat.le_of_ble_eq_true rfl, Nat.le_of_ble_eq_true rfl⟩) rfl hl.1 rfl (Nat.le_of_ble_eq_true rfl) dX7_distance_20 ⟨Nat.le_of_ble_eq_true rfl, Nat.le_of_ble_eq_true rfl⟩ (fun rv_3 _ H locs hp hG => ?_)
  subst rv_3
  exact fx_iret S hr hlocks () hG (rfl) dX7_distance_23
theorem k1202_L_distance {n : Nat} (hn : N0 + 231 ≤ n) (h0 : F N0 = some (.inr (9, [.ref (N0 + 1), .ref (N0 + 2), .ref (N0 + 11), .ref (N0 + 13), .ref (N0 + 63), .ref (N0 + 65), .ref (N0 + 85), .int (-1), .int (-1), .int 32]))) (h1 : F (N0 + 1) = some (.inl (cTr, 3, .inr (.inr (.inr (.inr (va_up (va_up (va_up (fun _ => none) 0 (some (N0 + 143))) 1 (some (N0 + 150))) 2 (some (N0 + 157))))))))) (h2 : F (N0 + 13) = some (.inr (3, [.ref (N0 + 14), .ref (N0 + 35), .ref (N0 + 57), .ref (N0 + 58), .ref (N0 + 59), .ref (N0 + 60), .int 0, .int 0, .ref (N0 + 61), .ref (N0 + 62)]))) (h3 : F (N0 + 143) = some (.inr (7, [.ref (N0 + 144), .ref (N0 + 145), .ref (N0 + 146), .ref (N0 + 147), .ref (N0 + 148), .ref (N0 + 149), .int 1]))) (h4 : F (N0 + 57) = some (.inl (cI, 20, .inl (fun _ => 0)))) (h5 : F (N0 + 150) = some (.inr (7, [.ref (N0 + 151), .ref (N0 + 152), .ref (N0 + 153), .ref (N0 + 154), .ref (N0 + 155), .ref (N0 + 156), .int 1]))) (h6 : F (N0 + 58) = some (.inl (cI, 20, .inl (fun _ => 0)))) (h7 : F (N0 + 35) = some (.inl (cII, 21, .inr (.inr (.inr (.inr (fun j => if j < 21 then some ((N0 + 36) + j) else none))))))) (h8 : F (N0 + 36) = some (.inl (cI, 21, .inl (fun _ => 0)))) (h9 : F (N0 + 14) = some (.inl (cII, 20, .inr (.inr (.inr (.inr (fun j => if j < 20 then some ((N0 + 15) + j) else none))))))) (h10 : F (N0 + 144) = some (.inl (cC, 20, .inl (upd (fun _ => 0) 0 97)))) (h11 : F (N0 + 151) = some (.inl (cC, 20, .inl (upd (fun _ => 0) 0 97)))) (h12 : F (N0 + 146) = some (.inl (cI, 20, .inl (fun _ => 0)))) (h13 : F (N0 + 153) = some (.inl (cI, 20, .inl (fun _ => 0)))) (h14 : F (N0 + 15) = some (.inl (cI, 20, .inl (fun _ => 0)))) (h15 : F (N0 + 229) = some (.inl (cL, 1, .inr (.inl (fun _ => 0))))) : Met l yL_distance wsL_distance ({ frames := 4, cells := 0, slots := 0, locals := 97 }) (va_Pc [.ref N0, .int 0, .int 1, .ref (N0 + 229)] (fP N0 D vwCl (fty cI cC cL cD cII cTr cTm cIt cB) (fen ql) F n)) (fQi N0 D vwCl (fty cI cC cL cD cII cTr cTm cIt cB) (fun (r : Int32) (_ : Unit) => r = 0) (fun _ => (fu (fu (fu (fu (fu (fu F (N0 + 57) (.inl (cI, 20, .inl (upd (fun _ => 0) 0 1)))) (N0 + 58) (.inl (cI, 20, .inl (upd (fun _ => 0) 0 1)))) (N0 + 13) (.inr (3, [.ref (N0 + 14), .ref (N0 + 35), .ref (N0 + 57), .ref (N0 + 58), .ref (N0 + 59), .ref (N0 + 60), .int 0, .int 0, .ref (N0 + 61), .ref (N0 + 62)]))) (N0 + 36) (.inl (cI, 21, .inl (upd (fun _ => 0) 0 0)))) (N0 + 15) (.inl (cI, 20, .inl (upd (fun _ => 0) 0 0)))) (N0 + 229) (.inl (cL, 1, .inr (.inl (vp_updL (fun _ => 0) 0 0)))))) (fun _ => n)) 0 0 (fA N0) := by
  refine fx_startW (hh := [(0, 10, 13, 19)]) 5 rfl rfl (Nat.le_of_ble_eq_true rfl) ?_ rfl
  intro p e s m below meth c ls S htab hr hlocks hG hl
  have hl : lv_has ls 5 [(0, .ref N0), (1, .int 0), (2, .int 1), (3, .ref (N0 + 229))] := hl
  have lt_h0 := hG.1.lt h0
  have lt_h1 := hG.1.lt h1
  have lt_h2 := hG.1.lt h2
  have lt_h3 := hG.1.lt h3
  have lt_h4 := hG.1.lt h4
  have lt_h5 := hG.1.lt h5
  have lt_h6 := hG.1.lt h6
  have lt_h7 := hG.1.lt h7
  have lt_h8 := hG.1.lt h8
  have lt_h9 := hG.1.lt h9
  have lt_h10 := hG.1.lt h10
  have lt_h11 := hG.1.lt h11
  have lt_h12 := hG.1.lt h12
  have lt_h13 := hG.1.lt h13
  have lt_h14 := hG.1.lt h14
  have lt_h15 := hG.1.lt h15
  refine lv_aload_n S.1 S.2.1 dL_distance_0 rfl (lv_at hl 3 rfl) ?_
  refine lv_iconst (v := 0) S.1 S.2.1 dL_distance_1 (by decide) ?_
  refine lv_aload_n S.1 S.2.1 dL_distance_2 rfl (lv_at hl 0 rfl) ?_
  refine lv_iload_n S.1 S.2.1 dL_distance_3 rfl (lv_at hl 1 rfl) ?_
  refine lv_iload_n S.1 S.2.1 dL_distance_4 rfl (lv_at hl 2 rfl) ?_
  refine fx_cVi (As := [.int 0, .int 1]) (rest := [.int 0, .ref (N0 + 229)]) S hG (k1201_X7_distance (by omega) h0 h1 h2 h3 h4 h5 h6 h7 h8 h9 h10 h11 h12 h13 h14) h0 rfl (cwV 2 S.2.2.2.2 gL_distance_X7_distance rfl rfl rfl (by decide +kernel) ⟨Nat.le_of_ble_eq_true rfl, Nat.le_of_ble_eq_true rfl⟩) rfl hl.1 rfl (Nat.le_of_ble_eq_true rfl) dL_distance_5 ⟨Nat.le_of_ble_eq_true rfl, Nat.le_of_ble_eq_true rfl⟩ (fun rv_1 _ H locs hp hG => ?_)
  subst rv_1
  refine lv_i2l (v := 0) S.1 S.2.1 dL_distance_8 (by decide) ?_
  refine gx_last (f' := vp_updL (fun _ => 0) 0 0) S hG 2 (fu_at (by omega) (fu_at (by omega) (fu_at (by omega) (fu_at (by omega) (fu_at (by omega) h15))))) rfl (fin_l (by decide)) dL_distance_9 rfl (fun H locs hG => ?_)
  refine lv_goto (tgt := 17) S.1 S.2.1 dL_distance_10 (by decide) ?_
  refine lv_iconst (v := 0) S.1 S.2.1 dL_distance_17 (by decide) ?_
  exact fx_iret S hr hlocks () hG (rfl) dL_distance_18
theorem k1203_X10_left {n b1 : Nat} (hn : N0 + 231 ≤ n) (hb1 : N0 + 231 ≤ b1) (h0 : F b1 = some (.inl (cI, 0, .inl (fun _ => 0)))) (h1 : F (b1 + 1) = some (.inl (cI, 0, .inl (fun _ => 0)))) : Met l yX10_left wsX10_left ({ frames := 0, cells := 2, slots := 2, locals := 0 }) (va_Pc [.ref (N0 + 164), .ref (N0 + 166), .ref b1, .ref (N0 + 171), .ref (b1 + 1)] (fP N0 D vwCl (fty cI cC cL cD cII cTr cTm cIt cB) (fen ql) F n)) (fQr N0 D vwCl (fty cI cC cL cD cII cTr cTm cIt cB) (fun (r : Nat) (_ : Unit) => r = n) (fun _ => (fblk F n [.inl (cII, 1, .inr (.inr (.inr (.inr (fun j => if j < 1 then some ((n + 1) + j) else none))))), .inl (cI, 1, .inl (fun _ => 0))])) (fun _ => (n + 2))) 2 2 (fA N0) := by
  refine fx_start 9 rfl rfl (Nat.le_of_ble_eq_true rfl) ?_ rfl
  intro p e s m below meth c ls S hr hlocks hin hG hl
  have hl : lv_has ls 9 [(0, .ref (N0 + 164)), (1, .ref (N0 + 166)), (2, .ref b1), (3, .ref (N0 + 171)), (4, .ref (b1 + 1))] := hl
  have lt_h0 := hG.1.lt h0
  have lt_h1 := hG.1.lt h1
  refine lv_aload_n S.1 S.2.1 dX10_left_0 rfl (lv_at hl 2 rfl) ?_
  refine gx_alen (v := 0) S hG 0 h0 rfl (rfl) dX10_left_1 ?_
  refine lv_iconst (v := 1) S.1 S.2.1 dX10_left_2 (by decide) ?_
  refine lv_iadd S.1 S.2.1 dX10_left_3 ?_
  refine fx_topi (y := 1) (by decide) ?_
  refine lv_aload S.1 S.2.1 dX10_left_4 (lv_at hl 4 rfl) ?_
  refine gx_alen (v := 0) S hG 0 h1 rfl (rfl) dX10_left_6 ?_
  refine lv_iconst (v := 1) S.1 S.2.1 dX10_left_7 (by decide) ?_
  refine lv_iadd S.1 S.2.1 dX10_left_8 ?_
  refine fx_topi (y := 1) (by decide) ?_
  refine gx_mna (N' := 1) (K' := 1) S hG (by decide +kernel) (by decide +kernel) 0 4 rfl rfl (by decide) (by decide) (by decide) (by decide) (by decide) (by decide) (by decide) (by decide) dX10_left_9 (fun H hG => ?_)
  refine W.widen (k := 2) (n := 2) (by decide) (by decide) ?_
  refine lv_astore (lv' := [(5, .ref n), (0, .ref (N0 + 164)), (1, .ref (N0 + 166)), (2, .ref b1), (3, .ref (N0 + 171)), (4, .ref (b1 + 1))]) S.1 S.2.1 dX10_left_13 hl (by decide) rfl (fun ls hl => ?_)
  refine lv_aload_n S.1 S.2.1 dX10_left_15 rfl (lv_at hl 3 rfl) ?_
  refine gx_alen (v := 0) S hG 0 (fblk_sk 1 rfl (by omega) (fu_at (by omega) h0)) rfl (rfl) dX10_left_16 ?_
  refine lv_istore (lv' := [(6, .int 0), (5, .ref n), (0, .ref (N0 + 164)), (1, .ref (N0 + 166)), (2, .ref b1), (3, .ref (N0 + 171)), (4, .ref (b1 + 1))]) S.1 S.2.1 dX10_left_17 hl (by decide) rfl (fun ls hl => ?_)
  refine lv_iload S.1 S.2.1 dX10_left_19 (lv_at hl 0 rfl) ?_
  refine lv_if_lt (tgt := 228) S.1 S.2.1 dX10_left_21 (by decide) (fun c => absurd c (by decide)) (fun _ => ?_)
  refine lv_aload S.1 S.2.1 dX10_left_24 (lv_at hl 6 rfl) ?_
  refine gx_alen (v := 0) S hG 0 (fblk_sk 1 rfl (by omega) (fu_at (by omega) h1)) rfl (rfl) dX10_left_26 ?_
  refine lv_istore (lv' := [(7, .int 0), (6, .int 0), (5, .ref n), (0, .ref (N0 + 164)), (1, .ref (N0 + 166)), (2, .ref b1), (3, .ref (N0 + 171)), (4, .ref (b1 + 1))]) S.1 S.2.1 dX10_left_27 hl (by decide) rfl (fun ls hl => ?_)
  refine lv_iload S.1 S.2.1 dX10_left_29 (lv_at hl 0 rfl) ?_
  refine lv_if_lt (tgt := 222) S.1 S.2.1 dX10_left_31 (by decide) (fun c => absurd c (by decide)) (fun _ => ?_)
  refine lv_iload S.1 S.2.1 dX10_left_34 (lv_at hl 1 rfl) ?_
  refine lv_aload_n S.1 S.2.1 dX10_left_36 rfl (lv_at hl 5 rfl) ?_
  refine gx_alen (v := 0) S hG 0 (fblk_sk 1 rfl (by omega) (fu_at (by omega) h0)) rfl (rfl) dX10_left_37 ?_
  refine lv_icmp_ne (tgt := 52) S.1 S.2.1 dX10_left_38 (by decide) (fun c => absurd (by decide) c) (fun _ => ?_)
  refine lv_iload S.1 S.2.1 dX10_left_41 (lv_at hl 0 rfl) ?_
  refine lv_aload S.1 S.2.1 dX10_left_43 (lv_at hl 7 rfl) ?_
  refine gx_alen (v := 0) S hG 0 (fblk_sk 1 rfl (by omega) (fu_at (by omega) h1)) rfl (rfl) dX10_left_45 ?_
  refine lv_icmp_ne (tgt := 52) S.1 S.2.1 dX10_left_46 (by decide) (fun c => absurd (by decide) c) (fun _ => ?_)
  refine lv_goto (tgt := 216) S.1 S.2.1 dX10_left_49 (by decide) ?_
  refine lv_iinc (v := (-1)) (lv' := [(7, .int (-1)), (6, .int 0), (5, .ref n), (0, .ref (N0 + 164)), (1, .ref (N0 + 166)), (2, .ref b1), (3, .ref (N0 + 171)), (4, .ref (b1 + 1))]) S.1 S.2.1 dX10_left_216 hl (k := 0) rfl (by decide) (by decide) rfl (fun ls hl => ?_)
  refine lv_goto (tgt := 29) S.1 S.2.1 dX10_left_219 (by decide) ?_
  refine lv_iload S.1 S.2.1 dX10_left_29 (lv_at hl 0 rfl) ?_
  refine lv_if_lt (tgt := 222) S.1 S.2.1 dX10_left_31 (by decide) (fun _ => ?_) (fun c => absurd (by decide) c)
  refine lv_iinc (v := (-1)) (lv' := [(6, .int (-1)), (7, .int (-1)), (5, .ref n), (0, .ref (N0 + 164)), (1, .ref (N0 + 166)), (2, .ref b1), (3, .ref (N0 + 171)), (4, .ref (b1 + 1))]) S.1 S.2.1 dX10_left_222 hl (k := 1) rfl (by decide) (by decide) rfl (fun ls hl => ?_)
  refine lv_goto (tgt := 19) S.1 S.2.1 dX10_left_225 (by decide) ?_
  refine lv_iload S.1 S.2.1 dX10_left_19 (lv_at hl 0 rfl) ?_
  refine lv_if_lt (tgt := 228) S.1 S.2.1 dX10_left_21 (by decide) (fun _ => ?_) (fun c => absurd (by decide) c)
  refine lv_aload S.1 S.2.1 dX10_left_228 (lv_at hl 2 rfl) ?_
  have hG : fG N0 D vwCl (fty cI cC cL cD cII cTr cTm cIt cB) (fen ql) s (fblk F n [.inl (cII, 1, .inr (.inr (.inr (.inr (fun j => if j < 1 then some ((n + 1) + j) else none))))), .inl (cI, 1, .inl (fun _ => 0))]) (n + 2) H _ := hG.weak (fun a e h => by
    rcases fblk_cases 2 rfl h with ⟨k, rfl, hlt, hk⟩ | ⟨hout, h⟩
    · rcases (show k = 0 ∨ k = 1 by omega) with rfl | rfl
      · cases (show some (.inl (cII, 1, .inr (.inr (.inr (.inr (fun j => if j < 1 then some ((n + 1) + j) else none)))))) = some e from hk); exact (fblk_sk 1 rfl (by omega) fu_s)
      · cases (show some (.inl (cI, 1, .inl (fun _ => 0))) = some e from hk); exact (fblk_at 0 (by omega) rfl)
    · exact (fblk_sk 1 rfl (by omega) (fu_at (by omega) h)))
  exact fx_aret S hr (Or.inr ⟨_, rfl⟩) hlocks () hG (rfl) dX10_left_230
set_option maxHeartbeats 16000000 in
theorem k1204_X10_fills {n : Nat} (hn : N0 + 231 ≤ n) (h0 : F (N0 + 166) = some (.inr (11, [.ref (N0 + 167), .ref (N0 + 168), .ref (N0 + 169), .ref (N0 + 170), .int 1]))) (h1 : F (N0 + 171) = some (.inr (11, [.ref (N0 + 172), .ref (N0 + 173), .ref (N0 + 174), .ref (N0 + 175), .int 1]))) (h2 : F (N0 + 167) = some (.inl (cI, 20, .inl (upd (fun _ => 0) 0 97)))) (h3 : F (N0 + 172) = some (.inl (cI, 20, .inl (upd (fun _ => 0) 0 97)))) (h4 : F (N0 + 169) = some (.inl (cI, 20, .inl (upd (fun _ => 0) 0 0)))) (h5 : F (N0 + 174) = some (.inl (cI, 20, .inl (upd (fun _ => 0) 0 0)))) (h6 : F (N0 + 164) = some (.inr (12, [.ref (N0 + 165), .int 0, .ref (N0 + 181), .int 0, .int 0, .int 0, .int (-1), .ref (ql 24), .ref (N0 + 182), .ref (N0 + 187), .ref (N0 + 208), .ref (N0 + 209), .ref (N0 + 210), .ref (N0 + 211), .ref (N0 + 212), .int 0, .ref (N0 + 213), .ref (N0 + 218), .ref (N0 + 223), .ref (N0 + 224), .ref (N0 + 225), .ref (N0 + 226), .ref (N0 + 227), .int 0, .int 0, .ref (N0 + 228), .null, .int (-1), .int 0, .int 0, .int 0]))) (h7 : F (N0 + 187) = some (.inl (cII, 20, .inr (.inr (.inr (.inr (fun j => if j < 20 then some ((N0 + 188) + j) else none))))))) (h8 : F (N0 + 188) = some (.inl (cI, 20, .inl (fun _ => 0)))) : Met l yX10_fills wsX10_fills ({ frames := 2, cells := 4, slots := 2, locals := 47 }) (va_Pc [.ref (N0 + 164), .ref (N0 + 166), .ref (N0 + 171)] (fP N0 D vwCl (fty cI cC cL cD cII cTr cTm cIt cB) (fen ql) F n)) (fQi N0 D vwCl (fty cI cC cL cD cII cTr cTm cIt cB) (fun (r : Int32) (_ : Unit) => r = 0) (fun _ => (fblk (fu F (N0 + 188) (.inl (cI, 20, .inl (upd (fun _ => 0) 0 0)))) n [.inl (cI, 0, .inl (fun _ => 0)), .inl (cI, 0, .inl (fun _ => 0)), .inl (cII, 1, .inr (.inr (.inr (.inr (fun j => if j < 1 then some ((n + 3) + j) else none))))), .inl (cI, 1, .inl (fun _ => 0))])) (fun _ => (n + 4))) 4 2 (fA N0) := by
  refine fx_start 6 rfl rfl (Nat.le_of_ble_eq_true rfl) ?_ rfl
  intro p e s m below meth c ls S hr hlocks hin hG hl
  have hl : lv_has ls 6 [(0, .ref (N0 + 164)), (1, .ref (N0 + 166)), (2, .ref (N0 + 171))] := hl
  have lt_h0 := hG.1.lt h0
  have lt_h1 := hG.1.lt h1
  have lt_h2 := hG.1.lt h2
  have lt_h3 := hG.1.lt h3
  have lt_h4 := hG.1.lt h4
  have lt_h5 := hG.1.lt h5
  have lt_h6 := hG.1.lt h6
  have lt_h7 := hG.1.lt h7
  have lt_h8 := hG.1.lt h8
  refine lv_aload_n S.1 S.2.1 dX10_fills_0 rfl (lv_at hl 1 rfl) ?_
  refine gx_getN (C := RX9) (T := TX9) (N := 5) S hG h0 i_X10_fills_X9 rfl 4 (by decide) (List.mem_of_getElem? (i := 4) rfl) rfl dX10_fills_1 ?_
  refine lv_iconst (v := 1) S.1 S.2.1 dX10_fills_4 (by decide) ?_
  refine lv_isub S.1 S.2.1 dX10_fills_5 ?_
  refine fx_topi (y := 0) (by decide) ?_
  refine lv_istore_n (lv' := [(3, .int 0), (0, .ref (N0 + 164)), (1, .ref (N0 + 166)), (2, .ref (N0 + 171))]) S.1 S.2.1 dX10_fills_6 rfl hl (by decide) rfl (fun ls hl => ?_)
  refine lv_iload_n S.1 S.2.1 dX10_fills_7 rfl (lv_at hl 0 rfl) ?_
  refine lv_if_lt (tgt := 114) S.1 S.2.1 dX10_fills_8 (by decide) (fun c => absurd c (by decide)) (fun _ => ?_)
  refine lv_aload_n S.1 S.2.1 dX10_fills_11 rfl (lv_at hl 3 rfl) ?_
  refine gx_getN (C := RX9) (T := TX9) (N := 5) S hG h1 i_X10_fills_X9 rfl 4 (by decide) (List.mem_of_getElem? (i := 4) rfl) rfl dX10_fills_12 ?_
  refine lv_iconst (v := 1) S.1 S.2.1 dX10_fills_15 (by decide) ?_
  refine lv_isub S.1 S.2.1 dX10_fills_16 ?_
  refine fx_topi (y := 0) (by decide) ?_
  refine lv_istore (lv' := [(4, .int 0), (3, .int 0), (0, .ref (N0 + 164)), (1, .ref (N0 + 166)), (2, .ref (N0 + 171))]) S.1 S.2.1 dX10_fills_17 hl (by decide) rfl (fun ls hl => ?_)
  refine lv_iload S.1 S.2.1 dX10_fills_19 (lv_at hl 0 rfl) ?_
  refine lv_if_lt (tgt := 108) S.1 S.2.1 dX10_fills_21 (by decide) (fun c => absurd c (by decide)) (fun _ => ?_)
  refine lv_aload_n S.1 S.2.1 dX10_fills_24 rfl (lv_at hl 3 rfl) ?_
  refine gx_getN (C := RX9) (T := TX9) (N := 5) S hG h0 i_X10_fills_X9 rfl 0 (by decide) (List.mem_of_getElem? (i := 1) rfl) rfl dX10_fills_25 ?_
  refine lv_iload_n S.1 S.2.1 dX10_fills_28 rfl (lv_at hl 1 rfl) ?_
  refine gx_iald (v := 97) S hG 0 h2 rfl (fin_l (by decide)) (by decide) dX10_fills_29 ?_
  refine lv_aload_n S.1 S.2.1 dX10_fills_30 rfl (lv_at hl 4 rfl) ?_
  refine gx_getN (C := RX9) (T := TX9) (N := 5) S hG h1 i_X10_fills_X9 rfl 0 (by decide) (List.mem_of_getElem? (i := 1) rfl) rfl dX10_fills_31 ?_
  refine lv_iload S.1 S.2.1 dX10_fills_34 (lv_at hl 0 rfl) ?_
  refine gx_iald (v := 97) S hG 0 h3 rfl (fin_l (by decide)) (by decide) dX10_fills_36 ?_
  refine lv_icmp_ne (tgt := 44) S.1 S.2.1 dX10_fills_37 (by decide) (fun c => absurd (by decide) c) (fun _ => ?_)
  refine lv_iconst (v := 0) S.1 S.2.1 dX10_fills_40 (by decide) ?_
  refine lv_goto (tgt := 45) S.1 S.2.1 dX10_fills_41 (by decide) ?_
  refine lv_aload_n S.1 S.2.1 dX10_fills_45 rfl (lv_at hl 3 rfl) ?_
  refine gx_getN (C := RX9) (T := TX9) (N := 5) S hG h0 i_X10_fills_X9 rfl 2 (by decide) (List.mem_of_getElem? (i := 3) rfl) rfl dX10_fills_46 ?_
  refine lv_iload_n S.1 S.2.1 dX10_fills_49 rfl (lv_at hl 1 rfl) ?_
  refine gx_iald (v := 0) S hG 0 h4 rfl (fin_l (by decide)) (by decide) dX10_fills_50 ?_
  refine lv_aload_n S.1 S.2.1 dX10_fills_51 rfl (lv_at hl 4 rfl) ?_
  refine gx_getN (C := RX9) (T := TX9) (N := 5) S hG h1 i_X10_fills_X9 rfl 2 (by decide) (List.mem_of_getElem? (i := 3) rfl) rfl dX10_fills_52 ?_
  refine lv_iload S.1 S.2.1 dX10_fills_55 (lv_at hl 0 rfl) ?_
  refine gx_iald (v := 0) S hG 0 h5 rfl (fin_l (by decide)) (by decide) dX10_fills_57 ?_
  refine lv_icmp_ne (tgt := 65) S.1 S.2.1 dX10_fills_58 (by decide) (fun c => absurd (by decide) c) (fun _ => ?_)
  refine lv_iconst (v := 0) S.1 S.2.1 dX10_fills_61 (by decide) ?_
  refine lv_goto (tgt := 66) S.1 S.2.1 dX10_fills_62 (by decide) ?_
  refine lv_iadd S.1 S.2.1 dX10_fills_66 ?_
  refine fx_topi (y := 0) (by decide) ?_
  refine lv_istore (lv' := [(5, .int 0), (4, .int 0), (3, .int 0), (0, .ref (N0 + 164)), (1, .ref (N0 + 166)), (2, .ref (N0 + 171))]) S.1 S.2.1 dX10_fills_67 hl (by decide) rfl (fun ls hl => ?_)
  refine lv_aload_n S.1 S.2.1 dX10_fills_69 rfl (lv_at hl 3 rfl) ?_
  refine gx_get (C := RX10) (T := TX10) (N := 31) S hG h6 i_X10_fills_X10 rfl 9 (by decide) (by decide +kernel) rfl dX10_fills_70 ?_
  refine lv_iload_n S.1 S.2.1 dX10_fills_73 rfl (lv_at hl 2 rfl) ?_
  refine gx_aldq (x := (N0 + 188)) S hG 4 rfl h7 rfl (fin_l (by decide)) (rfl) dX10_fills_74 ?_
  refine lv_iload S.1 S.2.1 dX10_fills_75 (lv_at hl 1 rfl) ?_
  refine lv_iload S.1 S.2.1 dX10_fills_77 (lv_at hl 0 rfl) ?_
  refine lv_aload_n S.1 S.2.1 dX10_fills_79 rfl (lv_at hl 3 rfl) ?_
  refine lv_aload_n S.1 S.2.1 dX10_fills_80 rfl (lv_at hl 4 rfl) ?_
  refine lv_aload_n S.1 S.2.1 dX10_fills_81 rfl (lv_at hl 4 rfl) ?_
  refine lv_iload_n S.1 S.2.1 dX10_fills_82 rfl (lv_at hl 2 rfl) ?_
  refine fx_cVNr (host := "TreeDifferModel") (As := [.int 0]) (rest := [.ref (N0 + 166), .ref (N0 + 164), .int 0, .int 0, .ref (N0 + 188)]) S hG (k89_X9_kids (by omega) h0) h0 rfl ⟨(va_cnB 1 S.2.2.2.2 gX10_fills_X9_kids_n173 rfl rfl rfl (hG.nest (show _ ∈ fen2.2.2.1 from by decide)) (S.2.2.2.2 (.initialized RX9) (by decide +kernel)) (by decide +kernel) ⟨Nat.le_of_ble_eq_true rfl, Nat.le_of_ble_eq_true rfl⟩), S.2.2.2.2 (.instanceMethod yX9_kids) (by decide +kernel), S.2.2.2.2 (.selects RX9 yX9_kids yX9_kids) (by decide +kernel)⟩ rfl hl.1 rfl (Nat.le_of_ble_eq_true rfl) dX10_fills_83 ⟨Nat.le_of_ble_eq_true rfl, Nat.le_of_ble_eq_true rfl⟩ (fun rv_1 _ H locs hp hG => ?_)
  subst rv_1
  refine W.widen (k := 1) (n := 0) (by decide) (by decide) ?_
  refine lv_aload_n S.1 S.2.1 dX10_fills_86 rfl (lv_at hl 5 rfl) ?_
  refine lv_aload_n S.1 S.2.1 dX10_fills_87 rfl (lv_at hl 5 rfl) ?_
  refine lv_iload S.1 S.2.1 dX10_fills_88 (lv_at hl 1 rfl) ?_
  refine fx_cVNr (host := "TreeDifferModel") (As := [.int 0]) (rest := [.ref (N0 + 171), .ref n, .ref (N0 + 166), .ref (N0 + 164), .int 0, .int 0, .ref (N0 + 188)]) S hG (k151_X9_kids (by omega) (fblk_sk 1 rfl (by omega) h1)) (fblk_sk 1 rfl (by omega) h1) rfl ⟨(va_cnB 1 S.2.2.2.2 gX10_fills_X9_kids_n173 rfl rfl rfl (hG.nest (show _ ∈ fen2.2.2.1 from by decide)) (S.2.2.2.2 (.initialized RX9) (by decide +kernel)) (by decide +kernel) ⟨Nat.le_of_ble_eq_true rfl, Nat.le_of_ble_eq_true rfl⟩), S.2.2.2.2 (.instanceMethod yX9_kids) (by decide +kernel), S.2.2.2.2 (.selects RX9 yX9_kids yX9_kids) (by decide +kernel)⟩ rfl hl.1 rfl (Nat.le_of_ble_eq_true rfl) dX10_fills_90 ⟨Nat.le_of_ble_eq_true rfl, Nat.le_of_ble_eq_true rfl⟩ (fun rv_2 _ H locs hp hG => ?_)
  subst rv_2
  refine W.widen (k := 2) (n := 0) (by decide) (by decide) ?_
  refine fx_cVr (As := [.ref (N0 + 166), .ref n, .ref (N0 + 171), .ref (n + 1)]) (rest := [.int 0, .int 0, .ref (N0 + 188)]) S hG (k1203_X10_left (by omega) (by omega) (fblk_sk 1 rfl (by omega) (fblk_at 0 (by omega) rfl)) (fblk_at 0 (by omega) rfl)) (fblk_sk 1 rfl (by omega) (fblk_sk 1 rfl (by omega) h6)) rfl (cwV 4 S.2.2.2.2 gX10_fills_X10_left rfl rfl rfl (by decide +kernel) ⟨Nat.le_of_ble_eq_true rfl, Nat.le_of_ble_eq_true rfl⟩) rfl hl.1 rfl (Nat.le_of_ble_eq_true rfl) dX10_fills_93 ⟨Nat.le_of_ble_eq_true rfl, Nat.le_of_ble_eq_true rfl⟩ (fun rv_3 _ H locs hp hG => ?_)
  subst rv_3
  refine W.widen (k := 4) (n := 2) (by decide) (by decide) ?_
  refine lv_iconst (v := 0) S.1 S.2.1 dX10_fills_96 (by decide) ?_
  refine gx_aldq (x := (n + 3)) S hG 4 rfl (fblk_at 0 (by omega) rfl) rfl (fin_l (by decide)) (rfl) dX10_fills_97 ?_
  refine lv_iconst (v := 0) S.1 S.2.1 dX10_fills_98 (by decide) ?_
  refine gx_iald (v := 0) S hG 0 (fblk_at 1 (by omega) rfl) rfl (fin_l (by decide)) (by decide) dX10_fills_99 ?_
  refine lv_iadd S.1 S.2.1 dX10_fills_100 ?_
  refine fx_topi (y := 0) (by decide) ?_
  refine gx_iast (f' := upd (fun _ => 0) 0 0) S hG 0 (fblk_sk 2 rfl (by omega) (fblk_sk 1 rfl (by omega) (fblk_sk 1 rfl (by omega) h8))) rfl (fin_l (by decide)) dX10_fills_101 (rfl) (fun H locs hG => ?_)
  refine lv_iinc (v := (-1)) (lv' := [(4, .int (-1)), (5, .int 0), (3, .int 0), (0, .ref (N0 + 164)), (1, .ref (N0 + 166)), (2, .ref (N0 + 171))]) S.1 S.2.1 dX10_fills_102 hl (k := 1) rfl (by decide) (by decide) rfl (fun ls hl => ?_)
  refine lv_goto (tgt := 19) S.1 S.2.1 dX10_fills_105 (by decide) ?_
  refine lv_iload S.1 S.2.1 dX10_fills_19 (lv_at hl 0 rfl) ?_
  refine lv_if_lt (tgt := 108) S.1 S.2.1 dX10_fills_21 (by decide) (fun _ => ?_) (fun c => absurd (by decide) c)
  refine lv_iinc (v := (-1)) (lv' := [(3, .int (-1)), (4, .int (-1)), (5, .int 0), (0, .ref (N0 + 164)), (1, .ref (N0 + 166)), (2, .ref (N0 + 171))]) S.1 S.2.1 dX10_fills_108 hl (k := 2) rfl (by decide) (by decide) rfl (fun ls hl => ?_)
  refine lv_goto (tgt := 7) S.1 S.2.1 dX10_fills_111 (by decide) ?_
  refine lv_iload_n S.1 S.2.1 dX10_fills_7 rfl (lv_at hl 0 rfl) ?_
  refine lv_if_lt (tgt := 114) S.1 S.2.1 dX10_fills_8 (by decide) (fun _ => ?_) (fun c => absurd (by decide) c)
  refine lv_aload_n S.1 S.2.1 dX10_fills_114 rfl (lv_at hl 3 rfl) ?_
  refine gx_get (C := RX10) (T := TX10) (N := 31) S hG (fu_at (by omega) (fblk_sk 2 rfl (by omega) (fblk_sk 1 rfl (by omega) (fblk_sk 1 rfl (by omega) h6)))) i_X10_fills_X10 rfl 9 (by decide) (by decide +kernel) rfl dX10_fills_115 ?_
  refine lv_iconst (v := 0) S.1 S.2.1 dX10_fills_118 (by decide) ?_
  refine gx_aldq (x := (N0 + 188)) S hG 4 rfl (fu_at (by omega) (fblk_sk 2 rfl (by omega) (fblk_sk 1 rfl (by omega) (fblk_sk 1 rfl (by omega) h7)))) rfl (fin_l (by decide)) (rfl) dX10_fills_119 ?_
  refine lv_iconst (v := 0) S.1 S.2.1 dX10_fills_120 (by decide) ?_
  refine gx_iald (v := 0) S hG 0 fu_s rfl (fin_l (by decide)) (by decide) dX10_fills_121 ?_
  have hG : fG N0 D vwCl (fty cI cC cL cD cII cTr cTm cIt cB) (fen ql) s (fblk (fu F (N0 + 188) (.inl (cI, 20, .inl (upd (fun _ => 0) 0 0)))) n [.inl (cI, 0, .inl (fun _ => 0)), .inl (cI, 0, .inl (fun _ => 0)), .inl (cII, 1, .inr (.inr (.inr (.inr (fun j => if j < 1 then some ((n + 3) + j) else none))))), .inl (cI, 1, .inl (fun _ => 0))]) (n + 4) H locs := hG.weak (fun a e h => by
    rcases fblk_cases 4 rfl h with ⟨k, rfl, hlt, hk⟩ | ⟨hout, h⟩
    · rcases (show k = 0 ∨ k = 1 ∨ k = 2 ∨ k = 3 by omega) with rfl | rfl | rfl | rfl
      · cases (show some (.inl (cI, 0, .inl (fun _ => 0))) = some e from hk); exact (fu_at (by omega) (fblk_sk 2 rfl (by omega) (fblk_sk 1 rfl (by omega) (fblk_at 0 (by omega) rfl))))
      · cases (show some (.inl (cI, 0, .inl (fun _ => 0))) = some e from hk); exact (fu_at (by omega) (fblk_sk 2 rfl (by omega) (fblk_at 0 (by omega) rfl)))
      · cases (show some (.inl (cII, 1, .inr (.inr (.inr (.inr (fun j => if j < 1 then some ((n + 3) + j) else none)))))) = some e from hk); exact (fu_at (by omega) (fblk_at 0 (by omega) rfl))
      · cases (show some (.inl (cI, 1, .inl (fun _ => 0))) = some e from hk); exact (fu_at (by omega) (fblk_at 1 (by omega) rfl))
    · rcases fu_cases h with ⟨rfl, he⟩ | ⟨hne0, h⟩
      · cases he; exact fu_s
      · exact (fu_at (by omega) (fblk_sk 2 rfl (by omega) (fblk_sk 1 rfl (by omega) (fblk_sk 1 rfl (by omega) h)))))
  exact fx_iret S hr hlocks () hG (rfl) dX10_fills_122
theorem k1205_X10_distance {n : Nat} (hn : N0 + 231 ≤ n) (h0 : F (N0 + 164) = some (.inr (12, [.ref (N0 + 165), .int 0, .ref (N0 + 181), .int 0, .int 0, .int 0, .int (-1), .ref (ql 24), .ref (N0 + 182), .ref (N0 + 187), .ref (N0 + 208), .ref (N0 + 209), .ref (N0 + 210), .ref (N0 + 211), .ref (N0 + 212), .int 0, .ref (N0 + 213), .ref (N0 + 218), .ref (N0 + 223), .ref (N0 + 224), .ref (N0 + 225), .ref (N0 + 226), .ref (N0 + 227), .int 0, .int 0, .ref (N0 + 228), .null, .int (-1), .int 0, .int 0, .int 0]))) (h1 : F (N0 + 165) = some (.inl (cTm, 3, .inr (.inr (.inr (.inr (va_up (va_up (va_up (fun _ => none) 0 (some (N0 + 166))) 1 (some (N0 + 171))) 2 (some (N0 + 176))))))))) (h2 : F (N0 + 166) = some (.inr (11, [.ref (N0 + 167), .ref (N0 + 168), .ref (N0 + 169), .ref (N0 + 170), .int 1]))) (h3 : F (N0 + 171) = some (.inr (11, [.ref (N0 + 172), .ref (N0 + 173), .ref (N0 + 174), .ref (N0 + 175), .int 1]))) (h4 : F (N0 + 167) = some (.inl (cI, 20, .inl (upd (fun _ => 0) 0 97)))) (h5 : F (N0 + 172) = some (.inl (cI, 20, .inl (upd (fun _ => 0) 0 97)))) (h6 : F (N0 + 169) = some (.inl (cI, 20, .inl (upd (fun _ => 0) 0 0)))) (h7 : F (N0 + 174) = some (.inl (cI, 20, .inl (upd (fun _ => 0) 0 0)))) (h8 : F (N0 + 187) = some (.inl (cII, 20, .inr (.inr (.inr (.inr (fun j => if j < 20 then some ((N0 + 188) + j) else none))))))) (h9 : F (N0 + 188) = some (.inl (cI, 20, .inl (fun _ => 0)))) : Met l yX10_distance wsX10_distance ({ frames := 3, cells := 4, slots := 2, locals := 72 }) (va_Pc [.ref (N0 + 164), .int 0, .int 1] (fP N0 D vwCl (fty cI cC cL cD cII cTr cTm cIt cB) (fen ql) F n)) (fQi N0 D vwCl (fty cI cC cL cD cII cTr cTm cIt cB) (fun (r : Int32) (_ : Unit) => r = 0) (fun _ => (fblk (fu (fu F (N0 + 164) (.inr (12, [.ref (N0 + 165), .int 0, .ref (N0 + 181), .int 0, .int 0, .int 0, .int (-1), .ref (ql 24), .ref (N0 + 182), .ref (N0 + 187), .ref (N0 + 208), .ref (N0 + 209), .ref (N0 + 210), .ref (N0 + 211), .ref (N0 + 212), .int 0, .ref (N0 + 213), .ref (N0 + 218), .ref (N0 + 223), .ref (N0 + 224), .ref (N0 + 225), .ref (N0 + 226), .ref (N0 + 227), .int 0, .int 0, .ref (N0 + 228), .null, .int (-1), .int 0, .int 0, .int 0]))) (N0 + 188) (.inl (cI, 20, .inl (upd (fun _ => 0) 0 0)))) n [.inl (cI, 0, .inl (fun _ => 0)), .inl (cI, 0, .inl (fun _ => 0)), .inl (cII, 1, .inr (.inr (.inr (.inr (fun j => if j < 1 then some ((n + 3) + j) else none))))), .inl (cI, 1, .inl (fun _ => 0))])) (fun _ => (n + 4))) 4 2 (fA N0) := by
  refine fx_start 3 rfl rfl (Nat.le_of_ble_eq_true rfl) ?_ rfl
  intro p e s m below meth c ls S hr hlocks hin hG hl
  have hl : lv_has ls 3 [(0, .ref (N0 + 164)), (1, .int 0), (2, .int 1)] := hl
  have lt_h0 := hG.1.lt h0
  have lt_h1 := hG.1.lt h1
  have lt_h2 := hG.1.lt h2
  have lt_h3 := hG.1.lt h3
  have lt_h4 := hG.1.lt h4
  have lt_h5 := hG.1.lt h5
  have lt_h6 := hG.1.lt h6
  have lt_h7 := hG.1.lt h7
  have lt_h8 := hG.1.lt h8
  have lt_h9 := hG.1.lt h9
  refine lv_aload_n S.1 S.2.1 dX10_distance_0 rfl (lv_at hl 0 rfl) ?_
  refine lv_iload_n S.1 S.2.1 dX10_distance_1 rfl (lv_at hl 1 rfl) ?_
  refine lv_iload_n S.1 S.2.1 dX10_distance_2 rfl (lv_at hl 2 rfl) ?_
  refine fx_cVi (As := [.int 0, .int 1]) (rest := []) S hG (k467_X10_areNone (by omega) h0) h0 rfl (cwV 2 S.2.2.2.2 gX10_distance_X10_areNone rfl rfl rfl (by decide +kernel) ⟨Nat.le_of_ble_eq_true rfl, Nat.le_of_ble_eq_true rfl⟩) rfl hl.1 rfl (Nat.le_of_ble_eq_true rfl) dX10_distance_3 ⟨Nat.le_of_ble_eq_true rfl, Nat.le_of_ble_eq_true rfl⟩ (fun rv_1 _ H locs hp hG => ?_)
  subst rv_1
  refine lv_if_eq (tgt := 13) S.1 S.2.1 dX10_distance_6 (by decide) (fun _ => ?_) (fun c => absurd (by decide) c)
  refine lv_aload_n S.1 S.2.1 dX10_distance_13 rfl (lv_at hl 0 rfl) ?_
  refine lv_aload_n S.1 S.2.1 dX10_distance_14 rfl (lv_at hl 0 rfl) ?_
  refine gx_get (C := RX10) (T := TX10) (N := 31) S hG fu_s i_X10_distance_X10 rfl 0 (by decide) (by decide +kernel) rfl dX10_distance_15 ?_
  refine lv_iload_n S.1 S.2.1 dX10_distance_18 rfl (lv_at hl 1 rfl) ?_
  refine gx_aldq (x := (N0 + 166)) S hG 6 rfl (fu_at (by omega) h1) rfl (fin_l (by decide)) (rfl) dX10_distance_19 ?_
  refine lv_aload_n S.1 S.2.1 dX10_distance_20 rfl (lv_at hl 0 rfl) ?_
  refine gx_get (C := RX10) (T := TX10) (N := 31) S hG fu_s i_X10_distance_X10 rfl 0 (by decide) (by decide +kernel) rfl dX10_distance_21 ?_
  refine lv_iload_n S.1 S.2.1 dX10_distance_24 rfl (lv_at hl 2 rfl) ?_
  refine gx_aldq (x := (N0 + 171)) S hG 6 rfl (fu_at (by omega) h1) rfl (fin_l (by decide)) (rfl) dX10_distance_25 ?_
  refine fx_cVi (As := [.ref (N0 + 166), .ref (N0 + 171)]) (rest := []) S hG (k1204_X10_fills (by omega) (fu_at (by omega) h2) (fu_at (by omega) h3) (fu_at (by omega) h4) (fu_at (by omega) h5) (fu_at (by omega) h6) (fu_at (by omega) h7) fu_s (fu_at (by omega) h8) (fu_at (by omega) h9)) fu_s rfl (cwV 2 S.2.2.2.2 gX10_distance_X10_fills rfl rfl rfl (by decide +kernel) ⟨Nat.le_of_ble_eq_true rfl, Nat.le_of_ble_eq_true rfl⟩) rfl hl.1 rfl (Nat.le_of_ble_eq_true rfl) dX10_distance_26 ⟨Nat.le_of_ble_eq_true rfl, Nat.le_of_ble_eq_true rfl⟩ (fun rv_2 _ H locs hp hG => ?_)
  subst rv_2
  refine W.widen (k := 4) (n := 2) (by decide) (by decide) ?_
  have hG : fG N0 D vwCl (fty cI cC cL cD cII cTr cTm cIt cB) (fen ql) s (fblk (fu (fu F (N0 + 164) (.inr (12, [.ref (N0 + 165), .int 0, .ref (N0 + 181), .int 0, .int 0, .int 0, .int (-1), .ref (ql 24), .ref (N0 + 182), .ref (N0 + 187), .ref (N0 + 208), .ref (N0 + 209), .ref (N0 + 210), .ref (N0 + 211), .ref (N0 + 212), .int 0, .ref (N0 + 213), .ref (N0 + 218), .ref (N0 + 223), .ref (N0 + 224), .ref (N0 + 225), .ref (N0 + 226), .ref (N0 + 227), .int 0, .int 0, .ref (N0 + 228), .null, .int (-1), .int 0, .int 0, .int 0]))) (N0 + 188) (.inl (cI, 20, .inl (upd (fun _ => 0) 0 0)))) n [.inl (cI, 0, .inl (fun _ => 0)), .inl (cI, 0, .inl (fun _ => 0)), .inl (cII, 1, .inr (.inr (.inr (.inr (fun j => if j < 1 then some ((n + 3) + j) else none))))), .inl (cI, 1, .inl (fun _ => 0))]) (n + 4) H locs := hG.weak (fun a e h => by
    rcases fblk_cases 4 rfl h with ⟨k, rfl, hlt, hk⟩ | ⟨hout, h⟩
    · rcases (show k = 0 ∨ k = 1 ∨ k = 2 ∨ k = 3 by omega) with rfl | rfl | rfl | rfl
      · cases (show some (.inl (cI, 0, .inl (fun _ => 0))) = some e from hk); exact (fblk_at 0 (by omega) rfl)
      · cases (show some (.inl (cI, 0, .inl (fun _ => 0))) = some e from hk); exact (fblk_at 1 (by omega) rfl)
      · cases (show some (.inl (cII, 1, .inr (.inr (.inr (.inr (fun j => if j < 1 then some ((n + 3) + j) else none)))))) = some e from hk); exact (fblk_at 2 (by omega) rfl)
      · cases (show some (.inl (cI, 1, .inl (fun _ => 0))) = some e from hk); exact (fblk_at 3 (by omega) rfl)
    · rcases fu_cases h with ⟨rfl, he⟩ | ⟨hne0, h⟩
      · cases he; exact (fblk_sk 4 rfl (by omega) fu_s)
      · skip
        rcases fu_cases h with ⟨rfl, he⟩ | ⟨hne1, h⟩
        · cases he; exact (fblk_sk 4 rfl (by omega) (fu_at (by omega) fu_s))
        · exact (fblk_sk 4 rfl (by omega) (fu_at (by omega) (fu_at (by omega) h))))
  exact fx_iret S hr hlocks () hG (rfl) dX10_distance_29
theorem k1206_X5_listWidths {n : Nat} (hn : N0 + 231 ≤ n) (h0 : F (N0 + 157) = some (.inr (7, [.ref (N0 + 158), .ref (N0 + 159), .ref (N0 + 160), .ref (N0 + 161), .ref (N0 + 162), .ref (N0 + 163), .int 1]))) (h1 : F (N0 + 58) = some (.inl (cI, 20, .inl (fun _ => 0)))) : Met l yX5_listWidths wsX5_listWidths ({ frames := 1, cells := 0, slots := 0, locals := 22 }) (va_Pc [.ref (N0 + 157), .ref (N0 + 58)] (fP N0 D vwCl (fty cI cC cL cD cII cTr cTm cIt cB) (fen ql) F n)) (fQv N0 D vwCl (fty cI cC cL cD cII cTr cTm cIt cB) (fun (_ : Unit) => True) (fun _ => (fu F (N0 + 58) (.inl (cI, 20, .inl (upd (fun _ => 0) 0 1))))) (fun _ => n)) 0 0 (fA N0) := by
  refine fx_start 3 rfl rfl (Nat.le_of_ble_eq_true rfl) ?_ rfl
  intro p e s m below meth c ls S hr hlocks hin hG hl
  have hl : lv_has ls 3 [(0, .ref (N0 + 157)), (1, .ref (N0 + 58))] := hl
  have lt_h0 := hG.1.lt h0
  have lt_h1 := hG.1.lt h1
  refine lv_iconst (v := 0) S.1 S.2.1 dX5_listWidths_0 (by decide) ?_
  refine lv_istore_n (lv' := [(2, .int 0), (0, .ref (N0 + 157)), (1, .ref (N0 + 58))]) S.1 S.2.1 dX5_listWidths_1 rfl hl (by decide) rfl (fun ls hl => ?_)
  refine lv_iload_n S.1 S.2.1 dX5_listWidths_2 rfl (lv_at hl 0 rfl) ?_
  refine lv_aload_n S.1 S.2.1 dX5_listWidths_3 rfl (lv_at hl 1 rfl) ?_
  refine gx_get (C := RX5) (T := TX5) (N := 7) S hG h0 i_X5_listWidths_X5 rfl 6 (by decide) (by decide +kernel) rfl dX5_listWidths_4 ?_
  refine lv_icmp_ge (tgt := 30) S.1 S.2.1 dX5_listWidths_7 (by decide) (fun c => absurd c (by decide)) (fun _ => ?_)
  refine lv_iload_n S.1 S.2.1 dX5_listWidths_10 rfl (lv_at hl 0 rfl) ?_
  refine lv_aload_n S.1 S.2.1 dX5_listWidths_11 rfl (lv_at hl 2 rfl) ?_
  refine gx_alen (v := 20) S hG 0 h1 rfl (rfl) dX5_listWidths_12 ?_
  refine lv_icmp_ge (tgt := 30) S.1 S.2.1 dX5_listWidths_13 (by decide) (fun c => absurd c (by decide)) (fun _ => ?_)
  refine lv_aload_n S.1 S.2.1 dX5_listWidths_16 rfl (lv_at hl 2 rfl) ?_
  refine lv_iload_n S.1 S.2.1 dX5_listWidths_17 rfl (lv_at hl 0 rfl) ?_
  refine lv_aload_n S.1 S.2.1 dX5_listWidths_18 rfl (lv_at hl 1 rfl) ?_
  refine lv_iload_n S.1 S.2.1 dX5_listWidths_19 rfl (lv_at hl 0 rfl) ?_
  refine fx_cVi (As := [.int 0]) (rest := [.int 0, .ref (N0 + 58)]) S hG (k201_X5_widthOf (by omega) h0) h0 rfl (cwV 1 S.2.2.2.2 gX5_listWidths_X5_widthOf rfl rfl rfl (by decide +kernel) ⟨Nat.le_of_ble_eq_true rfl, Nat.le_of_ble_eq_true rfl⟩) rfl hl.1 rfl (Nat.le_of_ble_eq_true rfl) dX5_listWidths_20 ⟨Nat.le_of_ble_eq_true rfl, Nat.le_of_ble_eq_true rfl⟩ (fun rv_1 _ H locs hp hG => ?_)
  subst rv_1
  refine gx_iast (f' := upd (fun _ => 0) 0 1) S hG 0 h1 rfl (fin_l (by decide)) dX5_listWidths_23 (rfl) (fun H locs hG => ?_)
  refine lv_iinc (v := 1) (lv' := [(2, .int 1), (0, .ref (N0 + 157)), (1, .ref (N0 + 58))]) S.1 S.2.1 dX5_listWidths_24 hl (k := 0) rfl (by decide) (by decide) rfl (fun ls hl => ?_)
  refine lv_goto (tgt := 2) S.1 S.2.1 dX5_listWidths_27 (by decide) ?_
  refine lv_iload_n S.1 S.2.1 dX5_listWidths_2 rfl (lv_at hl 0 rfl) ?_
  refine lv_aload_n S.1 S.2.1 dX5_listWidths_3 rfl (lv_at hl 1 rfl) ?_
  refine gx_get (C := RX5) (T := TX5) (N := 7) S hG (fu_at (by omega) h0) i_X5_listWidths_X5 rfl 6 (by decide) (by decide +kernel) rfl dX5_listWidths_4 ?_
  refine lv_icmp_ge (tgt := 30) S.1 S.2.1 dX5_listWidths_7 (by decide) (fun _ => ?_) (fun c => absurd (by decide) c)
  exact fx_vret S hr hlocks () hG trivial dX5_listWidths_30
theorem k1207_X5_listChildren {n : Nat} (hn : N0 + 231 ≤ n) (h0 : F (N0 + 157) = some (.inr (7, [.ref (N0 + 158), .ref (N0 + 159), .ref (N0 + 160), .ref (N0 + 161), .ref (N0 + 162), .ref (N0 + 163), .int 1]))) : Met l yX5_listChildren wsX5_listChildren ({ frames := 0, cells := 0, slots := 0, locals := 0 }) (va_Pc [.ref (N0 + 157), .int 0, .ref (N0 + 60)] (fP N0 D vwCl (fty cI cC cL cD cII cTr cTm cIt cB) (fen ql) F n)) (fQi N0 D vwCl (fty cI cC cL cD cII cTr cTm cIt cB) (fun (r : Int32) (_ : Unit) => r = 0) (fun _ => F) (fun _ => n)) 0 0 (fA N0) := by
  refine fx_start 5 rfl rfl (Nat.le_of_ble_eq_true rfl) ?_ rfl
  intro p e s m below meth c ls S hr hlocks hin hG hl
  have hl : lv_has ls 5 [(0, .ref (N0 + 157)), (1, .int 0), (2, .ref (N0 + 60))] := hl
  have lt_h0 := hG.1.lt h0
  refine lv_iconst (v := 0) S.1 S.2.1 dX5_listChildren_0 (by decide) ?_
  refine lv_istore_n (lv' := [(3, .int 0), (0, .ref (N0 + 157)), (1, .int 0), (2, .ref (N0 + 60))]) S.1 S.2.1 dX5_listChildren_1 rfl hl (by decide) rfl (fun ls hl => ?_)
  refine lv_iload_n S.1 S.2.1 dX5_listChildren_2 rfl (lv_at hl 2 rfl) ?_
  refine lv_iconst (v := 1) S.1 S.2.1 dX5_listChildren_3 (by decide) ?_
  refine lv_iadd S.1 S.2.1 dX5_listChildren_4 ?_
  refine fx_topi (y := 1) (by decide) ?_
  refine lv_istore (lv' := [(4, .int 1), (3, .int 0), (0, .ref (N0 + 157)), (1, .int 0), (2, .ref (N0 + 60))]) S.1 S.2.1 dX5_listChildren_5 hl (by decide) rfl (fun ls hl => ?_)
  refine lv_iload S.1 S.2.1 dX5_listChildren_7 (lv_at hl 0 rfl) ?_
  refine lv_aload_n S.1 S.2.1 dX5_listChildren_9 rfl (lv_at hl 2 rfl) ?_
  refine gx_get (C := RX5) (T := TX5) (N := 7) S hG h0 i_X5_listChildren_X5 rfl 6 (by decide) (by decide +kernel) rfl dX5_listChildren_10 ?_
  refine lv_icmp_ge (tgt := 47) S.1 S.2.1 dX5_listChildren_13 (by decide) (fun _ => ?_) (fun c => absurd (by decide) c)
  refine lv_iload_n S.1 S.2.1 dX5_listChildren_47 rfl (lv_at hl 1 rfl) ?_
  exact fx_iret S hr hlocks () hG (rfl) dX5_listChildren_48
theorem k1208_X1_restCost {n : Nat} (hn : N0 + 231 ≤ n) (h0 : F (N0 + 13) = some (.inr (3, [.ref (N0 + 14), .ref (N0 + 35), .ref (N0 + 57), .ref (N0 + 58), .ref (N0 + 59), .ref (N0 + 60), .int 0, .int 0, .ref (N0 + 61), .ref (N0 + 62)]))) : Met l yX1_restCost wsX1_restCost ({ frames := 0, cells := 0, slots := 0, locals := 0 }) (va_Pc [.ref (N0 + 13), .ref (N0 + 143), .ref (N0 + 157), .int 0, .int 0] (fP N0 D vwCl (fty cI cC cL cD cII cTr cTm cIt cB) (fen ql) F n)) (fQi N0 D vwCl (fty cI cC cL cD cII cTr cTm cIt cB) (fun (r : Int32) (_ : Unit) => r = 0) (fun _ => F) (fun _ => n)) 0 0 (fA N0) := by
  refine fx_start 6 rfl rfl (Nat.le_of_ble_eq_true rfl) ?_ rfl
  intro p e s m below meth c ls S hr hlocks hin hG hl
  have hl : lv_has ls 6 [(0, .ref (N0 + 13)), (1, .ref (N0 + 143)), (2, .ref (N0 + 157)), (3, .int 0), (4, .int 0)] := hl
  have lt_h0 := hG.1.lt h0
  refine lv_iload_n S.1 S.2.1 dX1_restCost_0 rfl (lv_at hl 3 rfl) ?_
  refine lv_aload_n S.1 S.2.1 dX1_restCost_1 rfl (lv_at hl 0 rfl) ?_
  refine gx_get (C := RX1) (T := TX1) (N := 10) S hG h0 i_X1_restCost_X1 rfl 6 (by decide) (by decide +kernel) rfl dX1_restCost_2 ?_
  refine lv_icmp_ne (tgt := 29) S.1 S.2.1 dX1_restCost_5 (by decide) (fun c => absurd (by decide) c) (fun _ => ?_)
  refine lv_iload S.1 S.2.1 dX1_restCost_8 (lv_at hl 4 rfl) ?_
  refine lv_aload_n S.1 S.2.1 dX1_restCost_10 rfl (lv_at hl 0 rfl) ?_
  refine gx_get (C := RX1) (T := TX1) (N := 10) S hG h0 i_X1_restCost_X1 rfl 7 (by decide) (by decide +kernel) rfl dX1_restCost_11 ?_
  refine lv_icmp_ne (tgt := 21) S.1 S.2.1 dX1_restCost_14 (by decide) (fun c => absurd (by decide) c) (fun _ => ?_)
  refine lv_iconst (v := 0) S.1 S.2.1 dX1_restCost_17 (by decide) ?_
  refine lv_goto (tgt := 28) S.1 S.2.1 dX1_restCost_18 (by decide) ?_
  exact fx_iret S hr hlocks () hG (rfl) dX1_restCost_28
theorem k1209_X1_fillRestCosts {n : Nat} (hn : N0 + 231 ≤ n) (h0 : F (N0 + 13) = some (.inr (3, [.ref (N0 + 14), .ref (N0 + 35), .ref (N0 + 57), .ref (N0 + 58), .ref (N0 + 59), .ref (N0 + 60), .int 0, .int 0, .ref (N0 + 61), .ref (N0 + 62)]))) (h1 : F (N0 + 35) = some (.inl (cII, 21, .inr (.inr (.inr (.inr (fun j => if j < 21 then some ((N0 + 36) + j) else none))))))) (h2 : F (N0 + 36) = some (.inl (cI, 21, .inl (fun _ => 0)))) : Met l yX1_fillRestCosts wsX1_fillRestCosts ({ frames := 1, cells := 0, slots := 0, locals := 25 }) (va_Pc [.ref (N0 + 13), .ref (N0 + 143), .ref (N0 + 157)] (fP N0 D vwCl (fty cI cC cL cD cII cTr cTm cIt cB) (fen ql) F n)) (fQv N0 D vwCl (fty cI cC cL cD cII cTr cTm cIt cB) (fun (_ : Unit) => True) (fun _ => (fu F (N0 + 36) (.inl (cI, 21, .inl (upd (fun _ => 0) 0 0))))) (fun _ => n)) 0 0 (fA N0) := by
  refine fx_start 5 rfl rfl (Nat.le_of_ble_eq_true rfl) ?_ rfl
  intro p e s m below meth c ls S hr hlocks hin hG hl
  have hl : lv_has ls 5 [(0, .ref (N0 + 13)), (1, .ref (N0 + 143)), (2, .ref (N0 + 157))] := hl
  have lt_h0 := hG.1.lt h0
  have lt_h1 := hG.1.lt h1
  have lt_h2 := hG.1.lt h2
  refine lv_aload_n S.1 S.2.1 dX1_fillRestCosts_0 rfl (lv_at hl 0 rfl) ?_
  refine gx_get (C := RX1) (T := TX1) (N := 10) S hG h0 i_X1_fillRestCosts_X1 rfl 6 (by decide) (by decide +kernel) rfl dX1_fillRestCosts_1 ?_
  refine lv_istore_n (lv' := [(3, .int 0), (0, .ref (N0 + 13)), (1, .ref (N0 + 143)), (2, .ref (N0 + 157))]) S.1 S.2.1 dX1_fillRestCosts_4 rfl hl (by decide) rfl (fun ls hl => ?_)
  refine lv_iload_n S.1 S.2.1 dX1_fillRestCosts_5 rfl (lv_at hl 0 rfl) ?_
  refine lv_if_lt (tgt := 50) S.1 S.2.1 dX1_fillRestCosts_6 (by decide) (fun c => absurd c (by decide)) (fun _ => ?_)
  refine lv_aload_n S.1 S.2.1 dX1_fillRestCosts_9 rfl (lv_at hl 1 rfl) ?_
  refine gx_get (C := RX1) (T := TX1) (N := 10) S hG h0 i_X1_fillRestCosts_X1 rfl 7 (by decide) (by decide +kernel) rfl dX1_fillRestCosts_10 ?_
  refine lv_istore (lv' := [(4, .int 0), (3, .int 0), (0, .ref (N0 + 13)), (1, .ref (N0 + 143)), (2, .ref (N0 + 157))]) S.1 S.2.1 dX1_fillRestCosts_13 hl (by decide) rfl (fun ls hl => ?_)
  refine lv_iload S.1 S.2.1 dX1_fillRestCosts_15 (lv_at hl 0 rfl) ?_
  refine lv_if_lt (tgt := 44) S.1 S.2.1 dX1_fillRestCosts_17 (by decide) (fun c => absurd c (by decide)) (fun _ => ?_)
  refine lv_aload_n S.1 S.2.1 dX1_fillRestCosts_20 rfl (lv_at hl 2 rfl) ?_
  refine gx_get (C := RX1) (T := TX1) (N := 10) S hG h0 i_X1_fillRestCosts_X1 rfl 1 (by decide) (by decide +kernel) rfl dX1_fillRestCosts_21 ?_
  refine lv_iload_n S.1 S.2.1 dX1_fillRestCosts_24 rfl (lv_at hl 1 rfl) ?_
  refine gx_aldq (x := (N0 + 36)) S hG 4 rfl h1 rfl (fin_l (by decide)) (rfl) dX1_fillRestCosts_25 ?_
  refine lv_iload S.1 S.2.1 dX1_fillRestCosts_26 (lv_at hl 0 rfl) ?_
  refine lv_aload_n S.1 S.2.1 dX1_fillRestCosts_28 rfl (lv_at hl 2 rfl) ?_
  refine lv_aload_n S.1 S.2.1 dX1_fillRestCosts_29 rfl (lv_at hl 3 rfl) ?_
  refine lv_aload_n S.1 S.2.1 dX1_fillRestCosts_30 rfl (lv_at hl 4 rfl) ?_
  refine lv_iload_n S.1 S.2.1 dX1_fillRestCosts_31 rfl (lv_at hl 1 rfl) ?_
  refine lv_iload S.1 S.2.1 dX1_fillRestCosts_32 (lv_at hl 0 rfl) ?_
  refine fx_cVi (As := [.ref (N0 + 143), .ref (N0 + 157), .int 0, .int 0]) (rest := [.int 0, .ref (N0 + 36)]) S hG (k1208_X1_restCost (by omega) h0) h0 rfl (cwV 4 S.2.2.2.2 gX1_fillRestCosts_X1_restCost rfl rfl rfl (by decide +kernel) ⟨Nat.le_of_ble_eq_true rfl, Nat.le_of_ble_eq_true rfl⟩) rfl hl.1 rfl (Nat.le_of_ble_eq_true rfl) dX1_fillRestCosts_34 ⟨Nat.le_of_ble_eq_true rfl, Nat.le_of_ble_eq_true rfl⟩ (fun rv_1 _ H locs hp hG => ?_)
  subst rv_1
  refine gx_iast (f' := upd (fun _ => 0) 0 0) S hG 0 h2 rfl (fin_l (by decide)) dX1_fillRestCosts_37 (rfl) (fun H locs hG => ?_)
  refine lv_iinc (v := (-1)) (lv' := [(4, .int (-1)), (3, .int 0), (0, .ref (N0 + 13)), (1, .ref (N0 + 143)), (2, .ref (N0 + 157))]) S.1 S.2.1 dX1_fillRestCosts_38 hl (k := 0) rfl (by decide) (by decide) rfl (fun ls hl => ?_)
  refine lv_goto (tgt := 15) S.1 S.2.1 dX1_fillRestCosts_41 (by decide) ?_
  refine lv_iload S.1 S.2.1 dX1_fillRestCosts_15 (lv_at hl 0 rfl) ?_
  refine lv_if_lt (tgt := 44) S.1 S.2.1 dX1_fillRestCosts_17 (by decide) (fun _ => ?_) (fun c => absurd (by decide) c)
  refine lv_iinc (v := (-1)) (lv' := [(3, .int (-1)), (4, .int (-1)), (0, .ref (N0 + 13)), (1, .ref (N0 + 143)), (2, .ref (N0 + 157))]) S.1 S.2.1 dX1_fillRestCosts_44 hl (k := 1) rfl (by decide) (by decide) rfl (fun ls hl => ?_)
  refine lv_goto (tgt := 5) S.1 S.2.1 dX1_fillRestCosts_47 (by decide) ?_
  refine lv_iload_n S.1 S.2.1 dX1_fillRestCosts_5 rfl (lv_at hl 0 rfl) ?_
  refine lv_if_lt (tgt := 50) S.1 S.2.1 dX1_fillRestCosts_6 (by decide) (fun _ => ?_) (fun c => absurd (by decide) c)
  exact fx_vret S hr hlocks () hG trivial dX1_fillRestCosts_50
theorem k1210_X7_changeCost {n : Nat} (hn : N0 + 231 ≤ n) (h0 : F (N0 + 143) = some (.inr (7, [.ref (N0 + 144), .ref (N0 + 145), .ref (N0 + 146), .ref (N0 + 147), .ref (N0 + 148), .ref (N0 + 149), .int 1]))) (h1 : F (N0 + 144) = some (.inl (cC, 20, .inl (upd (fun _ => 0) 0 97)))) (h2 : F (N0 + 157) = some (.inr (7, [.ref (N0 + 158), .ref (N0 + 159), .ref (N0 + 160), .ref (N0 + 161), .ref (N0 + 162), .ref (N0 + 163), .int 1]))) (h3 : F (N0 + 158) = some (.inl (cC, 20, .inl (upd (fun _ => 0) 0 97)))) (h4 : F (N0 + 146) = some (.inl (cI, 20, .inl (fun _ => 0)))) (h5 : F (N0 + 160) = some (.inl (cI, 20, .inl (fun _ => 0)))) : Met l yX7_changeCost wsX7_changeCost ({ frames := 0, cells := 0, slots := 0, locals := 0 }) (va_Pc [.ref (N0 + 143), .int 0, .ref (N0 + 157), .int 0] (fP N0 D vwCl (fty cI cC cL cD cII cTr cTm cIt cB) (fen ql) F n)) (fQi N0 D vwCl (fty cI cC cL cD cII cTr cTm cIt cB) (fun (r : Int32) (_ : Unit) => r = 0) (fun _ => F) (fun _ => n)) 0 0 (fA N0) := by
  refine fx_start 5 rfl rfl (Nat.le_of_ble_eq_true rfl) ?_ rfl
  intro p e s m below meth c ls S hr hlocks hin hG hl
  have hl : lv_has ls 5 [(0, .ref (N0 + 143)), (1, .int 0), (2, .ref (N0 + 157)), (3, .int 0)] := hl
  have lt_h0 := hG.1.lt h0
  have lt_h1 := hG.1.lt h1
  have lt_h2 := hG.1.lt h2
  have lt_h3 := hG.1.lt h3
  have lt_h4 := hG.1.lt h4
  have lt_h5 := hG.1.lt h5
  refine lv_iconst (v := 0) S.1 S.2.1 dX7_changeCost_0 (by decide) ?_
  refine lv_istore (lv' := [(4, .int 0), (0, .ref (N0 + 143)), (1, .int 0), (2, .ref (N0 + 157)), (3, .int 0)]) S.1 S.2.1 dX7_changeCost_1 hl (by decide) rfl (fun ls hl => ?_)
  refine lv_aload_n S.1 S.2.1 dX7_changeCost_3 rfl (lv_at hl 1 rfl) ?_
  refine gx_get (C := RX5) (T := TX5) (N := 7) S hG h0 i_X7_changeCost_X5 rfl 0 (by decide) (by decide +kernel) rfl dX7_changeCost_4 ?_
  refine lv_iload_n S.1 S.2.1 dX7_changeCost_7 rfl (lv_at hl 2 rfl) ?_
  refine gx_cald (v := 97) S hG 1 h1 rfl (fin_l (by decide)) (by decide) dX7_changeCost_8 ?_
  refine lv_aload_n S.1 S.2.1 dX7_changeCost_9 rfl (lv_at hl 3 rfl) ?_
  refine gx_get (C := RX5) (T := TX5) (N := 7) S hG h2 i_X7_changeCost_X5 rfl 0 (by decide) (by decide +kernel) rfl dX7_changeCost_10 ?_
  refine lv_iload_n S.1 S.2.1 dX7_changeCost_13 rfl (lv_at hl 4 rfl) ?_
  refine gx_cald (v := 97) S hG 1 h3 rfl (fin_l (by decide)) (by decide) dX7_changeCost_14 ?_
  refine lv_icmp_eq (tgt := 21) S.1 S.2.1 dX7_changeCost_15 (by decide) (fun _ => ?_) (fun c => absurd (by decide) c)
  refine lv_aload_n S.1 S.2.1 dX7_changeCost_21 rfl (lv_at hl 1 rfl) ?_
  refine gx_get (C := RX5) (T := TX5) (N := 7) S hG h0 i_X7_changeCost_X5 rfl 2 (by decide) (by decide +kernel) rfl dX7_changeCost_22 ?_
  refine lv_iload_n S.1 S.2.1 dX7_changeCost_25 rfl (lv_at hl 2 rfl) ?_
  refine gx_iald (v := 0) S hG 0 h4 rfl (fin_l (by decide)) (by decide) dX7_changeCost_26 ?_
  refine lv_aload_n S.1 S.2.1 dX7_changeCost_27 rfl (lv_at hl 3 rfl) ?_
  refine gx_get (C := RX5) (T := TX5) (N := 7) S hG h2 i_X7_changeCost_X5 rfl 2 (by decide) (by decide +kernel) rfl dX7_changeCost_28 ?_
  refine lv_iload_n S.1 S.2.1 dX7_changeCost_31 rfl (lv_at hl 4 rfl) ?_
  refine gx_iald (v := 0) S hG 0 h5 rfl (fin_l (by decide)) (by decide) dX7_changeCost_32 ?_
  refine lv_icmp_eq (tgt := 39) S.1 S.2.1 dX7_changeCost_33 (by decide) (fun _ => ?_) (fun c => absurd (by decide) c)
  refine lv_iload S.1 S.2.1 dX7_changeCost_39 (lv_at hl 0 rfl) ?_
  exact fx_iret S hr hlocks () hG (rfl) dX7_changeCost_41
set_option maxHeartbeats 16000000 in
theorem k1211_X1_leastCost {n : Nat} (hn : N0 + 231 ≤ n) (h0 : F (N0 + 13) = some (.inr (3, [.ref (N0 + 14), .ref (N0 + 35), .ref (N0 + 57), .ref (N0 + 58), .ref (N0 + 59), .ref (N0 + 60), .int 0, .int 0, .ref (N0 + 61), .ref (N0 + 62)]))) (h1 : F (N0 + 143) = some (.inr (7, [.ref (N0 + 144), .ref (N0 + 145), .ref (N0 + 146), .ref (N0 + 147), .ref (N0 + 148), .ref (N0 + 149), .int 1]))) (h2 : F (N0 + 57) = some (.inl (cI, 20, .inl (fun _ => 0)))) (h3 : F (N0 + 157) = some (.inr (7, [.ref (N0 + 158), .ref (N0 + 159), .ref (N0 + 160), .ref (N0 + 161), .ref (N0 + 162), .ref (N0 + 163), .int 1]))) (h4 : F (N0 + 58) = some (.inl (cI, 20, .inl (fun _ => 0)))) (h5 : F (N0 + 35) = some (.inl (cII, 21, .inr (.inr (.inr (.inr (fun j => if j < 21 then some ((N0 + 36) + j) else none))))))) (h6 : F (N0 + 36) = some (.inl (cI, 21, .inl (fun _ => 0)))) (h7 : F (N0 + 14) = some (.inl (cII, 20, .inr (.inr (.inr (.inr (fun j => if j < 20 then some ((N0 + 15) + j) else none))))))) (h8 : F (N0 + 144) = some (.inl (cC, 20, .inl (upd (fun _ => 0) 0 97)))) (h9 : F (N0 + 158) = some (.inl (cC, 20, .inl (upd (fun _ => 0) 0 97)))) (h10 : F (N0 + 146) = some (.inl (cI, 20, .inl (fun _ => 0)))) (h11 : F (N0 + 160) = some (.inl (cI, 20, .inl (fun _ => 0)))) (h12 : F (N0 + 15) = some (.inl (cI, 20, .inl (fun _ => 0)))) : Met l yX1_leastCost wsX1_leastCost ({ frames := 2, cells := 0, slots := 0, locals := 49 }) (va_Pc [.ref (N0 + 13), .ref (N0 + 143), .ref (N0 + 157)] (fP N0 D vwCl (fty cI cC cL cD cII cTr cTm cIt cB) (fen ql) F n)) (fQi N0 D vwCl (fty cI cC cL cD cII cTr cTm cIt cB) (fun (r : Int32) (_ : Unit) => r = 0) (fun _ => (fu (fu (fu (fu (fu F (N0 + 57) (.inl (cI, 20, .inl (upd (fun _ => 0) 0 1)))) (N0 + 58) (.inl (cI, 20, .inl (upd (fun _ => 0) 0 1)))) (N0 + 13) (.inr (3, [.ref (N0 + 14), .ref (N0 + 35), .ref (N0 + 57), .ref (N0 + 58), .ref (N0 + 59), .ref (N0 + 60), .int 0, .int 0, .ref (N0 + 61), .ref (N0 + 62)]))) (N0 + 36) (.inl (cI, 21, .inl (upd (fun _ => 0) 0 0)))) (N0 + 15) (.inl (cI, 20, .inl (upd (fun _ => 0) 0 0))))) (fun _ => n)) 0 0 (fA N0) := by
  refine fx_start 5 rfl rfl (Nat.le_of_ble_eq_true rfl) ?_ rfl
  intro p e s m below meth c ls S hr hlocks hin hG hl
  have hl : lv_has ls 5 [(0, .ref (N0 + 13)), (1, .ref (N0 + 143)), (2, .ref (N0 + 157))] := hl
  have lt_h0 := hG.1.lt h0
  have lt_h1 := hG.1.lt h1
  have lt_h2 := hG.1.lt h2
  have lt_h3 := hG.1.lt h3
  have lt_h4 := hG.1.lt h4
  have lt_h5 := hG.1.lt h5
  have lt_h6 := hG.1.lt h6
  have lt_h7 := hG.1.lt h7
  have lt_h8 := hG.1.lt h8
  have lt_h9 := hG.1.lt h9
  have lt_h10 := hG.1.lt h10
  have lt_h11 := hG.1.lt h11
  have lt_h12 := hG.1.lt h12
  refine lv_aload_n S.1 S.2.1 dX1_leastCost_0 rfl (lv_at hl 1 rfl) ?_
  refine lv_aload_n S.1 S.2.1 dX1_leastCost_1 rfl (lv_at hl 0 rfl) ?_
  refine gx_get (C := RX1) (T := TX1) (N := 10) S hG h0 i_X1_leastCost_X1 rfl 2 (by decide) (by decide +kernel) rfl dX1_leastCost_2 ?_
  refine fx_cVv (As := [.ref (N0 + 57)]) (rest := []) S hG (k1182_X5_listWidths (by omega) h1 h2) h1 rfl (cwV 1 S.2.2.2.2 gX1_leastCost_X5_listWidths rfl rfl rfl (by decide +kernel) ⟨Nat.le_of_ble_eq_true rfl, Nat.le_of_ble_eq_true rfl⟩) rfl hl.1 rfl (Nat.le_of_ble_eq_true rfl) dX1_leastCost_5 ⟨Nat.le_of_ble_eq_true rfl, Nat.le_of_ble_eq_true rfl⟩ (fun _ H locs hp hG => ?_)
  refine lv_aload_n S.1 S.2.1 dX1_leastCost_8 rfl (lv_at hl 2 rfl) ?_
  refine lv_aload_n S.1 S.2.1 dX1_leastCost_9 rfl (lv_at hl 0 rfl) ?_
  refine gx_get (C := RX1) (T := TX1) (N := 10) S hG (fu_at (by omega) h0) i_X1_leastCost_X1 rfl 3 (by decide) (by decide +kernel) rfl dX1_leastCost_10 ?_
  refine fx_cVv (As := [.ref (N0 + 58)]) (rest := []) S hG (k1206_X5_listWidths (by omega) (fu_at (by omega) h3) (fu_at (by omega) h4)) (fu_at (by omega) h3) rfl (cwV 1 S.2.2.2.2 gX1_leastCost_X5_listWidths rfl rfl rfl (by decide +kernel) ⟨Nat.le_of_ble_eq_true rfl, Nat.le_of_ble_eq_true rfl⟩) rfl hl.1 rfl (Nat.le_of_ble_eq_true rfl) dX1_leastCost_13 ⟨Nat.le_of_ble_eq_true rfl, Nat.le_of_ble_eq_true rfl⟩ (fun _ H locs hp hG => ?_)
  refine lv_aload_n S.1 S.2.1 dX1_leastCost_16 rfl (lv_at hl 1 rfl) ?_
  refine gx_get (C := RX5) (T := TX5) (N := 7) S hG (fu_at (by omega) (fu_at (by omega) h1)) i_X1_leastCost_X5 rfl 6 (by decide) (by decide +kernel) rfl dX1_leastCost_17 ?_
  refine lv_iconst (v := 1) S.1 S.2.1 dX1_leastCost_20 (by decide) ?_
  refine lv_isub S.1 S.2.1 dX1_leastCost_21 ?_
  refine fx_topi (y := 0) (by decide) ?_
  refine lv_istore_n (lv' := [(3, .int 0), (0, .ref (N0 + 13)), (1, .ref (N0 + 143)), (2, .ref (N0 + 157))]) S.1 S.2.1 dX1_leastCost_22 rfl hl (by decide) rfl (fun ls hl => ?_)
  refine lv_iload_n S.1 S.2.1 dX1_leastCost_23 rfl (lv_at hl 0 rfl) ?_
  refine lv_if_lt (tgt := 111) S.1 S.2.1 dX1_leastCost_24 (by decide) (fun c => absurd c (by decide)) (fun _ => ?_)
  refine lv_aload_n S.1 S.2.1 dX1_leastCost_27 rfl (lv_at hl 1 rfl) ?_
  refine lv_aload_n S.1 S.2.1 dX1_leastCost_28 rfl (lv_at hl 2 rfl) ?_
  refine lv_iload_n S.1 S.2.1 dX1_leastCost_29 rfl (lv_at hl 0 rfl) ?_
  refine lv_aload_n S.1 S.2.1 dX1_leastCost_30 rfl (lv_at hl 1 rfl) ?_
  refine gx_get (C := RX1) (T := TX1) (N := 10) S hG (fu_at (by omega) (fu_at (by omega) h0)) i_X1_leastCost_X1 rfl 4 (by decide) (by decide +kernel) rfl dX1_leastCost_31 ?_
  refine fx_cVi (As := [.int 0, .ref (N0 + 59)]) (rest := [.ref (N0 + 13)]) S hG (k1184_X5_listChildren (by omega) (fu_at (by omega) (fu_at (by omega) h1))) (fu_at (by omega) (fu_at (by omega) h1)) rfl (cwV 2 S.2.2.2.2 gX1_leastCost_X5_listChildren rfl rfl rfl (by decide +kernel) ⟨Nat.le_of_ble_eq_true rfl, Nat.le_of_ble_eq_true rfl⟩) rfl hl.1 rfl (Nat.le_of_ble_eq_true rfl) dX1_leastCost_34 ⟨Nat.le_of_ble_eq_true rfl, Nat.le_of_ble_eq_true rfl⟩ (fun rv_3 _ H locs hp hG => ?_)
  subst rv_3
  refine gx_put (C := RX1) (T := TX1) (N := 10) (ty := .int) (v := .int 0) (fs' := [.ref (N0 + 14), .ref (N0 + 35), .ref (N0 + 57), .ref (N0 + 58), .ref (N0 + 59), .ref (N0 + 60), .int 0, .int 0, .ref (N0 + 61), .ref (N0 + 62)]) S hG (fu_at (by omega) (fu_at (by omega) h0)) i_X1_leastCost_X1 rfl 6 (by decide) tyX1 tyX1_ok nmX1 (by decide +kernel) rfl (by decide +kernel) rfl rfl (Nat.le_of_ble_eq_true rfl) rfl dX1_leastCost_37 (fun H locs hG => ?_)
  refine lv_aload_n S.1 S.2.1 dX1_leastCost_40 rfl (lv_at hl 3 rfl) ?_
  refine gx_get (C := RX5) (T := TX5) (N := 7) S hG (fu_at (by omega) (fu_at (by omega) (fu_at (by omega) h3))) i_X1_leastCost_X5 rfl 6 (by decide) (by decide +kernel) rfl dX1_leastCost_41 ?_
  refine lv_iconst (v := 1) S.1 S.2.1 dX1_leastCost_44 (by decide) ?_
  refine lv_isub S.1 S.2.1 dX1_leastCost_45 ?_
  refine fx_topi (y := 0) (by decide) ?_
  refine lv_istore (lv' := [(4, .int 0), (3, .int 0), (0, .ref (N0 + 13)), (1, .ref (N0 + 143)), (2, .ref (N0 + 157))]) S.1 S.2.1 dX1_leastCost_46 hl (by decide) rfl (fun ls hl => ?_)
  refine lv_iload S.1 S.2.1 dX1_leastCost_48 (lv_at hl 0 rfl) ?_
  refine lv_if_lt (tgt := 105) S.1 S.2.1 dX1_leastCost_50 (by decide) (fun c => absurd c (by decide)) (fun _ => ?_)
  refine lv_aload_n S.1 S.2.1 dX1_leastCost_53 rfl (lv_at hl 2 rfl) ?_
  refine lv_aload_n S.1 S.2.1 dX1_leastCost_54 rfl (lv_at hl 4 rfl) ?_
  refine lv_iload S.1 S.2.1 dX1_leastCost_55 (lv_at hl 0 rfl) ?_
  refine lv_aload_n S.1 S.2.1 dX1_leastCost_57 rfl (lv_at hl 2 rfl) ?_
  refine gx_get (C := RX1) (T := TX1) (N := 10) S hG fu_s i_X1_leastCost_X1 rfl 5 (by decide) (by decide +kernel) rfl dX1_leastCost_58 ?_
  refine fx_cVi (As := [.int 0, .ref (N0 + 60)]) (rest := [.ref (N0 + 13)]) S hG (k1207_X5_listChildren (by omega) (fu_at (by omega) (fu_at (by omega) (fu_at (by omega) h3)))) (fu_at (by omega) (fu_at (by omega) (fu_at (by omega) h3))) rfl (cwV 2 S.2.2.2.2 gX1_leastCost_X5_listChildren rfl rfl rfl (by decide +kernel) ⟨Nat.le_of_ble_eq_true rfl, Nat.le_of_ble_eq_true rfl⟩) rfl hl.1 rfl (Nat.le_of_ble_eq_true rfl) dX1_leastCost_61 ⟨Nat.le_of_ble_eq_true rfl, Nat.le_of_ble_eq_true rfl⟩ (fun rv_4 _ H locs hp hG => ?_)
  subst rv_4
  refine gx_put (C := RX1) (T := TX1) (N := 10) (ty := .int) (v := .int 0) (fs' := [.ref (N0 + 14), .ref (N0 + 35), .ref (N0 + 57), .ref (N0 + 58), .ref (N0 + 59), .ref (N0 + 60), .int 0, .int 0, .ref (N0 + 61), .ref (N0 + 62)]) S hG fu_s i_X1_leastCost_X1 rfl 7 (by decide) tyX1 tyX1_ok nmX1 (by decide +kernel) rfl (by decide +kernel) rfl rfl (Nat.le_of_ble_eq_true rfl) rfl dX1_leastCost_64 (fun H locs hG => ?_)
  refine lv_aload_n S.1 S.2.1 dX1_leastCost_67 rfl (lv_at hl 2 rfl) ?_
  refine lv_aload_n S.1 S.2.1 dX1_leastCost_68 rfl (lv_at hl 3 rfl) ?_
  refine lv_aload_n S.1 S.2.1 dX1_leastCost_69 rfl (lv_at hl 4 rfl) ?_
  refine fx_cVv (As := [.ref (N0 + 143), .ref (N0 + 157)]) (rest := []) S hG (k1209_X1_fillRestCosts (by omega) fu_s (fu_at (by omega) (fu_at (by omega) (fu_at (by omega) (fu_at (by omega) h5)))) (fu_at (by omega) (fu_at (by omega) (fu_at (by omega) (fu_at (by omega) h6))))) fu_s rfl (cwV 2 S.2.2.2.2 gX1_leastCost_X1_fillRestCosts rfl rfl rfl (by decide +kernel) ⟨Nat.le_of_ble_eq_true rfl, Nat.le_of_ble_eq_true rfl⟩) rfl hl.1 rfl (Nat.le_of_ble_eq_true rfl) dX1_leastCost_70 ⟨Nat.le_of_ble_eq_true rfl, Nat.le_of_ble_eq_true rfl⟩ (fun _ H locs hp hG => ?_)
  refine lv_aload_n S.1 S.2.1 dX1_leastCost_73 rfl (lv_at hl 2 rfl) ?_
  refine gx_get (C := RX1) (T := TX1) (N := 10) S hG (fu_at (by omega) fu_s) i_X1_leastCost_X1 rfl 0 (by decide) (by decide +kernel) rfl dX1_leastCost_74 ?_
  refine lv_iload_n S.1 S.2.1 dX1_leastCost_77 rfl (lv_at hl 1 rfl) ?_
  refine gx_aldq (x := (N0 + 15)) S hG 4 rfl (fu_at (by omega) (fu_at (by omega) (fu_at (by omega) (fu_at (by omega) (fu_at (by omega) h7))))) rfl (fin_l (by decide)) (rfl) dX1_leastCost_78 ?_
  refine lv_iload S.1 S.2.1 dX1_leastCost_79 (lv_at hl 0 rfl) ?_
  refine lv_aload_n S.1 S.2.1 dX1_leastCost_81 rfl (lv_at hl 3 rfl) ?_
  refine lv_iload_n S.1 S.2.1 dX1_leastCost_82 rfl (lv_at hl 1 rfl) ?_
  refine lv_aload_n S.1 S.2.1 dX1_leastCost_83 rfl (lv_at hl 4 rfl) ?_
  refine lv_iload S.1 S.2.1 dX1_leastCost_84 (lv_at hl 0 rfl) ?_
  refine fx_cSNi (host := "TreeDiffer") (As := [.ref (N0 + 143), .int 0, .ref (N0 + 157), .int 0]) (rest := [.int 0, .ref (N0 + 15)]) S hG (k1210_X7_changeCost (by omega) (fu_at (by omega) (fu_at (by omega) (fu_at (by omega) (fu_at (by omega) (fu_at (by omega) h1))))) (fu_at (by omega) (fu_at (by omega) (fu_at (by omega) (fu_at (by omega) (fu_at (by omega) h8))))) (fu_at (by omega) (fu_at (by omega) (fu_at (by omega) (fu_at (by omega) (fu_at (by omega) h3))))) (fu_at (by omega) (fu_at (by omega) (fu_at (by omega) (fu_at (by omega) (fu_at (by omega) h9))))) (fu_at (by omega) (fu_at (by omega) (fu_at (by omega) (fu_at (by omega) (fu_at (by omega) h10))))) (fu_at (by omega) (fu_at (by omega) (fu_at (by omega) (fu_at (by omega) (fu_at (by omega) h11)))))) ⟨(va_cnB 4 S.2.2.2.2 gX1_leastCost_X7_changeCost_n62 rfl rfl rfl (hG.nest (show _ ∈ fen2.2.2.1 from by decide)) (S.2.2.2.2 (.initialized RX7) (by decide +kernel)) (by decide +kernel) ⟨Nat.le_of_ble_eq_true rfl, Nat.le_of_ble_eq_true rfl⟩), S.2.2.2.2 (.static yX7_changeCost) (by decide +kernel), trivial⟩ rfl hl.1 rfl (Nat.le_of_ble_eq_true rfl) dX1_leastCost_86 ⟨Nat.le_of_ble_eq_true rfl, Nat.le_of_ble_eq_true rfl⟩ (fun rv_6 _ H locs hp hG => ?_)
  subst rv_6
  refine lv_aload_n S.1 S.2.1 dX1_leastCost_89 rfl (lv_at hl 2 rfl) ?_
  refine gx_get (C := RX1) (T := TX1) (N := 10) S hG (fu_at (by omega) fu_s) i_X1_leastCost_X1 rfl 1 (by decide) (by decide +kernel) rfl dX1_leastCost_90 ?_
  refine lv_iconst (v := 0) S.1 S.2.1 dX1_leastCost_93 (by decide) ?_
  refine gx_aldq (x := (N0 + 36)) S hG 4 rfl (fu_at (by omega) (fu_at (by omega) (fu_at (by omega) (fu_at (by omega) (fu_at (by omega) h5))))) rfl (fin_l (by decide)) (rfl) dX1_leastCost_94 ?_
  refine lv_iconst (v := 0) S.1 S.2.1 dX1_leastCost_95 (by decide) ?_
  refine gx_iald (v := 0) S hG 0 fu_s rfl (fin_l (by decide)) (by decide) dX1_leastCost_96 ?_
  refine lv_iadd S.1 S.2.1 dX1_leastCost_97 ?_
  refine fx_topi (y := 0) (by decide) ?_
  refine gx_iast (f' := upd (fun _ => 0) 0 0) S hG 0 (fu_at (by omega) (fu_at (by omega) (fu_at (by omega) (fu_at (by omega) (fu_at (by omega) h12))))) rfl (fin_l (by decide)) dX1_leastCost_98 (rfl) (fun H locs hG => ?_)
  refine lv_iinc (v := (-1)) (lv' := [(4, .int (-1)), (3, .int 0), (0, .ref (N0 + 13)), (1, .ref (N0 + 143)), (2, .ref (N0 + 157))]) S.1 S.2.1 dX1_leastCost_99 hl (k := 0) rfl (by decide) (by decide) rfl (fun ls hl => ?_)
  refine lv_goto (tgt := 48) S.1 S.2.1 dX1_leastCost_102 (by decide) ?_
  refine lv_iload S.1 S.2.1 dX1_leastCost_48 (lv_at hl 0 rfl) ?_
  refine lv_if_lt (tgt := 105) S.1 S.2.1 dX1_leastCost_50 (by decide) (fun _ => ?_) (fun c => absurd (by decide) c)
  refine lv_iinc (v := (-1)) (lv' := [(3, .int (-1)), (4, .int (-1)), (0, .ref (N0 + 13)), (1, .ref (N0 + 143)), (2, .ref (N0 + 157))]) S.1 S.2.1 dX1_leastCost_105 hl (k := 1) rfl (by decide) (by decide) rfl (fun ls hl => ?_)
  refine lv_goto (tgt := 23) S.1 S.2.1 dX1_leastCost_108 (by decide) ?_
  refine lv_iload_n S.1 S.2.1 dX1_leastCost_23 rfl (lv_at hl 0 rfl) ?_
  refine lv_if_lt (tgt := 111) S.1 S.2.1 dX1_leastCost_24 (by decide) (fun _ => ?_) (fun c => absurd (by decide) c)
  refine lv_aload_n S.1 S.2.1 dX1_leastCost_111 rfl (lv_at hl 2 rfl) ?_
  refine gx_get (C := RX1) (T := TX1) (N := 10) S hG (fu_at (by omega) (fu_at (by omega) fu_s)) i_X1_leastCost_X1 rfl 0 (by decide) (by decide +kernel) rfl dX1_leastCost_112 ?_
  refine lv_iconst (v := 0) S.1 S.2.1 dX1_leastCost_115 (by decide) ?_
  refine gx_aldq (x := (N0 + 15)) S hG 4 rfl (fu_at (by omega) (fu_at (by omega) (fu_at (by omega) (fu_at (by omega) (fu_at (by omega) (fu_at (by omega) h7)))))) rfl (fin_l (by decide)) (rfl) dX1_leastCost_116 ?_
  refine lv_iconst (v := 0) S.1 S.2.1 dX1_leastCost_117 (by decide) ?_
  refine gx_iald (v := 0) S hG 0 fu_s rfl (fin_l (by decide)) (by decide) dX1_leastCost_118 ?_
  have hG : fG N0 D vwCl (fty cI cC cL cD cII cTr cTm cIt cB) (fen ql) s (fu (fu (fu (fu (fu F (N0 + 57) (.inl (cI, 20, .inl (upd (fun _ => 0) 0 1)))) (N0 + 58) (.inl (cI, 20, .inl (upd (fun _ => 0) 0 1)))) (N0 + 13) (.inr (3, [.ref (N0 + 14), .ref (N0 + 35), .ref (N0 + 57), .ref (N0 + 58), .ref (N0 + 59), .ref (N0 + 60), .int 0, .int 0, .ref (N0 + 61), .ref (N0 + 62)]))) (N0 + 36) (.inl (cI, 21, .inl (upd (fun _ => 0) 0 0)))) (N0 + 15) (.inl (cI, 20, .inl (upd (fun _ => 0) 0 0)))) n H locs := hG.weak (fun a e h => by
    rcases fu_cases h with ⟨rfl, he⟩ | ⟨hne0, h⟩
    · cases he; exact fu_s
    · skip
      rcases fu_cases h with ⟨rfl, he⟩ | ⟨hne1, h⟩
      · cases he; exact (fu_at (by omega) fu_s)
      · skip
        rcases fu_cases h with ⟨rfl, he⟩ | ⟨hne2, h⟩
        · cases he; exact (fu_at (by omega) (fu_at (by omega) fu_s))
        · skip
          rcases fu_cases h with ⟨rfl, he⟩ | ⟨hne3, h⟩
          · cases he; exact (fu_at (by omega) (fu_at (by omega) (fu_at (by omega) (fu_at (by omega) fu_s))))
          · skip
            rcases fu_cases h with ⟨rfl, he⟩ | ⟨hne4, h⟩
            · cases he; exact (fu_at (by omega) (fu_at (by omega) (fu_at (by omega) (fu_at (by omega) (fu_at (by omega) fu_s)))))
            · exact (fu_at (by omega) (fu_at (by omega) (fu_at (by omega) (fu_at (by omega) (fu_at (by omega) (fu_at (by omega) h)))))))
  exact fx_iret S hr hlocks () hG (rfl) dX1_leastCost_119
theorem k1212_X7_distance {n : Nat} (hn : N0 + 231 ≤ n) (h0 : F N0 = some (.inr (9, [.ref (N0 + 1), .ref (N0 + 2), .ref (N0 + 11), .ref (N0 + 13), .ref (N0 + 63), .ref (N0 + 65), .ref (N0 + 85), .int (-1), .int (-1), .int 32]))) (h1 : F (N0 + 1) = some (.inl (cTr, 3, .inr (.inr (.inr (.inr (va_up (va_up (va_up (fun _ => none) 0 (some (N0 + 143))) 1 (some (N0 + 150))) 2 (some (N0 + 157))))))))) (h2 : F (N0 + 13) = some (.inr (3, [.ref (N0 + 14), .ref (N0 + 35), .ref (N0 + 57), .ref (N0 + 58), .ref (N0 + 59), .ref (N0 + 60), .int 0, .int 0, .ref (N0 + 61), .ref (N0 + 62)]))) (h3 : F (N0 + 143) = some (.inr (7, [.ref (N0 + 144), .ref (N0 + 145), .ref (N0 + 146), .ref (N0 + 147), .ref (N0 + 148), .ref (N0 + 149), .int 1]))) (h4 : F (N0 + 57) = some (.inl (cI, 20, .inl (fun _ => 0)))) (h5 : F (N0 + 157) = some (.inr (7, [.ref (N0 + 158), .ref (N0 + 159), .ref (N0 + 160), .ref (N0 + 161), .ref (N0 + 162), .ref (N0 + 163), .int 1]))) (h6 : F (N0 + 58) = some (.inl (cI, 20, .inl (fun _ => 0)))) (h7 : F (N0 + 35) = some (.inl (cII, 21, .inr (.inr (.inr (.inr (fun j => if j < 21 then some ((N0 + 36) + j) else none))))))) (h8 : F (N0 + 36) = some (.inl (cI, 21, .inl (fun _ => 0)))) (h9 : F (N0 + 14) = some (.inl (cII, 20, .inr (.inr (.inr (.inr (fun j => if j < 20 then some ((N0 + 15) + j) else none))))))) (h10 : F (N0 + 144) = some (.inl (cC, 20, .inl (upd (fun _ => 0) 0 97)))) (h11 : F (N0 + 158) = some (.inl (cC, 20, .inl (upd (fun _ => 0) 0 97)))) (h12 : F (N0 + 146) = some (.inl (cI, 20, .inl (fun _ => 0)))) (h13 : F (N0 + 160) = some (.inl (cI, 20, .inl (fun _ => 0)))) (h14 : F (N0 + 15) = some (.inl (cI, 20, .inl (fun _ => 0)))) : Met l yX7_distance wsX7_distance ({ frames := 3, cells := 0, slots := 0, locals := 73 }) (va_Pc [.ref N0, .int 0, .int 2] (fP N0 D vwCl (fty cI cC cL cD cII cTr cTm cIt cB) (fen ql) F n)) (fQi N0 D vwCl (fty cI cC cL cD cII cTr cTm cIt cB) (fun (r : Int32) (_ : Unit) => r = 0) (fun _ => (fu (fu (fu (fu (fu F (N0 + 57) (.inl (cI, 20, .inl (upd (fun _ => 0) 0 1)))) (N0 + 58) (.inl (cI, 20, .inl (upd (fun _ => 0) 0 1)))) (N0 + 13) (.inr (3, [.ref (N0 + 14), .ref (N0 + 35), .ref (N0 + 57), .ref (N0 + 58), .ref (N0 + 59), .ref (N0 + 60), .int 0, .int 0, .ref (N0 + 61), .ref (N0 + 62)]))) (N0 + 36) (.inl (cI, 21, .inl (upd (fun _ => 0) 0 0)))) (N0 + 15) (.inl (cI, 20, .inl (upd (fun _ => 0) 0 0))))) (fun _ => n)) 0 0 (fA N0) := by
  refine fx_start 5 rfl rfl (Nat.le_of_ble_eq_true rfl) ?_ rfl
  intro p e s m below meth c ls S hr hlocks hin hG hl
  have hl : lv_has ls 5 [(0, .ref N0), (1, .int 0), (2, .int 2)] := hl
  have lt_h0 := hG.1.lt h0
  have lt_h1 := hG.1.lt h1
  have lt_h2 := hG.1.lt h2
  have lt_h3 := hG.1.lt h3
  have lt_h4 := hG.1.lt h4
  have lt_h5 := hG.1.lt h5
  have lt_h6 := hG.1.lt h6
  have lt_h7 := hG.1.lt h7
  have lt_h8 := hG.1.lt h8
  have lt_h9 := hG.1.lt h9
  have lt_h10 := hG.1.lt h10
  have lt_h11 := hG.1.lt h11
  have lt_h12 := hG.1.lt h12
  have lt_h13 := hG.1.lt h13
  have lt_h14 := hG.1.lt h14
  refine lv_aload_n S.1 S.2.1 dX7_distance_0 rfl (lv_at hl 0 rfl) ?_
  refine lv_iload_n S.1 S.2.1 dX7_distance_1 rfl (lv_at hl 1 rfl) ?_
  refine fx_cVr (As := [.int 0]) (rest := []) S hG (k26_X7_treeAt (by omega) h0 h1) h0 rfl (cwV 1 S.2.2.2.2 gX7_distance_X7_treeAt rfl rfl rfl (by decide +kernel) ⟨Nat.le_of_ble_eq_true rfl, Nat.le_of_ble_eq_true rfl⟩) rfl hl.1 rfl (Nat.le_of_ble_eq_true rfl) dX7_distance_2 ⟨Nat.le_of_ble_eq_true rfl, Nat.le_of_ble_eq_true rfl⟩ (fun rv_1 _ H locs hp hG => ?_)
  subst rv_1
  refine lv_astore_n (lv' := [(3, .ref (N0 + 143)), (0, .ref N0), (1, .int 0), (2, .int 2)]) S.1 S.2.1 dX7_distance_5 rfl hl (by decide) rfl (fun ls hl => ?_)
  refine lv_aload_n S.1 S.2.1 dX7_distance_6 rfl (lv_at hl 1 rfl) ?_
  refine lv_iload_n S.1 S.2.1 dX7_distance_7 rfl (lv_at hl 3 rfl) ?_
  refine fx_cVr (As := [.int 2]) (rest := []) S hG (k48_X7_treeAt (by omega) h0 h1) h0 rfl (cwV 1 S.2.2.2.2 gX7_distance_X7_treeAt rfl rfl rfl (by decide +kernel) ⟨Nat.le_of_ble_eq_true rfl, Nat.le_of_ble_eq_true rfl⟩) rfl hl.1 rfl (Nat.le_of_ble_eq_true rfl) dX7_distance_8 ⟨Nat.le_of_ble_eq_true rfl, Nat.le_of_ble_eq_true rfl⟩ (fun rv_2 _ H locs hp hG => ?_)
  subst rv_2
  refine lv_astore (lv' := [(4, .ref (N0 + 157)), (3, .ref (N0 + 143)), (0, .ref N0), (1, .int 0), (2, .int 2)]) S.1 S.2.1 dX7_distance_11 hl (by decide) rfl (fun ls hl => ?_)
  refine lv_aload_n S.1 S.2.1 dX7_distance_13 rfl (lv_at hl 2 rfl) ?_
  refine gx_get (C := RX7) (T := TX7) (N := 10) S hG h0 i_X7_distance_X7 rfl 3 (by decide) (by decide +kernel) rfl dX7_distance_14 ?_
  refine lv_aload_n S.1 S.2.1 dX7_distance_17 rfl (lv_at hl 1 rfl) ?_
  refine lv_aload S.1 S.2.1 dX7_distance_18 (lv_at hl 0 rfl) ?_
  refine fx_cVi (As := [.ref (N0 + 143), .ref (N0 + 157)]) (rest := []) S hG (k1211_X1_leastCost (by omega) h2 h3 h4 h5 h6 h7 h8 h9 h10 h11 h12 h13 h14) h2 rfl (cwV 2 S.2.2.2.2 gX7_distance_X1_leastCost rfl rfl rfl (by decide +kernel) ⟨Nat.le_of_ble_eq_true rfl, Nat.le_of_ble_eq_true rfl⟩) rfl hl.1 rfl (Nat.le_of_ble_eq_true rfl) dX7_distance_20 ⟨Nat.le_of_ble_eq_true rfl, Nat.le_of_ble_eq_true rfl⟩ (fun rv_3 _ H locs hp hG => ?_)
  subst rv_3
  exact fx_iret S hr hlocks () hG (rfl) dX7_distance_23
theorem k1213_L_distance {n : Nat} (hn : N0 + 231 ≤ n) (h0 : F N0 = some (.inr (9, [.ref (N0 + 1), .ref (N0 + 2), .ref (N0 + 11), .ref (N0 + 13), .ref (N0 + 63), .ref (N0 + 65), .ref (N0 + 85), .int (-1), .int (-1), .int 32]))) (h1 : F (N0 + 1) = some (.inl (cTr, 3, .inr (.inr (.inr (.inr (va_up (va_up (va_up (fun _ => none) 0 (some (N0 + 143))) 1 (some (N0 + 150))) 2 (some (N0 + 157))))))))) (h2 : F (N0 + 13) = some (.inr (3, [.ref (N0 + 14), .ref (N0 + 35), .ref (N0 + 57), .ref (N0 + 58), .ref (N0 + 59), .ref (N0 + 60), .int 0, .int 0, .ref (N0 + 61), .ref (N0 + 62)]))) (h3 : F (N0 + 143) = some (.inr (7, [.ref (N0 + 144), .ref (N0 + 145), .ref (N0 + 146), .ref (N0 + 147), .ref (N0 + 148), .ref (N0 + 149), .int 1]))) (h4 : F (N0 + 57) = some (.inl (cI, 20, .inl (fun _ => 0)))) (h5 : F (N0 + 157) = some (.inr (7, [.ref (N0 + 158), .ref (N0 + 159), .ref (N0 + 160), .ref (N0 + 161), .ref (N0 + 162), .ref (N0 + 163), .int 1]))) (h6 : F (N0 + 58) = some (.inl (cI, 20, .inl (fun _ => 0)))) (h7 : F (N0 + 35) = some (.inl (cII, 21, .inr (.inr (.inr (.inr (fun j => if j < 21 then some ((N0 + 36) + j) else none))))))) (h8 : F (N0 + 36) = some (.inl (cI, 21, .inl (fun _ => 0)))) (h9 : F (N0 + 14) = some (.inl (cII, 20, .inr (.inr (.inr (.inr (fun j => if j < 20 then some ((N0 + 15) + j) else none))))))) (h10 : F (N0 + 144) = some (.inl (cC, 20, .inl (upd (fun _ => 0) 0 97)))) (h11 : F (N0 + 158) = some (.inl (cC, 20, .inl (upd (fun _ => 0) 0 97)))) (h12 : F (N0 + 146) = some (.inl (cI, 20, .inl (fun _ => 0)))) (h13 : F (N0 + 160) = some (.inl (cI, 20, .inl (fun _ => 0)))) (h14 : F (N0 + 15) = some (.inl (cI, 20, .inl (fun _ => 0)))) (h15 : F (N0 + 229) = some (.inl (cL, 1, .inr (.inl (fun _ => 0))))) : Met l yL_distance wsL_distance ({ frames := 4, cells := 0, slots := 0, locals := 97 }) (va_Pc [.ref N0, .int 0, .int 2, .ref (N0 + 229)] (fP N0 D vwCl (fty cI cC cL cD cII cTr cTm cIt cB) (fen ql) F n)) (fQi N0 D vwCl (fty cI cC cL cD cII cTr cTm cIt cB) (fun (r : Int32) (_ : Unit) => r = 0) (fun _ => (fu (fu (fu (fu (fu (fu F (N0 + 57) (.inl (cI, 20, .inl (upd (fun _ => 0) 0 1)))) (N0 + 58) (.inl (cI, 20, .inl (upd (fun _ => 0) 0 1)))) (N0 + 13) (.inr (3, [.ref (N0 + 14), .ref (N0 + 35), .ref (N0 + 57), .ref (N0 + 58), .ref (N0 + 59), .ref (N0 + 60), .int 0, .int 0, .ref (N0 + 61), .ref (N0 + 62)]))) (N0 + 36) (.inl (cI, 21, .inl (upd (fun _ => 0) 0 0)))) (N0 + 15) (.inl (cI, 20, .inl (upd (fun _ => 0) 0 0)))) (N0 + 229) (.inl (cL, 1, .inr (.inl (vp_updL (fun _ => 0) 0 0)))))) (fun _ => n)) 0 0 (fA N0) := by
  refine fx_startW (hh := [(0, 10, 13, 19)]) 5 rfl rfl (Nat.le_of_ble_eq_true rfl) ?_ rfl
  intro p e s m below meth c ls S htab hr hlocks hG hl
  have hl : lv_has ls 5 [(0, .ref N0), (1, .int 0), (2, .int 2), (3, .ref (N0 + 229))] := hl
  have lt_h0 := hG.1.lt h0
  have lt_h1 := hG.1.lt h1
  have lt_h2 := hG.1.lt h2
  have lt_h3 := hG.1.lt h3
  have lt_h4 := hG.1.lt h4
  have lt_h5 := hG.1.lt h5
  have lt_h6 := hG.1.lt h6
  have lt_h7 := hG.1.lt h7
  have lt_h8 := hG.1.lt h8
  have lt_h9 := hG.1.lt h9
  have lt_h10 := hG.1.lt h10
  have lt_h11 := hG.1.lt h11
  have lt_h12 := hG.1.lt h12
  have lt_h13 := hG.1.lt h13
  have lt_h14 := hG.1.lt h14
  have lt_h15 := hG.1.lt h15
  refine lv_aload_n S.1 S.2.1 dL_distance_0 rfl (lv_at hl 3 rfl) ?_
  refine lv_iconst (v := 0) S.1 S.2.1 dL_distance_1 (by decide) ?_
  refine lv_aload_n S.1 S.2.1 dL_distance_2 rfl (lv_at hl 0 rfl) ?_
  refine lv_iload_n S.1 S.2.1 dL_distance_3 rfl (lv_at hl 1 rfl) ?_
  refine lv_iload_n S.1 S.2.1 dL_distance_4 rfl (lv_at hl 2 rfl) ?_
  refine fx_cVi (As := [.int 0, .int 2]) (rest := [.int 0, .ref (N0 + 229)]) S hG (k1212_X7_distance (by omega) h0 h1 h2 h3 h4 h5 h6 h7 h8 h9 h10 h11 h12 h13 h14) h0 rfl (cwV 2 S.2.2.2.2 gL_distance_X7_distance rfl rfl rfl (by decide +kernel) ⟨Nat.le_of_ble_eq_true rfl, Nat.le_of_ble_eq_true rfl⟩) rfl hl.1 rfl (Nat.le_of_ble_eq_true rfl) dL_distance_5 ⟨Nat.le_of_ble_eq_true rfl, Nat.le_of_ble_eq_true rfl⟩ (fun rv_1 _ H locs hp hG => ?_)
  subst rv_1
  refine lv_i2l (v := 0) S.1 S.2.1 dL_distance_8 (by decide) ?_
  refine gx_last (f' := vp_updL (fun _ => 0) 0 0) S hG 2 (fu_at (by omega) (fu_at (by omega) (fu_at (by omega) (fu_at (by omega) (fu_at (by omega) h15))))) rfl (fin_l (by decide)) dL_distance_9 rfl (fun H locs hG => ?_)
  refine lv_goto (tgt := 17) S.1 S.2.1 dL_distance_10 (by decide) ?_
  refine lv_iconst (v := 0) S.1 S.2.1 dL_distance_17 (by decide) ?_
  exact fx_iret S hr hlocks () hG (rfl) dL_distance_18
theorem k1214_X10_left {n b1 : Nat} (hn : N0 + 231 ≤ n) (hb1 : N0 + 231 ≤ b1) (h0 : F b1 = some (.inl (cI, 0, .inl (fun _ => 0)))) (h1 : F (b1 + 1) = some (.inl (cI, 0, .inl (fun _ => 0)))) : Met l yX10_left wsX10_left ({ frames := 0, cells := 2, slots := 2, locals := 0 }) (va_Pc [.ref (N0 + 164), .ref (N0 + 166), .ref b1, .ref (N0 + 176), .ref (b1 + 1)] (fP N0 D vwCl (fty cI cC cL cD cII cTr cTm cIt cB) (fen ql) F n)) (fQr N0 D vwCl (fty cI cC cL cD cII cTr cTm cIt cB) (fun (r : Nat) (_ : Unit) => r = n) (fun _ => (fblk F n [.inl (cII, 1, .inr (.inr (.inr (.inr (fun j => if j < 1 then some ((n + 1) + j) else none))))), .inl (cI, 1, .inl (fun _ => 0))])) (fun _ => (n + 2))) 2 2 (fA N0) := by
  refine fx_start 9 rfl rfl (Nat.le_of_ble_eq_true rfl) ?_ rfl
  intro p e s m below meth c ls S hr hlocks hin hG hl
  have hl : lv_has ls 9 [(0, .ref (N0 + 164)), (1, .ref (N0 + 166)), (2, .ref b1), (3, .ref (N0 + 176)), (4, .ref (b1 + 1))] := hl
  have lt_h0 := hG.1.lt h0
  have lt_h1 := hG.1.lt h1
  refine lv_aload_n S.1 S.2.1 dX10_left_0 rfl (lv_at hl 2 rfl) ?_
  refine gx_alen (v := 0) S hG 0 h0 rfl (rfl) dX10_left_1 ?_
  refine lv_iconst (v := 1) S.1 S.2.1 dX10_left_2 (by decide) ?_
  refine lv_iadd S.1 S.2.1 dX10_left_3 ?_
  refine fx_topi (y := 1) (by decide) ?_
  refine lv_aload S.1 S.2.1 dX10_left_4 (lv_at hl 4 rfl) ?_
  refine gx_alen (v := 0) S hG 0 h1 rfl (rfl) dX10_left_6 ?_
  refine lv_iconst (v := 1) S.1 S.2.1 dX10_left_7 (by decide) ?_
  refine lv_iadd S.1 S.2.1 dX10_left_8 ?_
  refine fx_topi (y := 1) (by decide) ?_
  refine gx_mna (N' := 1) (K' := 1) S hG (by decide +kernel) (by decide +kernel) 0 4 rfl rfl (by decide) (by decide) (by decide) (by decide) (by decide) (by decide) (by decide) (by decide) dX10_left_9 (fun H hG => ?_)
  refine W.widen (k := 2) (n := 2) (by decide) (by decide) ?_
  refine lv_astore (lv' := [(5, .ref n), (0, .ref (N0 + 164)), (1, .ref (N0 + 166)), (2, .ref b1), (3, .ref (N0 + 176)), (4, .ref (b1 + 1))]) S.1 S.2.1 dX10_left_13 hl (by decide) rfl (fun ls hl => ?_)
  refine lv_aload_n S.1 S.2.1 dX10_left_15 rfl (lv_at hl 3 rfl) ?_
  refine gx_alen (v := 0) S hG 0 (fblk_sk 1 rfl (by omega) (fu_at (by omega) h0)) rfl (rfl) dX10_left_16 ?_
  refine lv_istore (lv' := [(6, .int 0), (5, .ref n), (0, .ref (N0 + 164)), (1, .ref (N0 + 166)), (2, .ref b1), (3, .ref (N0 + 176)), (4, .ref (b1 + 1))]) S.1 S.2.1 dX10_left_17 hl (by decide) rfl (fun ls hl => ?_)
  refine lv_iload S.1 S.2.1 dX10_left_19 (lv_at hl 0 rfl) ?_
  refine lv_if_lt (tgt := 228) S.1 S.2.1 dX10_left_21 (by decide) (fun c => absurd c (by decide)) (fun _ => ?_)
  refine lv_aload S.1 S.2.1 dX10_left_24 (lv_at hl 6 rfl) ?_
  refine gx_alen (v := 0) S hG 0 (fblk_sk 1 rfl (by omega) (fu_at (by omega) h1)) rfl (rfl) dX10_left_26 ?_
  refine lv_istore (lv' := [(7, .int 0), (6, .int 0), (5, .ref n), (0, .ref (N0 + 164)), (1, .ref (N0 + 166)), (2, .ref b1), (3, .ref (N0 + 176)), (4, .ref (b1 + 1))]) S.1 S.2.1 dX10_left_27 hl (by decide) rfl (fun ls hl => ?_)
  refine lv_iload S.1 S.2.1 dX10_left_29 (lv_at hl 0 rfl) ?_
  refine lv_if_lt (tgt := 222) S.1 S.2.1 dX10_left_31 (by decide) (fun c => absurd c (by decide)) (fun _ => ?_)
  refine lv_iload S.1 S.2.1 dX10_left_34 (lv_at hl 1 rfl) ?_
  refine lv_aload_n S.1 S.2.1 dX10_left_36 rfl (lv_at hl 5 rfl) ?_
  refine gx_alen (v := 0) S hG 0 (fblk_sk 1 rfl (by omega) (fu_at (by omega) h0)) rfl (rfl) dX10_left_37 ?_
  refine lv_icmp_ne (tgt := 52) S.1 S.2.1 dX10_left_38 (by decide) (fun c => absurd (by decide) c) (fun _ => ?_)
  refine lv_iload S.1 S.2.1 dX10_left_41 (lv_at hl 0 rfl) ?_
  refine lv_aload S.1 S.2.1 dX10_left_43 (lv_at hl 7 rfl) ?_
  refine gx_alen (v := 0) S hG 0 (fblk_sk 1 rfl (by omega) (fu_at (by omega) h1)) rfl (rfl) dX10_left_45 ?_
  refine lv_icmp_ne (tgt := 52) S.1 S.2.1 dX10_left_46 (by decide) (fun c => absurd (by decide) c) (fun _ => ?_)
  refine lv_goto (tgt := 216) S.1 S.2.1 dX10_left_49 (by decide) ?_
  refine lv_iinc (v := (-1)) (lv' := [(7, .int (-1)), (6, .int 0), (5, .ref n), (0, .ref (N0 + 164)), (1, .ref (N0 + 166)), (2, .ref b1), (3, .ref (N0 + 176)), (4, .ref (b1 + 1))]) S.1 S.2.1 dX10_left_216 hl (k := 0) rfl (by decide) (by decide) rfl (fun ls hl => ?_)
  refine lv_goto (tgt := 29) S.1 S.2.1 dX10_left_219 (by decide) ?_
  refine lv_iload S.1 S.2.1 dX10_left_29 (lv_at hl 0 rfl) ?_
  refine lv_if_lt (tgt := 222) S.1 S.2.1 dX10_left_31 (by decide) (fun _ => ?_) (fun c => absurd (by decide) c)
  refine lv_iinc (v := (-1)) (lv' := [(6, .int (-1)), (7, .int (-1)), (5, .ref n), (0, .ref (N0 + 164)), (1, .ref (N0 + 166)), (2, .ref b1), (3, .ref (N0 + 176)), (4, .ref (b1 + 1))]) S.1 S.2.1 dX10_left_222 hl (k := 1) rfl (by decide) (by decide) rfl (fun ls hl => ?_)
  refine lv_goto (tgt := 19) S.1 S.2.1 dX10_left_225 (by decide) ?_
  refine lv_iload S.1 S.2.1 dX10_left_19 (lv_at hl 0 rfl) ?_
  refine lv_if_lt (tgt := 228) S.1 S.2.1 dX10_left_21 (by decide) (fun _ => ?_) (fun c => absurd (by decide) c)
  refine lv_aload S.1 S.2.1 dX10_left_228 (lv_at hl 2 rfl) ?_
  have hG : fG N0 D vwCl (fty cI cC cL cD cII cTr cTm cIt cB) (fen ql) s (fblk F n [.inl (cII, 1, .inr (.inr (.inr (.inr (fun j => if j < 1 then some ((n + 1) + j) else none))))), .inl (cI, 1, .inl (fun _ => 0))]) (n + 2) H _ := hG.weak (fun a e h => by
    rcases fblk_cases 2 rfl h with ⟨k, rfl, hlt, hk⟩ | ⟨hout, h⟩
    · rcases (show k = 0 ∨ k = 1 by omega) with rfl | rfl
      · cases (show some (.inl (cII, 1, .inr (.inr (.inr (.inr (fun j => if j < 1 then some ((n + 1) + j) else none)))))) = some e from hk); exact (fblk_sk 1 rfl (by omega) fu_s)
      · cases (show some (.inl (cI, 1, .inl (fun _ => 0))) = some e from hk); exact (fblk_at 0 (by omega) rfl)
    · exact (fblk_sk 1 rfl (by omega) (fu_at (by omega) h)))
  exact fx_aret S hr (Or.inr ⟨_, rfl⟩) hlocks () hG (rfl) dX10_left_230
set_option maxHeartbeats 16000000 in
theorem k1215_X10_fills {n : Nat} (hn : N0 + 231 ≤ n) (h0 : F (N0 + 166) = some (.inr (11, [.ref (N0 + 167), .ref (N0 + 168), .ref (N0 + 169), .ref (N0 + 170), .int 1]))) (h1 : F (N0 + 176) = some (.inr (11, [.ref (N0 + 177), .ref (N0 + 178), .ref (N0 + 179), .ref (N0 + 180), .int 1]))) (h2 : F (N0 + 167) = some (.inl (cI, 20, .inl (upd (fun _ => 0) 0 97)))) (h3 : F (N0 + 177) = some (.inl (cI, 20, .inl (upd (fun _ => 0) 0 97)))) (h4 : F (N0 + 169) = some (.inl (cI, 20, .inl (upd (fun _ => 0) 0 0)))) (h5 : F (N0 + 179) = some (.inl (cI, 20, .inl (upd (fun _ => 0) 0 0)))) (h6 : F (N0 + 164) = some (.inr (12, [.ref (N0 + 165), .int 0, .ref (N0 + 181), .int 0, .int 0, .int 0, .int (-1), .ref (ql 24), .ref (N0 + 182), .ref (N0 + 187), .ref (N0 + 208), .ref (N0 + 209), .ref (N0 + 210), .ref (N0 + 211), .ref (N0 + 212), .int 0, .ref (N0 + 213), .ref (N0 + 218), .ref (N0 + 223), .ref (N0 + 224), .ref (N0 + 225), .ref (N0 + 226), .ref (N0 + 227), .int 0, .int 0, .ref (N0 + 228), .null, .int (-1), .int 0, .int 0, .int 0]))) (h7 : F (N0 + 187) = some (.inl (cII, 20, .inr (.inr (.inr (.inr (fun j => if j < 20 then some ((N0 + 188) + j) else none))))))) (h8 : F (N0 + 188) = some (.inl (cI, 20, .inl (fun _ => 0)))) : Met l yX10_fills wsX10_fills ({ frames := 2, cells := 4, slots := 2, locals := 47 }) (va_Pc [.ref (N0 + 164), .ref (N0 + 166), .ref (N0 + 176)] (fP N0 D vwCl (fty cI cC cL cD cII cTr cTm cIt cB) (fen ql) F n)) (fQi N0 D vwCl (fty cI cC cL cD cII cTr cTm cIt cB) (fun (r : Int32) (_ : Unit) => r = 0) (fun _ => (fblk (fu F (N0 + 188) (.inl (cI, 20, .inl (upd (fun _ => 0) 0 0)))) n [.inl (cI, 0, .inl (fun _ => 0)), .inl (cI, 0, .inl (fun _ => 0)), .inl (cII, 1, .inr (.inr (.inr (.inr (fun j => if j < 1 then some ((n + 3) + j) else none))))), .inl (cI, 1, .inl (fun _ => 0))])) (fun _ => (n + 4))) 4 2 (fA N0) := by
  refine fx_start 6 rfl rfl (Nat.le_of_ble_eq_true rfl) ?_ rfl
  intro p e s m below meth c ls S hr hlocks hin hG hl
  have hl : lv_has ls 6 [(0, .ref (N0 + 164)), (1, .ref (N0 + 166)), (2, .ref (N0 + 176))] := hl
  have lt_h0 := hG.1.lt h0
  have lt_h1 := hG.1.lt h1
  have lt_h2 := hG.1.lt h2
  have lt_h3 := hG.1.lt h3
  have lt_h4 := hG.1.lt h4
  have lt_h5 := hG.1.lt h5
  have lt_h6 := hG.1.lt h6
  have lt_h7 := hG.1.lt h7
  have lt_h8 := hG.1.lt h8
  refine lv_aload_n S.1 S.2.1 dX10_fills_0 rfl (lv_at hl 1 rfl) ?_
  refine gx_getN (C := RX9) (T := TX9) (N := 5) S hG h0 i_X10_fills_X9 rfl 4 (by decide) (List.mem_of_getElem? (i := 4) rfl) rfl dX10_fills_1 ?_
  refine lv_iconst (v := 1) S.1 S.2.1 dX10_fills_4 (by decide) ?_
  refine lv_isub S.1 S.2.1 dX10_fills_5 ?_
  refine fx_topi (y := 0) (by decide) ?_
  refine lv_istore_n (lv' := [(3, .int 0), (0, .ref (N0 + 164)), (1, .ref (N0 + 166)), (2, .ref (N0 + 176))]) S.1 S.2.1 dX10_fills_6 rfl hl (by decide) rfl (fun ls hl => ?_)
  refine lv_iload_n S.1 S.2.1 dX10_fills_7 rfl (lv_at hl 0 rfl) ?_
  refine lv_if_lt (tgt := 114) S.1 S.2.1 dX10_fills_8 (by decide) (fun c => absurd c (by decide)) (fun _ => ?_)
  refine lv_aload_n S.1 S.2.1 dX10_fills_11 rfl (lv_at hl 3 rfl) ?_
  refine gx_getN (C := RX9) (T := TX9) (N := 5) S hG h1 i_X10_fills_X9 rfl 4 (by decide) (List.mem_of_getElem? (i := 4) rfl) rfl dX10_fills_12 ?_
  refine lv_iconst (v := 1) S.1 S.2.1 dX10_fills_15 (by decide) ?_
  refine lv_isub S.1 S.2.1 dX10_fills_16 ?_
  refine fx_topi (y := 0) (by decide) ?_
  refine lv_istore (lv' := [(4, .int 0), (3, .int 0), (0, .ref (N0 + 164)), (1, .ref (N0 + 166)), (2, .ref (N0 + 176))]) S.1 S.2.1 dX10_fills_17 hl (by decide) rfl (fun ls hl => ?_)
  refine lv_iload S.1 S.2.1 dX10_fills_19 (lv_at hl 0 rfl) ?_
  refine lv_if_lt (tgt := 108) S.1 S.2.1 dX10_fills_21 (by decide) (fun c => absurd c (by decide)) (fun _ => ?_)
  refine lv_aload_n S.1 S.2.1 dX10_fills_24 rfl (lv_at hl 3 rfl) ?_
  refine gx_getN (C := RX9) (T := TX9) (N := 5) S hG h0 i_X10_fills_X9 rfl 0 (by decide) (List.mem_of_getElem? (i := 1) rfl) rfl dX10_fills_25 ?_
  refine lv_iload_n S.1 S.2.1 dX10_fills_28 rfl (lv_at hl 1 rfl) ?_
  refine gx_iald (v := 97) S hG 0 h2 rfl (fin_l (by decide)) (by decide) dX10_fills_29 ?_
  refine lv_aload_n S.1 S.2.1 dX10_fills_30 rfl (lv_at hl 4 rfl) ?_
  refine gx_getN (C := RX9) (T := TX9) (N := 5) S hG h1 i_X10_fills_X9 rfl 0 (by decide) (List.mem_of_getElem? (i := 1) rfl) rfl dX10_fills_31 ?_
  refine lv_iload S.1 S.2.1 dX10_fills_34 (lv_at hl 0 rfl) ?_
  refine gx_iald (v := 97) S hG 0 h3 rfl (fin_l (by decide)) (by decide) dX10_fills_36 ?_
  refine lv_icmp_ne (tgt := 44) S.1 S.2.1 dX10_fills_37 (by decide) (fun c => absurd (by decide) c) (fun _ => ?_)
  refine lv_iconst (v := 0) S.1 S.2.1 dX10_fills_40 (by decide) ?_
  refine lv_goto (tgt := 45) S.1 S.2.1 dX10_fills_41 (by decide) ?_
  refine lv_aload_n S.1 S.2.1 dX10_fills_45 rfl (lv_at hl 3 rfl) ?_
  refine gx_getN (C := RX9) (T := TX9) (N := 5) S hG h0 i_X10_fills_X9 rfl 2 (by decide) (List.mem_of_getElem? (i := 3) rfl) rfl dX10_fills_46 ?_
  refine lv_iload_n S.1 S.2.1 dX10_fills_49 rfl (lv_at hl 1 rfl) ?_
  refine gx_iald (v := 0) S hG 0 h4 rfl (fin_l (by decide)) (by decide) dX10_fills_50 ?_
  refine lv_aload_n S.1 S.2.1 dX10_fills_51 rfl (lv_at hl 4 rfl) ?_
  refine gx_getN (C := RX9) (T := TX9) (N := 5) S hG h1 i_X10_fills_X9 rfl 2 (by decide) (List.mem_of_getElem? (i := 3) rfl) rfl dX10_fills_52 ?_
  refine lv_iload S.1 S.2.1 dX10_fills_55 (lv_at hl 0 rfl) ?_
  refine gx_iald (v := 0) S hG 0 h5 rfl (fin_l (by decide)) (by decide) dX10_fills_57 ?_
  refine lv_icmp_ne (tgt := 65) S.1 S.2.1 dX10_fills_58 (by decide) (fun c => absurd (by decide) c) (fun _ => ?_)
  refine lv_iconst (v := 0) S.1 S.2.1 dX10_fills_61 (by decide) ?_
  refine lv_goto (tgt := 66) S.1 S.2.1 dX10_fills_62 (by decide) ?_
  refine lv_iadd S.1 S.2.1 dX10_fills_66 ?_
  refine fx_topi (y := 0) (by decide) ?_
  refine lv_istore (lv' := [(5, .int 0), (4, .int 0), (3, .int 0), (0, .ref (N0 + 164)), (1, .ref (N0 + 166)), (2, .ref (N0 + 176))]) S.1 S.2.1 dX10_fills_67 hl (by decide) rfl (fun ls hl => ?_)
  refine lv_aload_n S.1 S.2.1 dX10_fills_69 rfl (lv_at hl 3 rfl) ?_
  refine gx_get (C := RX10) (T := TX10) (N := 31) S hG h6 i_X10_fills_X10 rfl 9 (by decide) (by decide +kernel) rfl dX10_fills_70 ?_
  refine lv_iload_n S.1 S.2.1 dX10_fills_73 rfl (lv_at hl 2 rfl) ?_
  refine gx_aldq (x := (N0 + 188)) S hG 4 rfl h7 rfl (fin_l (by decide)) (rfl) dX10_fills_74 ?_
  refine lv_iload S.1 S.2.1 dX10_fills_75 (lv_at hl 1 rfl) ?_
  refine lv_iload S.1 S.2.1 dX10_fills_77 (lv_at hl 0 rfl) ?_
  refine lv_aload_n S.1 S.2.1 dX10_fills_79 rfl (lv_at hl 3 rfl) ?_
  refine lv_aload_n S.1 S.2.1 dX10_fills_80 rfl (lv_at hl 4 rfl) ?_
  refine lv_aload_n S.1 S.2.1 dX10_fills_81 rfl (lv_at hl 4 rfl) ?_
  refine lv_iload_n S.1 S.2.1 dX10_fills_82 rfl (lv_at hl 2 rfl) ?_
  refine fx_cVNr (host := "TreeDifferModel") (As := [.int 0]) (rest := [.ref (N0 + 166), .ref (N0 + 164), .int 0, .int 0, .ref (N0 + 188)]) S hG (k89_X9_kids (by omega) h0) h0 rfl ⟨(va_cnB 1 S.2.2.2.2 gX10_fills_X9_kids_n173 rfl rfl rfl (hG.nest (show _ ∈ fen2.2.2.1 from by decide)) (S.2.2.2.2 (.initialized RX9) (by decide +kernel)) (by decide +kernel) ⟨Nat.le_of_ble_eq_true rfl, Nat.le_of_ble_eq_true rfl⟩), S.2.2.2.2 (.instanceMethod yX9_kids) (by decide +kernel), S.2.2.2.2 (.selects RX9 yX9_kids yX9_kids) (by decide +kernel)⟩ rfl hl.1 rfl (Nat.le_of_ble_eq_true rfl) dX10_fills_83 ⟨Nat.le_of_ble_eq_true rfl, Nat.le_of_ble_eq_true rfl⟩ (fun rv_1 _ H locs hp hG => ?_)
  subst rv_1
  refine W.widen (k := 1) (n := 0) (by decide) (by decide) ?_
  refine lv_aload_n S.1 S.2.1 dX10_fills_86 rfl (lv_at hl 5 rfl) ?_
  refine lv_aload_n S.1 S.2.1 dX10_fills_87 rfl (lv_at hl 5 rfl) ?_
  refine lv_iload S.1 S.2.1 dX10_fills_88 (lv_at hl 1 rfl) ?_
  refine fx_cVNr (host := "TreeDifferModel") (As := [.int 0]) (rest := [.ref (N0 + 176), .ref n, .ref (N0 + 166), .ref (N0 + 164), .int 0, .int 0, .ref (N0 + 188)]) S hG (k195_X9_kids (by omega) (fblk_sk 1 rfl (by omega) h1)) (fblk_sk 1 rfl (by omega) h1) rfl ⟨(va_cnB 1 S.2.2.2.2 gX10_fills_X9_kids_n173 rfl rfl rfl (hG.nest (show _ ∈ fen2.2.2.1 from by decide)) (S.2.2.2.2 (.initialized RX9) (by decide +kernel)) (by decide +kernel) ⟨Nat.le_of_ble_eq_true rfl, Nat.le_of_ble_eq_true rfl⟩), S.2.2.2.2 (.instanceMethod yX9_kids) (by decide +kernel), S.2.2.2.2 (.selects RX9 yX9_kids yX9_kids) (by decide +kernel)⟩ rfl hl.1 rfl (Nat.le_of_ble_eq_true rfl) dX10_fills_90 ⟨Nat.le_of_ble_eq_true rfl, Nat.le_of_ble_eq_true rfl⟩ (fun rv_2 _ H locs hp hG => ?_)
  subst rv_2
  refine W.widen (k := 2) (n := 0) (by decide) (by decide) ?_
  refine fx_cVr (As := [.ref (N0 + 166), .ref n, .ref (N0 + 176), .ref (n + 1)]) (rest := [.int 0, .int 0, .ref (N0 + 188)]) S hG (k1214_X10_left (by omega) (by omega) (fblk_sk 1 rfl (by omega) (fblk_at 0 (by omega) rfl)) (fblk_at 0 (by omega) rfl)) (fblk_sk 1 rfl (by omega) (fblk_sk 1 rfl (by omega) h6)) rfl (cwV 4 S.2.2.2.2 gX10_fills_X10_left rfl rfl rfl (by decide +kernel) ⟨Nat.le_of_ble_eq_true rfl, Nat.le_of_ble_eq_true rfl⟩) rfl hl.1 rfl (Nat.le_of_ble_eq_true rfl) dX10_fills_93 ⟨Nat.le_of_ble_eq_true rfl, Nat.le_of_ble_eq_true rfl⟩ (fun rv_3 _ H locs hp hG => ?_)
  subst rv_3
  refine W.widen (k := 4) (n := 2) (by decide) (by decide) ?_
  refine lv_iconst (v := 0) S.1 S.2.1 dX10_fills_96 (by decide) ?_
  refine gx_aldq (x := (n + 3)) S hG 4 rfl (fblk_at 0 (by omega) rfl) rfl (fin_l (by decide)) (rfl) dX10_fills_97 ?_
  refine lv_iconst (v := 0) S.1 S.2.1 dX10_fills_98 (by decide) ?_
  refine gx_iald (v := 0) S hG 0 (fblk_at 1 (by omega) rfl) rfl (fin_l (by decide)) (by decide) dX10_fills_99 ?_
  refine lv_iadd S.1 S.2.1 dX10_fills_100 ?_
  refine fx_topi (y := 0) (by decide) ?_
  refine gx_iast (f' := upd (fun _ => 0) 0 0) S hG 0 (fblk_sk 2 rfl (by omega) (fblk_sk 1 rfl (by omega) (fblk_sk 1 rfl (by omega) h8))) rfl (fin_l (by decide)) dX10_fills_101 (rfl) (fun H locs hG => ?_)
  refine lv_iinc (v := (-1)) (lv' := [(4, .int (-1)), (5, .int 0), (3, .int 0), (0, .ref (N0 + 164)), (1, .ref (N0 + 166)), (2, .ref (N0 + 176))]) S.1 S.2.1 dX10_fills_102 hl (k := 1) rfl (by decide) (by decide) rfl (fun ls hl => ?_)
  refine lv_goto (tgt := 19) S.1 S.2.1 dX10_fills_105 (by decide) ?_
  refine lv_iload S.1 S.2.1 dX10_fills_19 (lv_at hl 0 rfl) ?_
  refine lv_if_lt (tgt := 108) S.1 S.2.1 dX10_fills_21 (by decide) (fun _ => ?_) (fun c => absurd (by decide) c)
  refine lv_iinc (v := (-1)) (lv' := [(3, .int (-1)), (4, .int (-1)), (5, .int 0), (0, .ref (N0 + 164)), (1, .ref (N0 + 166)), (2, .ref (N0 + 176))]) S.1 S.2.1 dX10_fills_108 hl (k := 2) rfl (by decide) (by decide) rfl (fun ls hl => ?_)
  refine lv_goto (tgt := 7) S.1 S.2.1 dX10_fills_111 (by decide) ?_
  refine lv_iload_n S.1 S.2.1 dX10_fills_7 rfl (lv_at hl 0 rfl) ?_
  refine lv_if_lt (tgt := 114) S.1 S.2.1 dX10_fills_8 (by decide) (fun _ => ?_) (fun c => absurd (by decide) c)
  refine lv_aload_n S.1 S.2.1 dX10_fills_114 rfl (lv_at hl 3 rfl) ?_
  refine gx_get (C := RX10) (T := TX10) (N := 31) S hG (fu_at (by omega) (fblk_sk 2 rfl (by omega) (fblk_sk 1 rfl (by omega) (fblk_sk 1 rfl (by omega) h6)))) i_X10_fills_X10 rfl 9 (by decide) (by decide +kernel) rfl dX10_fills_115 ?_
  refine lv_iconst (v := 0) S.1 S.2.1 dX10_fills_118 (by decide) ?_
  refine gx_aldq (x := (N0 + 188)) S hG 4 rfl (fu_at (by omega) (fblk_sk 2 rfl (by omega) (fblk_sk 1 rfl (by omega) (fblk_sk 1 rfl (by omega) h7)))) rfl (fin_l (by decide)) (rfl) dX10_fills_119 ?_
  refine lv_iconst (v := 0) S.1 S.2.1 dX10_fills_120 (by decide) ?_
  refine gx_iald (v := 0) S hG 0 fu_s rfl (fin_l (by decide)) (by decide) dX10_fills_121 ?_
  have hG : fG N0 D vwCl (fty cI cC cL cD cII cTr cTm cIt cB) (fen ql) s (fblk (fu F (N0 + 188) (.inl (cI, 20, .inl (upd (fun _ => 0) 0 0)))) n [.inl (cI, 0, .inl (fun _ => 0)), .inl (cI, 0, .inl (fun _ => 0)), .inl (cII, 1, .inr (.inr (.inr (.inr (fun j => if j < 1 then some ((n + 3) + j) else none))))), .inl (cI, 1, .inl (fun _ => 0))]) (n + 4) H locs := hG.weak (fun a e h => by
    rcases fblk_cases 4 rfl h with ⟨k, rfl, hlt, hk⟩ | ⟨hout, h⟩
    · rcases (show k = 0 ∨ k = 1 ∨ k = 2 ∨ k = 3 by omega) with rfl | rfl | rfl | rfl
      · cases (show some (.inl (cI, 0, .inl (fun _ => 0))) = some e from hk); exact (fu_at (by omega) (fblk_sk 2 rfl (by omega) (fblk_sk 1 rfl (by omega) (fblk_at 0 (by omega) rfl))))
      · cases (show some (.inl (cI, 0, .inl (fun _ => 0))) = some e from hk); exact (fu_at (by omega) (fblk_sk 2 rfl (by omega) (fblk_at 0 (by omega) rfl)))
      · cases (show some (.inl (cII, 1, .inr (.inr (.inr (.inr (fun j => if j < 1 then some ((n + 3) + j) else none)))))) = some e from hk); exact (fu_at (by omega) (fblk_at 0 (by omega) rfl))
      · cases (show some (.inl (cI, 1, .inl (fun _ => 0))) = some e from hk); exact (fu_at (by omega) (fblk_at 1 (by omega) rfl))
    · rcases fu_cases h with ⟨rfl, he⟩ | ⟨hne0, h⟩
      · cases he; exact fu_s
      · exact (fu_at (by omega) (fblk_sk 2 rfl (by omega) (fblk_sk 1 rfl (by omega) (fblk_sk 1 rfl (by omega) h)))))
  exact fx_iret S hr hlocks () hG (rfl) dX10_fills_122
theorem k1216_X10_distance {n : Nat} (hn : N0 + 231 ≤ n) (h0 : F (N0 + 164) = some (.inr (12, [.ref (N0 + 165), .int 0, .ref (N0 + 181), .int 0, .int 0, .int 0, .int (-1), .ref (ql 24), .ref (N0 + 182), .ref (N0 + 187), .ref (N0 + 208), .ref (N0 + 209), .ref (N0 + 210), .ref (N0 + 211), .ref (N0 + 212), .int 0, .ref (N0 + 213), .ref (N0 + 218), .ref (N0 + 223), .ref (N0 + 224), .ref (N0 + 225), .ref (N0 + 226), .ref (N0 + 227), .int 0, .int 0, .ref (N0 + 228), .null, .int (-1), .int 0, .int 0, .int 0]))) (h1 : F (N0 + 165) = some (.inl (cTm, 3, .inr (.inr (.inr (.inr (va_up (va_up (va_up (fun _ => none) 0 (some (N0 + 166))) 1 (some (N0 + 171))) 2 (some (N0 + 176))))))))) (h2 : F (N0 + 166) = some (.inr (11, [.ref (N0 + 167), .ref (N0 + 168), .ref (N0 + 169), .ref (N0 + 170), .int 1]))) (h3 : F (N0 + 176) = some (.inr (11, [.ref (N0 + 177), .ref (N0 + 178), .ref (N0 + 179), .ref (N0 + 180), .int 1]))) (h4 : F (N0 + 167) = some (.inl (cI, 20, .inl (upd (fun _ => 0) 0 97)))) (h5 : F (N0 + 177) = some (.inl (cI, 20, .inl (upd (fun _ => 0) 0 97)))) (h6 : F (N0 + 169) = some (.inl (cI, 20, .inl (upd (fun _ => 0) 0 0)))) (h7 : F (N0 + 179) = some (.inl (cI, 20, .inl (upd (fun _ => 0) 0 0)))) (h8 : F (N0 + 187) = some (.inl (cII, 20, .inr (.inr (.inr (.inr (fun j => if j < 20 then some ((N0 + 188) + j) else none))))))) (h9 : F (N0 + 188) = some (.inl (cI, 20, .inl (fun _ => 0)))) : Met l yX10_distance wsX10_distance ({ frames := 3, cells := 4, slots := 2, locals := 72 }) (va_Pc [.ref (N0 + 164), .int 0, .int 2] (fP N0 D vwCl (fty cI cC cL cD cII cTr cTm cIt cB) (fen ql) F n)) (fQi N0 D vwCl (fty cI cC cL cD cII cTr cTm cIt cB) (fun (r : Int32) (_ : Unit) => r = 0) (fun _ => (fblk (fu (fu F (N0 + 164) (.inr (12, [.ref (N0 + 165), .int 0, .ref (N0 + 181), .int 0, .int 0, .int 0, .int (-1), .ref (ql 24), .ref (N0 + 182), .ref (N0 + 187), .ref (N0 + 208), .ref (N0 + 209), .ref (N0 + 210), .ref (N0 + 211), .ref (N0 + 212), .int 0, .ref (N0 + 213), .ref (N0 + 218), .ref (N0 + 223), .ref (N0 + 224), .ref (N0 + 225), .ref (N0 + 226), .ref (N0 + 227), .int 0, .int 0, .ref (N0 + 228), .null, .int (-1), .int 0, .int 0, .int 0]))) (N0 + 188) (.inl (cI, 20, .inl (upd (fun _ => 0) 0 0)))) n [.inl (cI, 0, .inl (fun _ => 0)), .inl (cI, 0, .inl (fun _ => 0)), .inl (cII, 1, .inr (.inr (.inr (.inr (fun j => if j < 1 then some ((n + 3) + j) else none))))), .inl (cI, 1, .inl (fun _ => 0))])) (fun _ => (n + 4))) 4 2 (fA N0) := by
  refine fx_start 3 rfl rfl (Nat.le_of_ble_eq_true rfl) ?_ rfl
  intro p e s m below meth c ls S hr hlocks hin hG hl
  have hl : lv_has ls 3 [(0, .ref (N0 + 164)), (1, .int 0), (2, .int 2)] := hl
  have lt_h0 := hG.1.lt h0
  have lt_h1 := hG.1.lt h1
  have lt_h2 := hG.1.lt h2
  have lt_h3 := hG.1.lt h3
  have lt_h4 := hG.1.lt h4
  have lt_h5 := hG.1.lt h5
  have lt_h6 := hG.1.lt h6
  have lt_h7 := hG.1.lt h7
  have lt_h8 := hG.1.lt h8
  have lt_h9 := hG.1.lt h9
  refine lv_aload_n S.1 S.2.1 dX10_distance_0 rfl (lv_at hl 0 rfl) ?_
  refine lv_iload_n S.1 S.2.1 dX10_distance_1 rfl (lv_at hl 1 rfl) ?_
  refine lv_iload_n S.1 S.2.1 dX10_distance_2 rfl (lv_at hl 2 rfl) ?_
  refine fx_cVi (As := [.int 0, .int 2]) (rest := []) S hG (k474_X10_areNone (by omega) h0) h0 rfl (cwV 2 S.2.2.2.2 gX10_distance_X10_areNone rfl rfl rfl (by decide +kernel) ⟨Nat.le_of_ble_eq_true rfl, Nat.le_of_ble_eq_true rfl⟩) rfl hl.1 rfl (Nat.le_of_ble_eq_true rfl) dX10_distance_3 ⟨Nat.le_of_ble_eq_true rfl, Nat.le_of_ble_eq_true rfl⟩ (fun rv_1 _ H locs hp hG => ?_)
  subst rv_1
  refine lv_if_eq (tgt := 13) S.1 S.2.1 dX10_distance_6 (by decide) (fun _ => ?_) (fun c => absurd (by decide) c)
  refine lv_aload_n S.1 S.2.1 dX10_distance_13 rfl (lv_at hl 0 rfl) ?_
  refine lv_aload_n S.1 S.2.1 dX10_distance_14 rfl (lv_at hl 0 rfl) ?_
  refine gx_get (C := RX10) (T := TX10) (N := 31) S hG fu_s i_X10_distance_X10 rfl 0 (by decide) (by decide +kernel) rfl dX10_distance_15 ?_
  refine lv_iload_n S.1 S.2.1 dX10_distance_18 rfl (lv_at hl 1 rfl) ?_
  refine gx_aldq (x := (N0 + 166)) S hG 6 rfl (fu_at (by omega) h1) rfl (fin_l (by decide)) (rfl) dX10_distance_19 ?_
  refine lv_aload_n S.1 S.2.1 dX10_distance_20 rfl (lv_at hl 0 rfl) ?_
  refine gx_get (C := RX10) (T := TX10) (N := 31) S hG fu_s i_X10_distance_X10 rfl 0 (by decide) (by decide +kernel) rfl dX10_distance_21 ?_
  refine lv_iload_n S.1 S.2.1 dX10_distance_24 rfl (lv_at hl 2 rfl) ?_
  refine gx_aldq (x := (N0 + 176)) S hG 6 rfl (fu_at (by omega) h1) rfl (fin_l (by decide)) (rfl) dX10_distance_25 ?_
  refine fx_cVi (As := [.ref (N0 + 166), .ref (N0 + 176)]) (rest := []) S hG (k1215_X10_fills (by omega) (fu_at (by omega) h2) (fu_at (by omega) h3) (fu_at (by omega) h4) (fu_at (by omega) h5) (fu_at (by omega) h6) (fu_at (by omega) h7) fu_s (fu_at (by omega) h8) (fu_at (by omega) h9)) fu_s rfl (cwV 2 S.2.2.2.2 gX10_distance_X10_fills rfl rfl rfl (by decide +kernel) ⟨Nat.le_of_ble_eq_true rfl, Nat.le_of_ble_eq_true rfl⟩) rfl hl.1 rfl (Nat.le_of_ble_eq_true rfl) dX10_distance_26 ⟨Nat.le_of_ble_eq_true rfl, Nat.le_of_ble_eq_true rfl⟩ (fun rv_2 _ H locs hp hG => ?_)
  subst rv_2
  refine W.widen (k := 4) (n := 2) (by decide) (by decide) ?_
  have hG : fG N0 D vwCl (fty cI cC cL cD cII cTr cTm cIt cB) (fen ql) s (fblk (fu (fu F (N0 + 164) (.inr (12, [.ref (N0 + 165), .int 0, .ref (N0 + 181), .int 0, .int 0, .int 0, .int (-1), .ref (ql 24), .ref (N0 + 182), .ref (N0 + 187), .ref (N0 + 208), .ref (N0 + 209), .ref (N0 + 210), .ref (N0 + 211), .ref (N0 + 212), .int 0, .ref (N0 + 213), .ref (N0 + 218), .ref (N0 + 223), .ref (N0 + 224), .ref (N0 + 225), .ref (N0 + 226), .ref (N0 + 227), .int 0, .int 0, .ref (N0 + 228), .null, .int (-1), .int 0, .int 0, .int 0]))) (N0 + 188) (.inl (cI, 20, .inl (upd (fun _ => 0) 0 0)))) n [.inl (cI, 0, .inl (fun _ => 0)), .inl (cI, 0, .inl (fun _ => 0)), .inl (cII, 1, .inr (.inr (.inr (.inr (fun j => if j < 1 then some ((n + 3) + j) else none))))), .inl (cI, 1, .inl (fun _ => 0))]) (n + 4) H locs := hG.weak (fun a e h => by
    rcases fblk_cases 4 rfl h with ⟨k, rfl, hlt, hk⟩ | ⟨hout, h⟩
    · rcases (show k = 0 ∨ k = 1 ∨ k = 2 ∨ k = 3 by omega) with rfl | rfl | rfl | rfl
      · cases (show some (.inl (cI, 0, .inl (fun _ => 0))) = some e from hk); exact (fblk_at 0 (by omega) rfl)
      · cases (show some (.inl (cI, 0, .inl (fun _ => 0))) = some e from hk); exact (fblk_at 1 (by omega) rfl)
      · cases (show some (.inl (cII, 1, .inr (.inr (.inr (.inr (fun j => if j < 1 then some ((n + 3) + j) else none)))))) = some e from hk); exact (fblk_at 2 (by omega) rfl)
      · cases (show some (.inl (cI, 1, .inl (fun _ => 0))) = some e from hk); exact (fblk_at 3 (by omega) rfl)
    · rcases fu_cases h with ⟨rfl, he⟩ | ⟨hne0, h⟩
      · cases he; exact (fblk_sk 4 rfl (by omega) fu_s)
      · skip
        rcases fu_cases h with ⟨rfl, he⟩ | ⟨hne1, h⟩
        · cases he; exact (fblk_sk 4 rfl (by omega) (fu_at (by omega) fu_s))
        · exact (fblk_sk 4 rfl (by omega) (fu_at (by omega) (fu_at (by omega) h))))
  exact fx_iret S hr hlocks () hG (rfl) dX10_distance_29
theorem k1217_X7_distance {n : Nat} {a2 : Int32} (g_a2_ge_3 : 3 ≤ a2) (hst : l.stackTraces = false) (hn : N0 + 231 ≤ n) (h0 : F N0 = some (.inr (9, [.ref (N0 + 1), .ref (N0 + 2), .ref (N0 + 11), .ref (N0 + 13), .ref (N0 + 63), .ref (N0 + 65), .ref (N0 + 85), .int (-1), .int (-1), .int 32]))) (h1 : F (N0 + 1) = some (.inl (cTr, 3, .inr (.inr (.inr (.inr (va_up (va_up (va_up (fun _ => none) 0 (some (N0 + 143))) 1 (some (N0 + 150))) 2 (some (N0 + 157))))))))) : vx_Met l yX7_distance wsX7_distance ({ frames := 7, cells := 1, slots := 6, locals := 103 }) (va_Pc [.ref N0, .int 0, .int a2] (fP N0 D vwCl (fty cI cC cL cD cII cTr cTm cIt cB) (fen ql) F n)) (fNo N0 D vwCl (fty cI cC cL cD cII cTr cTm cIt cB) F n) (fXC N0 D vwCl (fty cI cC cL cD cII cTr cTm cIt cB) "java/lang/IndexOutOfBoundsException" F n) 1 6 (fA N0) := by
  refine fx_startX 5 rfl rfl (Nat.le_of_ble_eq_true rfl) ?_ rfl
  intro p e s m below meth c ls S htab hlocks hG hl
  have hl : lv_has ls 5 [(0, .ref N0), (1, .int 0), (2, .int a2)] := hl
  have lt_h0 := hG.1.lt h0
  have lt_h1 := hG.1.lt h1
  refine lv_aload_n S.1 S.2.1 dX7_distance_0 rfl (lv_at hl 0 rfl) ?_
  refine lv_iload_n S.1 S.2.1 dX7_distance_1 rfl (lv_at hl 1 rfl) ?_
  refine fx_cVr (As := [.int 0]) (rest := []) S hG (k26_X7_treeAt (by omega) h0 h1) h0 rfl (cwV 1 S.2.2.2.2 gX7_distance_X7_treeAt rfl rfl rfl (by decide +kernel) ⟨Nat.le_of_ble_eq_true rfl, Nat.le_of_ble_eq_true rfl⟩) rfl hl.1 rfl (Nat.le_of_ble_eq_true rfl) dX7_distance_2 ⟨Nat.le_of_ble_eq_true rfl, Nat.le_of_ble_eq_true rfl⟩ (fun rv_1 _ H locs hp hG => ?_)
  subst rv_1
  refine lv_astore_n (lv' := [(3, .ref (N0 + 143)), (0, .ref N0), (1, .int 0), (2, .int a2)]) S.1 S.2.1 dX7_distance_5 rfl hl (by decide) rfl (fun ls hl => ?_)
  refine lv_aload_n S.1 S.2.1 dX7_distance_6 rfl (lv_at hl 1 rfl) ?_
  refine lv_iload_n S.1 S.2.1 dX7_distance_7 rfl (lv_at hl 3 rfl) ?_
  refine fx_xV (As := [.int a2]) (rest := []) S hG (k478_X7_treeAt g_a2_ge_3 hst (by omega)) h0 rfl (cwV 1 S.2.2.2.2 gX7_distance_X7_treeAt rfl rfl rfl (by decide +kernel) ⟨Nat.le_of_ble_eq_true rfl, Nat.le_of_ble_eq_true rfl⟩) rfl hl.1 rfl (Nat.le_of_ble_eq_true rfl) dX7_distance_8 ⟨Nat.le_of_ble_eq_true rfl, Nat.le_of_ble_eq_true rfl⟩ (fun ceq_2 q_2 H locs n_3 hn_3 hG h1q_2 h2q_2 h3q_2 => ?_)
  exact fx_out htab hlocks hG (by omega) h1q_2 h2q_2 h3q_2 (by decide) (by decide)
theorem k1218_L_distance {n : Nat} {a2 : Int32} (g_a2_ge_3 : 3 ≤ a2) (hst : l.stackTraces = false) (hn : N0 + 231 ≤ n) (h0 : F N0 = some (.inr (9, [.ref (N0 + 1), .ref (N0 + 2), .ref (N0 + 11), .ref (N0 + 13), .ref (N0 + 63), .ref (N0 + 65), .ref (N0 + 85), .int (-1), .int (-1), .int 32]))) (h1 : F (N0 + 1) = some (.inl (cTr, 3, .inr (.inr (.inr (.inr (va_up (va_up (va_up (fun _ => none) 0 (some (N0 + 143))) 1 (some (N0 + 150))) 2 (some (N0 + 157))))))))) : Met l yL_distance wsL_distance ({ frames := 8, cells := 1, slots := 6, locals := 127 }) (va_Pc [.ref N0, .int 0, .int a2, .ref (N0 + 229)] (fP N0 D vwCl (fty cI cC cL cD cII cTr cTm cIt cB) (fen ql) F n)) (fQi N0 D vwCl (fty cI cC cL cD cII cTr cTm cIt cB) (fun (r : Int32) (u : Nat) => r = 1 ∧ n ≤ u) (fun _ => F) (fun u => u)) 1 6 (fA N0) := by
  refine fx_startW (hh := [(0, 10, 13, 19)]) 5 rfl rfl (Nat.le_of_ble_eq_true rfl) ?_ rfl
  intro p e s m below meth c ls S htab hr hlocks hG hl
  have hl : lv_has ls 5 [(0, .ref N0), (1, .int 0), (2, .int a2), (3, .ref (N0 + 229))] := hl
  have lt_h0 := hG.1.lt h0
  have lt_h1 := hG.1.lt h1
  refine lv_aload_n S.1 S.2.1 dL_distance_0 rfl (lv_at hl 3 rfl) ?_
  refine lv_iconst (v := 0) S.1 S.2.1 dL_distance_1 (by decide) ?_
  refine lv_aload_n S.1 S.2.1 dL_distance_2 rfl (lv_at hl 0 rfl) ?_
  refine lv_iload_n S.1 S.2.1 dL_distance_3 rfl (lv_at hl 1 rfl) ?_
  refine lv_iload_n S.1 S.2.1 dL_distance_4 rfl (lv_at hl 2 rfl) ?_
  refine fx_xV (As := [.int 0, .int a2]) (rest := [.int 0, .ref (N0 + 229)]) S hG (k1217_X7_distance g_a2_ge_3 hst (by omega) h0 h1) h0 rfl (cwV 2 S.2.2.2.2 gL_distance_X7_distance rfl rfl rfl (by decide +kernel) ⟨Nat.le_of_ble_eq_true rfl, Nat.le_of_ble_eq_true rfl⟩) rfl hl.1 rfl (Nat.le_of_ble_eq_true rfl) dL_distance_5 ⟨Nat.le_of_ble_eq_true rfl, Nat.le_of_ble_eq_true rfl⟩ (fun ceq_1 q_1 H locs n_2 hn_2 hG h1q_1 h2q_1 h3q_1 => ?_)
  refine fx_catch (hh := [(0, 10, 13, 19)]) S htab hG h1q_1 h2q_1 h3q_1 [] ⟨0, 10, 13, 19⟩ [] rfl [] (fun z hz => absurd hz List.not_mem_nil) (by decide) (by decide) (by decide +kernel) (List.mem_of_getElem? (i := 2) rfl) ?_
  refine lv_astore (lv' := [(4, .ref q_1), (0, .ref N0), (1, .int 0), (2, .int a2), (3, .ref (N0 + 229))]) S.1 S.2.1 dL_distance_13 hl (by decide) rfl (fun ls hl => ?_)
  refine lv_iconst (v := 1) S.1 S.2.1 dL_distance_15 (by decide) ?_
  exact fx_iret S hr hlocks n_2 hG (⟨rfl, hn_2⟩) dL_distance_16
theorem k1219_X10_distance {n : Nat} {a2 : Int32} (g_a2_ge_3 : 3 ≤ a2) (hn : N0 + 231 ≤ n) (h0 : F (N0 + 164) = some (.inr (12, [.ref (N0 + 165), .int 0, .ref (N0 + 181), .int 0, .int 0, .int 0, .int (-1), .ref (ql 24), .ref (N0 + 182), .ref (N0 + 187), .ref (N0 + 208), .ref (N0 + 209), .ref (N0 + 210), .ref (N0 + 211), .ref (N0 + 212), .int 0, .ref (N0 + 213), .ref (N0 + 218), .ref (N0 + 223), .ref (N0 + 224), .ref (N0 + 225), .ref (N0 + 226), .ref (N0 + 227), .int 0, .int 0, .ref (N0 + 228), .null, .int (-1), .int 0, .int 0, .int 0]))) : Met l yX10_distance wsX10_distance ({ frames := 3, cells := 0, slots := 0, locals := 64 }) (va_Pc [.ref (N0 + 164), .int 0, .int a2] (fP N0 D vwCl (fty cI cC cL cD cII cTr cTm cIt cB) (fen ql) F n)) (fQi N0 D vwCl (fty cI cC cL cD cII cTr cTm cIt cB) (fun (r : Int32) (_ : Unit) => r = 0) (fun _ => (fu F (N0 + 164) (.inr (12, [.ref (N0 + 165), .int 1, .ref (N0 + 181), .int 0, .int 0, .int 0, .int (-1), .ref (ql 24), .ref (N0 + 182), .ref (N0 + 187), .ref (N0 + 208), .ref (N0 + 209), .ref (N0 + 210), .ref (N0 + 211), .ref (N0 + 212), .int 0, .ref (N0 + 213), .ref (N0 + 218), .ref (N0 + 223), .ref (N0 + 224), .ref (N0 + 225), .ref (N0 + 226), .ref (N0 + 227), .int 0, .int 0, .ref (N0 + 228), .null, .int (-1), .int 0, .int 0, .int 0])))) (fun _ => n)) 0 0 (fA N0) := by
  refine fx_start 3 rfl rfl (Nat.le_of_ble_eq_true rfl) ?_ rfl
  intro p e s m below meth c ls S hr hlocks hin hG hl
  have hl : lv_has ls 3 [(0, .ref (N0 + 164)), (1, .int 0), (2, .int a2)] := hl
  have lt_h0 := hG.1.lt h0
  refine lv_aload_n S.1 S.2.1 dX10_distance_0 rfl (lv_at hl 0 rfl) ?_
  refine lv_iload_n S.1 S.2.1 dX10_distance_1 rfl (lv_at hl 1 rfl) ?_
  refine lv_iload_n S.1 S.2.1 dX10_distance_2 rfl (lv_at hl 2 rfl) ?_
  refine fx_cVi (As := [.int 0, .int a2]) (rest := []) S hG (k483_X10_areNone g_a2_ge_3 (by omega) h0) h0 rfl (cwV 2 S.2.2.2.2 gX10_distance_X10_areNone rfl rfl rfl (by decide +kernel) ⟨Nat.le_of_ble_eq_true rfl, Nat.le_of_ble_eq_true rfl⟩) rfl hl.1 rfl (Nat.le_of_ble_eq_true rfl) dX10_distance_3 ⟨Nat.le_of_ble_eq_true rfl, Nat.le_of_ble_eq_true rfl⟩ (fun rv_1 _ H locs hp hG => ?_)
  subst rv_1
  refine lv_if_eq (tgt := 13) S.1 S.2.1 dX10_distance_6 (by decide) (fun c => absurd c (by decide)) (fun _ => ?_)
  refine lv_iconst (v := 0) S.1 S.2.1 dX10_distance_9 (by decide) ?_
  refine lv_goto (tgt := 29) S.1 S.2.1 dX10_distance_10 (by decide) ?_
  exact fx_iret S hr hlocks () hG (rfl) dX10_distance_29
theorem k1220_X7_distance {n : Nat} {a2 : Int32} (g_a2_le_m1 : a2 ≤ (-1)) (hst : l.stackTraces = false) (hn : N0 + 231 ≤ n) (h0 : F N0 = some (.inr (9, [.ref (N0 + 1), .ref (N0 + 2), .ref (N0 + 11), .ref (N0 + 13), .ref (N0 + 63), .ref (N0 + 65), .ref (N0 + 85), .int (-1), .int (-1), .int 32]))) (h1 : F (N0 + 1) = some (.inl (cTr, 3, .inr (.inr (.inr (.inr (va_up (va_up (va_up (fun _ => none) 0 (some (N0 + 143))) 1 (some (N0 + 150))) 2 (some (N0 + 157))))))))) : vx_Met l yX7_distance wsX7_distance ({ frames := 7, cells := 1, slots := 6, locals := 103 }) (va_Pc [.ref N0, .int 1, .int a2] (fP N0 D vwCl (fty cI cC cL cD cII cTr cTm cIt cB) (fen ql) F n)) (fNo N0 D vwCl (fty cI cC cL cD cII cTr cTm cIt cB) F n) (fXC N0 D vwCl (fty cI cC cL cD cII cTr cTm cIt cB) "java/lang/IndexOutOfBoundsException" F n) 1 6 (fA N0) := by
  refine fx_startX 5 rfl rfl (Nat.le_of_ble_eq_true rfl) ?_ rfl
  intro p e s m below meth c ls S htab hlocks hG hl
  have hl : lv_has ls 5 [(0, .ref N0), (1, .int 1), (2, .int a2)] := hl
  have lt_h0 := hG.1.lt h0
  have lt_h1 := hG.1.lt h1
  refine lv_aload_n S.1 S.2.1 dX7_distance_0 rfl (lv_at hl 0 rfl) ?_
  refine lv_iload_n S.1 S.2.1 dX7_distance_1 rfl (lv_at hl 1 rfl) ?_
  refine fx_cVr (As := [.int 1]) (rest := []) S hG (k42_X7_treeAt (by omega) h0 h1) h0 rfl (cwV 1 S.2.2.2.2 gX7_distance_X7_treeAt rfl rfl rfl (by decide +kernel) ⟨Nat.le_of_ble_eq_true rfl, Nat.le_of_ble_eq_true rfl⟩) rfl hl.1 rfl (Nat.le_of_ble_eq_true rfl) dX7_distance_2 ⟨Nat.le_of_ble_eq_true rfl, Nat.le_of_ble_eq_true rfl⟩ (fun rv_1 _ H locs hp hG => ?_)
  subst rv_1
  refine lv_astore_n (lv' := [(3, .ref (N0 + 150)), (0, .ref N0), (1, .int 1), (2, .int a2)]) S.1 S.2.1 dX7_distance_5 rfl hl (by decide) rfl (fun ls hl => ?_)
  refine lv_aload_n S.1 S.2.1 dX7_distance_6 rfl (lv_at hl 1 rfl) ?_
  refine lv_iload_n S.1 S.2.1 dX7_distance_7 rfl (lv_at hl 3 rfl) ?_
  refine fx_xV (As := [.int a2]) (rest := []) S hG (k450_X7_treeAt g_a2_le_m1 hst (by omega)) h0 rfl (cwV 1 S.2.2.2.2 gX7_distance_X7_treeAt rfl rfl rfl (by decide +kernel) ⟨Nat.le_of_ble_eq_true rfl, Nat.le_of_ble_eq_true rfl⟩) rfl hl.1 rfl (Nat.le_of_ble_eq_true rfl) dX7_distance_8 ⟨Nat.le_of_ble_eq_true rfl, Nat.le_of_ble_eq_true rfl⟩ (fun ceq_2 q_2 H locs n_3 hn_3 hG h1q_2 h2q_2 h3q_2 => ?_)
  exact fx_out htab hlocks hG (by omega) h1q_2 h2q_2 h3q_2 (by decide) (by decide)
theorem k1221_L_distance {n : Nat} {a2 : Int32} (g_a2_le_m1 : a2 ≤ (-1)) (hst : l.stackTraces = false) (hn : N0 + 231 ≤ n) (h0 : F N0 = some (.inr (9, [.ref (N0 + 1), .ref (N0 + 2), .ref (N0 + 11), .ref (N0 + 13), .ref (N0 + 63), .ref (N0 + 65), .ref (N0 + 85), .int (-1), .int (-1), .int 32]))) (h1 : F (N0 + 1) = some (.inl (cTr, 3, .inr (.inr (.inr (.inr (va_up (va_up (va_up (fun _ => none) 0 (some (N0 + 143))) 1 (some (N0 + 150))) 2 (some (N0 + 157))))))))) : Met l yL_distance wsL_distance ({ frames := 8, cells := 1, slots := 6, locals := 127 }) (va_Pc [.ref N0, .int 1, .int a2, .ref (N0 + 229)] (fP N0 D vwCl (fty cI cC cL cD cII cTr cTm cIt cB) (fen ql) F n)) (fQi N0 D vwCl (fty cI cC cL cD cII cTr cTm cIt cB) (fun (r : Int32) (u : Nat) => r = 1 ∧ n ≤ u) (fun _ => F) (fun u => u)) 1 6 (fA N0) := by
  refine fx_startW (hh := [(0, 10, 13, 19)]) 5 rfl rfl (Nat.le_of_ble_eq_true rfl) ?_ rfl
  intro p e s m below meth c ls S htab hr hlocks hG hl
  have hl : lv_has ls 5 [(0, .ref N0), (1, .int 1), (2, .int a2), (3, .ref (N0 + 229))] := hl
  have lt_h0 := hG.1.lt h0
  have lt_h1 := hG.1.lt h1
  refine lv_aload_n S.1 S.2.1 dL_distance_0 rfl (lv_at hl 3 rfl) ?_
  refine lv_iconst (v := 0) S.1 S.2.1 dL_distance_1 (by decide) ?_
  refine lv_aload_n S.1 S.2.1 dL_distance_2 rfl (lv_at hl 0 rfl) ?_
  refine lv_iload_n S.1 S.2.1 dL_distance_3 rfl (lv_at hl 1 rfl) ?_
  refine lv_iload_n S.1 S.2.1 dL_distance_4 rfl (lv_at hl 2 rfl) ?_
  refine fx_xV (As := [.int 1, .int a2]) (rest := [.int 0, .ref (N0 + 229)]) S hG (k1220_X7_distance g_a2_le_m1 hst (by omega) h0 h1) h0 rfl (cwV 2 S.2.2.2.2 gL_distance_X7_distance rfl rfl rfl (by decide +kernel) ⟨Nat.le_of_ble_eq_true rfl, Nat.le_of_ble_eq_true rfl⟩) rfl hl.1 rfl (Nat.le_of_ble_eq_true rfl) dL_distance_5 ⟨Nat.le_of_ble_eq_true rfl, Nat.le_of_ble_eq_true rfl⟩ (fun ceq_1 q_1 H locs n_2 hn_2 hG h1q_1 h2q_1 h3q_1 => ?_)
  refine fx_catch (hh := [(0, 10, 13, 19)]) S htab hG h1q_1 h2q_1 h3q_1 [] ⟨0, 10, 13, 19⟩ [] rfl [] (fun z hz => absurd hz List.not_mem_nil) (by decide) (by decide) (by decide +kernel) (List.mem_of_getElem? (i := 2) rfl) ?_
  refine lv_astore (lv' := [(4, .ref q_1), (0, .ref N0), (1, .int 1), (2, .int a2), (3, .ref (N0 + 229))]) S.1 S.2.1 dL_distance_13 hl (by decide) rfl (fun ls hl => ?_)
  refine lv_iconst (v := 1) S.1 S.2.1 dL_distance_15 (by decide) ?_
  exact fx_iret S hr hlocks n_2 hG (⟨rfl, hn_2⟩) dL_distance_16
theorem k1222_X10_distance {n : Nat} {a2 : Int32} (g_a2_le_m1 : a2 ≤ (-1)) (hn : N0 + 231 ≤ n) (h0 : F (N0 + 164) = some (.inr (12, [.ref (N0 + 165), .int 0, .ref (N0 + 181), .int 0, .int 0, .int 0, .int (-1), .ref (ql 24), .ref (N0 + 182), .ref (N0 + 187), .ref (N0 + 208), .ref (N0 + 209), .ref (N0 + 210), .ref (N0 + 211), .ref (N0 + 212), .int 0, .ref (N0 + 213), .ref (N0 + 218), .ref (N0 + 223), .ref (N0 + 224), .ref (N0 + 225), .ref (N0 + 226), .ref (N0 + 227), .int 0, .int 0, .ref (N0 + 228), .null, .int (-1), .int 0, .int 0, .int 0]))) : Met l yX10_distance wsX10_distance ({ frames := 3, cells := 0, slots := 0, locals := 64 }) (va_Pc [.ref (N0 + 164), .int 1, .int a2] (fP N0 D vwCl (fty cI cC cL cD cII cTr cTm cIt cB) (fen ql) F n)) (fQi N0 D vwCl (fty cI cC cL cD cII cTr cTm cIt cB) (fun (r : Int32) (_ : Unit) => r = 0) (fun _ => (fu F (N0 + 164) (.inr (12, [.ref (N0 + 165), .int 1, .ref (N0 + 181), .int 0, .int 0, .int 0, .int (-1), .ref (ql 24), .ref (N0 + 182), .ref (N0 + 187), .ref (N0 + 208), .ref (N0 + 209), .ref (N0 + 210), .ref (N0 + 211), .ref (N0 + 212), .int 0, .ref (N0 + 213), .ref (N0 + 218), .ref (N0 + 223), .ref (N0 + 224), .ref (N0 + 225), .ref (N0 + 226), .ref (N0 + 227), .int 0, .int 0, .ref (N0 + 228), .null, .int (-1), .int 0, .int 0, .int 0])))) (fun _ => n)) 0 0 (fA N0) := by
  refine fx_start 3 rfl rfl (Nat.le_of_ble_eq_true rfl) ?_ rfl
  intro p e s m below meth c ls S hr hlocks hin hG hl
  have hl : lv_has ls 3 [(0, .ref (N0 + 164)), (1, .int 1), (2, .int a2)] := hl
  have lt_h0 := hG.1.lt h0
  refine lv_aload_n S.1 S.2.1 dX10_distance_0 rfl (lv_at hl 0 rfl) ?_
  refine lv_iload_n S.1 S.2.1 dX10_distance_1 rfl (lv_at hl 1 rfl) ?_
  refine lv_iload_n S.1 S.2.1 dX10_distance_2 rfl (lv_at hl 2 rfl) ?_
  refine fx_cVi (As := [.int 1, .int a2]) (rest := []) S hG (k487_X10_areNone g_a2_le_m1 (by omega) h0) h0 rfl (cwV 2 S.2.2.2.2 gX10_distance_X10_areNone rfl rfl rfl (by decide +kernel) ⟨Nat.le_of_ble_eq_true rfl, Nat.le_of_ble_eq_true rfl⟩) rfl hl.1 rfl (Nat.le_of_ble_eq_true rfl) dX10_distance_3 ⟨Nat.le_of_ble_eq_true rfl, Nat.le_of_ble_eq_true rfl⟩ (fun rv_1 _ H locs hp hG => ?_)
  subst rv_1
  refine lv_if_eq (tgt := 13) S.1 S.2.1 dX10_distance_6 (by decide) (fun c => absurd c (by decide)) (fun _ => ?_)
  refine lv_iconst (v := 0) S.1 S.2.1 dX10_distance_9 (by decide) ?_
  refine lv_goto (tgt := 29) S.1 S.2.1 dX10_distance_10 (by decide) ?_
  exact fx_iret S hr hlocks () hG (rfl) dX10_distance_29
theorem k1223_X5_listWidths {n : Nat} (hn : N0 + 231 ≤ n) (h0 : F (N0 + 150) = some (.inr (7, [.ref (N0 + 151), .ref (N0 + 152), .ref (N0 + 153), .ref (N0 + 154), .ref (N0 + 155), .ref (N0 + 156), .int 1]))) (h1 : F (N0 + 57) = some (.inl (cI, 20, .inl (fun _ => 0)))) : Met l yX5_listWidths wsX5_listWidths ({ frames := 1, cells := 0, slots := 0, locals := 22 }) (va_Pc [.ref (N0 + 150), .ref (N0 + 57)] (fP N0 D vwCl (fty cI cC cL cD cII cTr cTm cIt cB) (fen ql) F n)) (fQv N0 D vwCl (fty cI cC cL cD cII cTr cTm cIt cB) (fun (_ : Unit) => True) (fun _ => (fu F (N0 + 57) (.inl (cI, 20, .inl (upd (fun _ => 0) 0 1))))) (fun _ => n)) 0 0 (fA N0) := by
  refine fx_start 3 rfl rfl (Nat.le_of_ble_eq_true rfl) ?_ rfl
  intro p e s m below meth c ls S hr hlocks hin hG hl
  have hl : lv_has ls 3 [(0, .ref (N0 + 150)), (1, .ref (N0 + 57))] := hl
  have lt_h0 := hG.1.lt h0
  have lt_h1 := hG.1.lt h1
  refine lv_iconst (v := 0) S.1 S.2.1 dX5_listWidths_0 (by decide) ?_
  refine lv_istore_n (lv' := [(2, .int 0), (0, .ref (N0 + 150)), (1, .ref (N0 + 57))]) S.1 S.2.1 dX5_listWidths_1 rfl hl (by decide) rfl (fun ls hl => ?_)
  refine lv_iload_n S.1 S.2.1 dX5_listWidths_2 rfl (lv_at hl 0 rfl) ?_
  refine lv_aload_n S.1 S.2.1 dX5_listWidths_3 rfl (lv_at hl 1 rfl) ?_
  refine gx_get (C := RX5) (T := TX5) (N := 7) S hG h0 i_X5_listWidths_X5 rfl 6 (by decide) (by decide +kernel) rfl dX5_listWidths_4 ?_
  refine lv_icmp_ge (tgt := 30) S.1 S.2.1 dX5_listWidths_7 (by decide) (fun c => absurd c (by decide)) (fun _ => ?_)
  refine lv_iload_n S.1 S.2.1 dX5_listWidths_10 rfl (lv_at hl 0 rfl) ?_
  refine lv_aload_n S.1 S.2.1 dX5_listWidths_11 rfl (lv_at hl 2 rfl) ?_
  refine gx_alen (v := 20) S hG 0 h1 rfl (rfl) dX5_listWidths_12 ?_
  refine lv_icmp_ge (tgt := 30) S.1 S.2.1 dX5_listWidths_13 (by decide) (fun c => absurd c (by decide)) (fun _ => ?_)
  refine lv_aload_n S.1 S.2.1 dX5_listWidths_16 rfl (lv_at hl 2 rfl) ?_
  refine lv_iload_n S.1 S.2.1 dX5_listWidths_17 rfl (lv_at hl 0 rfl) ?_
  refine lv_aload_n S.1 S.2.1 dX5_listWidths_18 rfl (lv_at hl 1 rfl) ?_
  refine lv_iload_n S.1 S.2.1 dX5_listWidths_19 rfl (lv_at hl 0 rfl) ?_
  refine fx_cVi (As := [.int 0]) (rest := [.int 0, .ref (N0 + 57)]) S hG (k157_X5_widthOf (by omega) h0) h0 rfl (cwV 1 S.2.2.2.2 gX5_listWidths_X5_widthOf rfl rfl rfl (by decide +kernel) ⟨Nat.le_of_ble_eq_true rfl, Nat.le_of_ble_eq_true rfl⟩) rfl hl.1 rfl (Nat.le_of_ble_eq_true rfl) dX5_listWidths_20 ⟨Nat.le_of_ble_eq_true rfl, Nat.le_of_ble_eq_true rfl⟩ (fun rv_1 _ H locs hp hG => ?_)
  subst rv_1
  refine gx_iast (f' := upd (fun _ => 0) 0 1) S hG 0 h1 rfl (fin_l (by decide)) dX5_listWidths_23 (rfl) (fun H locs hG => ?_)
  refine lv_iinc (v := 1) (lv' := [(2, .int 1), (0, .ref (N0 + 150)), (1, .ref (N0 + 57))]) S.1 S.2.1 dX5_listWidths_24 hl (k := 0) rfl (by decide) (by decide) rfl (fun ls hl => ?_)
  refine lv_goto (tgt := 2) S.1 S.2.1 dX5_listWidths_27 (by decide) ?_
  refine lv_iload_n S.1 S.2.1 dX5_listWidths_2 rfl (lv_at hl 0 rfl) ?_
  refine lv_aload_n S.1 S.2.1 dX5_listWidths_3 rfl (lv_at hl 1 rfl) ?_
  refine gx_get (C := RX5) (T := TX5) (N := 7) S hG (fu_at (by omega) h0) i_X5_listWidths_X5 rfl 6 (by decide) (by decide +kernel) rfl dX5_listWidths_4 ?_
  refine lv_icmp_ge (tgt := 30) S.1 S.2.1 dX5_listWidths_7 (by decide) (fun _ => ?_) (fun c => absurd (by decide) c)
  exact fx_vret S hr hlocks () hG trivial dX5_listWidths_30
theorem k1224_X5_listChildren {n : Nat} (hn : N0 + 231 ≤ n) (h0 : F (N0 + 150) = some (.inr (7, [.ref (N0 + 151), .ref (N0 + 152), .ref (N0 + 153), .ref (N0 + 154), .ref (N0 + 155), .ref (N0 + 156), .int 1]))) : Met l yX5_listChildren wsX5_listChildren ({ frames := 0, cells := 0, slots := 0, locals := 0 }) (va_Pc [.ref (N0 + 150), .int 0, .ref (N0 + 59)] (fP N0 D vwCl (fty cI cC cL cD cII cTr cTm cIt cB) (fen ql) F n)) (fQi N0 D vwCl (fty cI cC cL cD cII cTr cTm cIt cB) (fun (r : Int32) (_ : Unit) => r = 0) (fun _ => F) (fun _ => n)) 0 0 (fA N0) := by
  refine fx_start 5 rfl rfl (Nat.le_of_ble_eq_true rfl) ?_ rfl
  intro p e s m below meth c ls S hr hlocks hin hG hl
  have hl : lv_has ls 5 [(0, .ref (N0 + 150)), (1, .int 0), (2, .ref (N0 + 59))] := hl
  have lt_h0 := hG.1.lt h0
  refine lv_iconst (v := 0) S.1 S.2.1 dX5_listChildren_0 (by decide) ?_
  refine lv_istore_n (lv' := [(3, .int 0), (0, .ref (N0 + 150)), (1, .int 0), (2, .ref (N0 + 59))]) S.1 S.2.1 dX5_listChildren_1 rfl hl (by decide) rfl (fun ls hl => ?_)
  refine lv_iload_n S.1 S.2.1 dX5_listChildren_2 rfl (lv_at hl 2 rfl) ?_
  refine lv_iconst (v := 1) S.1 S.2.1 dX5_listChildren_3 (by decide) ?_
  refine lv_iadd S.1 S.2.1 dX5_listChildren_4 ?_
  refine fx_topi (y := 1) (by decide) ?_
  refine lv_istore (lv' := [(4, .int 1), (3, .int 0), (0, .ref (N0 + 150)), (1, .int 0), (2, .ref (N0 + 59))]) S.1 S.2.1 dX5_listChildren_5 hl (by decide) rfl (fun ls hl => ?_)
  refine lv_iload S.1 S.2.1 dX5_listChildren_7 (lv_at hl 0 rfl) ?_
  refine lv_aload_n S.1 S.2.1 dX5_listChildren_9 rfl (lv_at hl 2 rfl) ?_
  refine gx_get (C := RX5) (T := TX5) (N := 7) S hG h0 i_X5_listChildren_X5 rfl 6 (by decide) (by decide +kernel) rfl dX5_listChildren_10 ?_
  refine lv_icmp_ge (tgt := 47) S.1 S.2.1 dX5_listChildren_13 (by decide) (fun _ => ?_) (fun c => absurd (by decide) c)
  refine lv_iload_n S.1 S.2.1 dX5_listChildren_47 rfl (lv_at hl 1 rfl) ?_
  exact fx_iret S hr hlocks () hG (rfl) dX5_listChildren_48
theorem k1225_X1_restCost {n : Nat} (hn : N0 + 231 ≤ n) (h0 : F (N0 + 13) = some (.inr (3, [.ref (N0 + 14), .ref (N0 + 35), .ref (N0 + 57), .ref (N0 + 58), .ref (N0 + 59), .ref (N0 + 60), .int 0, .int 0, .ref (N0 + 61), .ref (N0 + 62)]))) : Met l yX1_restCost wsX1_restCost ({ frames := 0, cells := 0, slots := 0, locals := 0 }) (va_Pc [.ref (N0 + 13), .ref (N0 + 150), .ref (N0 + 143), .int 0, .int 0] (fP N0 D vwCl (fty cI cC cL cD cII cTr cTm cIt cB) (fen ql) F n)) (fQi N0 D vwCl (fty cI cC cL cD cII cTr cTm cIt cB) (fun (r : Int32) (_ : Unit) => r = 0) (fun _ => F) (fun _ => n)) 0 0 (fA N0) := by
  refine fx_start 6 rfl rfl (Nat.le_of_ble_eq_true rfl) ?_ rfl
  intro p e s m below meth c ls S hr hlocks hin hG hl
  have hl : lv_has ls 6 [(0, .ref (N0 + 13)), (1, .ref (N0 + 150)), (2, .ref (N0 + 143)), (3, .int 0), (4, .int 0)] := hl
  have lt_h0 := hG.1.lt h0
  refine lv_iload_n S.1 S.2.1 dX1_restCost_0 rfl (lv_at hl 3 rfl) ?_
  refine lv_aload_n S.1 S.2.1 dX1_restCost_1 rfl (lv_at hl 0 rfl) ?_
  refine gx_get (C := RX1) (T := TX1) (N := 10) S hG h0 i_X1_restCost_X1 rfl 6 (by decide) (by decide +kernel) rfl dX1_restCost_2 ?_
  refine lv_icmp_ne (tgt := 29) S.1 S.2.1 dX1_restCost_5 (by decide) (fun c => absurd (by decide) c) (fun _ => ?_)
  refine lv_iload S.1 S.2.1 dX1_restCost_8 (lv_at hl 4 rfl) ?_
  refine lv_aload_n S.1 S.2.1 dX1_restCost_10 rfl (lv_at hl 0 rfl) ?_
  refine gx_get (C := RX1) (T := TX1) (N := 10) S hG h0 i_X1_restCost_X1 rfl 7 (by decide) (by decide +kernel) rfl dX1_restCost_11 ?_
  refine lv_icmp_ne (tgt := 21) S.1 S.2.1 dX1_restCost_14 (by decide) (fun c => absurd (by decide) c) (fun _ => ?_)
  refine lv_iconst (v := 0) S.1 S.2.1 dX1_restCost_17 (by decide) ?_
  refine lv_goto (tgt := 28) S.1 S.2.1 dX1_restCost_18 (by decide) ?_
  exact fx_iret S hr hlocks () hG (rfl) dX1_restCost_28
theorem k1226_X1_fillRestCosts {n : Nat} (hn : N0 + 231 ≤ n) (h0 : F (N0 + 13) = some (.inr (3, [.ref (N0 + 14), .ref (N0 + 35), .ref (N0 + 57), .ref (N0 + 58), .ref (N0 + 59), .ref (N0 + 60), .int 0, .int 0, .ref (N0 + 61), .ref (N0 + 62)]))) (h1 : F (N0 + 35) = some (.inl (cII, 21, .inr (.inr (.inr (.inr (fun j => if j < 21 then some ((N0 + 36) + j) else none))))))) (h2 : F (N0 + 36) = some (.inl (cI, 21, .inl (fun _ => 0)))) : Met l yX1_fillRestCosts wsX1_fillRestCosts ({ frames := 1, cells := 0, slots := 0, locals := 25 }) (va_Pc [.ref (N0 + 13), .ref (N0 + 150), .ref (N0 + 143)] (fP N0 D vwCl (fty cI cC cL cD cII cTr cTm cIt cB) (fen ql) F n)) (fQv N0 D vwCl (fty cI cC cL cD cII cTr cTm cIt cB) (fun (_ : Unit) => True) (fun _ => (fu F (N0 + 36) (.inl (cI, 21, .inl (upd (fun _ => 0) 0 0))))) (fun _ => n)) 0 0 (fA N0) := by
  refine fx_start 5 rfl rfl (Nat.le_of_ble_eq_true rfl) ?_ rfl
  intro p e s m below meth c ls S hr hlocks hin hG hl
  have hl : lv_has ls 5 [(0, .ref (N0 + 13)), (1, .ref (N0 + 150)), (2, .ref (N0 + 143))] := hl
  have lt_h0 := hG.1.lt h0
  have lt_h1 := hG.1.lt h1
  have lt_h2 := hG.1.lt h2
  refine lv_aload_n S.1 S.2.1 dX1_fillRestCosts_0 rfl (lv_at hl 0 rfl) ?_
  refine gx_get (C := RX1) (T := TX1) (N := 10) S hG h0 i_X1_fillRestCosts_X1 rfl 6 (by decide) (by decide +kernel) rfl dX1_fillRestCosts_1 ?_
  refine lv_istore_n (lv' := [(3, .int 0), (0, .ref (N0 + 13)), (1, .ref (N0 + 150)), (2, .ref (N0 + 143))]) S.1 S.2.1 dX1_fillRestCosts_4 rfl hl (by decide) rfl (fun ls hl => ?_)
  refine lv_iload_n S.1 S.2.1 dX1_fillRestCosts_5 rfl (lv_at hl 0 rfl) ?_
  refine lv_if_lt (tgt := 50) S.1 S.2.1 dX1_fillRestCosts_6 (by decide) (fun c => absurd c (by decide)) (fun _ => ?_)
  refine lv_aload_n S.1 S.2.1 dX1_fillRestCosts_9 rfl (lv_at hl 1 rfl) ?_
  refine gx_get (C := RX1) (T := TX1) (N := 10) S hG h0 i_X1_fillRestCosts_X1 rfl 7 (by decide) (by decide +kernel) rfl dX1_fillRestCosts_10 ?_
  refine lv_istore (lv' := [(4, .int 0), (3, .int 0), (0, .ref (N0 + 13)), (1, .ref (N0 + 150)), (2, .ref (N0 + 143))]) S.1 S.2.1 dX1_fillRestCosts_13 hl (by decide) rfl (fun ls hl => ?_)
  refine lv_iload S.1 S.2.1 dX1_fillRestCosts_15 (lv_at hl 0 rfl) ?_
  refine lv_if_lt (tgt := 44) S.1 S.2.1 dX1_fillRestCosts_17 (by decide) (fun c => absurd c (by decide)) (fun _ => ?_)
  refine lv_aload_n S.1 S.2.1 dX1_fillRestCosts_20 rfl (lv_at hl 2 rfl) ?_
  refine gx_get (C := RX1) (T := TX1) (N := 10) S hG h0 i_X1_fillRestCosts_X1 rfl 1 (by decide) (by decide +kernel) rfl dX1_fillRestCosts_21 ?_
  refine lv_iload_n S.1 S.2.1 dX1_fillRestCosts_24 rfl (lv_at hl 1 rfl) ?_
  refine gx_aldq (x := (N0 + 36)) S hG 4 rfl h1 rfl (fin_l (by decide)) (rfl) dX1_fillRestCosts_25 ?_
  refine lv_iload S.1 S.2.1 dX1_fillRestCosts_26 (lv_at hl 0 rfl) ?_
  refine lv_aload_n S.1 S.2.1 dX1_fillRestCosts_28 rfl (lv_at hl 2 rfl) ?_
  refine lv_aload_n S.1 S.2.1 dX1_fillRestCosts_29 rfl (lv_at hl 3 rfl) ?_
  refine lv_aload_n S.1 S.2.1 dX1_fillRestCosts_30 rfl (lv_at hl 4 rfl) ?_
  refine lv_iload_n S.1 S.2.1 dX1_fillRestCosts_31 rfl (lv_at hl 1 rfl) ?_
  refine lv_iload S.1 S.2.1 dX1_fillRestCosts_32 (lv_at hl 0 rfl) ?_
  refine fx_cVi (As := [.ref (N0 + 150), .ref (N0 + 143), .int 0, .int 0]) (rest := [.int 0, .ref (N0 + 36)]) S hG (k1225_X1_restCost (by omega) h0) h0 rfl (cwV 4 S.2.2.2.2 gX1_fillRestCosts_X1_restCost rfl rfl rfl (by decide +kernel) ⟨Nat.le_of_ble_eq_true rfl, Nat.le_of_ble_eq_true rfl⟩) rfl hl.1 rfl (Nat.le_of_ble_eq_true rfl) dX1_fillRestCosts_34 ⟨Nat.le_of_ble_eq_true rfl, Nat.le_of_ble_eq_true rfl⟩ (fun rv_1 _ H locs hp hG => ?_)
  subst rv_1
  refine gx_iast (f' := upd (fun _ => 0) 0 0) S hG 0 h2 rfl (fin_l (by decide)) dX1_fillRestCosts_37 (rfl) (fun H locs hG => ?_)
  refine lv_iinc (v := (-1)) (lv' := [(4, .int (-1)), (3, .int 0), (0, .ref (N0 + 13)), (1, .ref (N0 + 150)), (2, .ref (N0 + 143))]) S.1 S.2.1 dX1_fillRestCosts_38 hl (k := 0) rfl (by decide) (by decide) rfl (fun ls hl => ?_)
  refine lv_goto (tgt := 15) S.1 S.2.1 dX1_fillRestCosts_41 (by decide) ?_
  refine lv_iload S.1 S.2.1 dX1_fillRestCosts_15 (lv_at hl 0 rfl) ?_
  refine lv_if_lt (tgt := 44) S.1 S.2.1 dX1_fillRestCosts_17 (by decide) (fun _ => ?_) (fun c => absurd (by decide) c)
  refine lv_iinc (v := (-1)) (lv' := [(3, .int (-1)), (4, .int (-1)), (0, .ref (N0 + 13)), (1, .ref (N0 + 150)), (2, .ref (N0 + 143))]) S.1 S.2.1 dX1_fillRestCosts_44 hl (k := 1) rfl (by decide) (by decide) rfl (fun ls hl => ?_)
  refine lv_goto (tgt := 5) S.1 S.2.1 dX1_fillRestCosts_47 (by decide) ?_
  refine lv_iload_n S.1 S.2.1 dX1_fillRestCosts_5 rfl (lv_at hl 0 rfl) ?_
  refine lv_if_lt (tgt := 50) S.1 S.2.1 dX1_fillRestCosts_6 (by decide) (fun _ => ?_) (fun c => absurd (by decide) c)
  exact fx_vret S hr hlocks () hG trivial dX1_fillRestCosts_50
theorem k1227_X7_changeCost {n : Nat} (hn : N0 + 231 ≤ n) (h0 : F (N0 + 150) = some (.inr (7, [.ref (N0 + 151), .ref (N0 + 152), .ref (N0 + 153), .ref (N0 + 154), .ref (N0 + 155), .ref (N0 + 156), .int 1]))) (h1 : F (N0 + 151) = some (.inl (cC, 20, .inl (upd (fun _ => 0) 0 97)))) (h2 : F (N0 + 143) = some (.inr (7, [.ref (N0 + 144), .ref (N0 + 145), .ref (N0 + 146), .ref (N0 + 147), .ref (N0 + 148), .ref (N0 + 149), .int 1]))) (h3 : F (N0 + 144) = some (.inl (cC, 20, .inl (upd (fun _ => 0) 0 97)))) (h4 : F (N0 + 153) = some (.inl (cI, 20, .inl (fun _ => 0)))) (h5 : F (N0 + 146) = some (.inl (cI, 20, .inl (fun _ => 0)))) : Met l yX7_changeCost wsX7_changeCost ({ frames := 0, cells := 0, slots := 0, locals := 0 }) (va_Pc [.ref (N0 + 150), .int 0, .ref (N0 + 143), .int 0] (fP N0 D vwCl (fty cI cC cL cD cII cTr cTm cIt cB) (fen ql) F n)) (fQi N0 D vwCl (fty cI cC cL cD cII cTr cTm cIt cB) (fun (r : Int32) (_ : Unit) => r = 0) (fun _ => F) (fun _ => n)) 0 0 (fA N0) := by
  refine fx_start 5 rfl rfl (Nat.le_of_ble_eq_true rfl) ?_ rfl
  intro p e s m below meth c ls S hr hlocks hin hG hl
  have hl : lv_has ls 5 [(0, .ref (N0 + 150)), (1, .int 0), (2, .ref (N0 + 143)), (3, .int 0)] := hl
  have lt_h0 := hG.1.lt h0
  have lt_h1 := hG.1.lt h1
  have lt_h2 := hG.1.lt h2
  have lt_h3 := hG.1.lt h3
  have lt_h4 := hG.1.lt h4
  have lt_h5 := hG.1.lt h5
  refine lv_iconst (v := 0) S.1 S.2.1 dX7_changeCost_0 (by decide) ?_
  refine lv_istore (lv' := [(4, .int 0), (0, .ref (N0 + 150)), (1, .int 0), (2, .ref (N0 + 143)), (3, .int 0)]) S.1 S.2.1 dX7_changeCost_1 hl (by decide) rfl (fun ls hl => ?_)
  refine lv_aload_n S.1 S.2.1 dX7_changeCost_3 rfl (lv_at hl 1 rfl) ?_
  refine gx_get (C := RX5) (T := TX5) (N := 7) S hG h0 i_X7_changeCost_X5 rfl 0 (by decide) (by decide +kernel) rfl dX7_changeCost_4 ?_
  refine lv_iload_n S.1 S.2.1 dX7_changeCost_7 rfl (lv_at hl 2 rfl) ?_
  refine gx_cald (v := 97) S hG 1 h1 rfl (fin_l (by decide)) (by decide) dX7_changeCost_8 ?_
  refine lv_aload_n S.1 S.2.1 dX7_changeCost_9 rfl (lv_at hl 3 rfl) ?_
  refine gx_get (C := RX5) (T := TX5) (N := 7) S hG h2 i_X7_changeCost_X5 rfl 0 (by decide) (by decide +kernel) rfl dX7_changeCost_10 ?_
  refine lv_iload_n S.1 S.2.1 dX7_changeCost_13 rfl (lv_at hl 4 rfl) ?_
  refine gx_cald (v := 97) S hG 1 h3 rfl (fin_l (by decide)) (by decide) dX7_changeCost_14 ?_
  refine lv_icmp_eq (tgt := 21) S.1 S.2.1 dX7_changeCost_15 (by decide) (fun _ => ?_) (fun c => absurd (by decide) c)
  refine lv_aload_n S.1 S.2.1 dX7_changeCost_21 rfl (lv_at hl 1 rfl) ?_
  refine gx_get (C := RX5) (T := TX5) (N := 7) S hG h0 i_X7_changeCost_X5 rfl 2 (by decide) (by decide +kernel) rfl dX7_changeCost_22 ?_
  refine lv_iload_n S.1 S.2.1 dX7_changeCost_25 rfl (lv_at hl 2 rfl) ?_
  refine gx_iald (v := 0) S hG 0 h4 rfl (fin_l (by decide)) (by decide) dX7_changeCost_26 ?_
  refine lv_aload_n S.1 S.2.1 dX7_changeCost_27 rfl (lv_at hl 3 rfl) ?_
  refine gx_get (C := RX5) (T := TX5) (N := 7) S hG h2 i_X7_changeCost_X5 rfl 2 (by decide) (by decide +kernel) rfl dX7_changeCost_28 ?_
  refine lv_iload_n S.1 S.2.1 dX7_changeCost_31 rfl (lv_at hl 4 rfl) ?_
  refine gx_iald (v := 0) S hG 0 h5 rfl (fin_l (by decide)) (by decide) dX7_changeCost_32 ?_
  refine lv_icmp_eq (tgt := 39) S.1 S.2.1 dX7_changeCost_33 (by decide) (fun _ => ?_) (fun c => absurd (by decide) c)
  refine lv_iload S.1 S.2.1 dX7_changeCost_39 (lv_at hl 0 rfl) ?_
  exact fx_iret S hr hlocks () hG (rfl) dX7_changeCost_41
set_option maxHeartbeats 16000000 in
theorem k1228_X1_leastCost {n : Nat} (hn : N0 + 231 ≤ n) (h0 : F (N0 + 13) = some (.inr (3, [.ref (N0 + 14), .ref (N0 + 35), .ref (N0 + 57), .ref (N0 + 58), .ref (N0 + 59), .ref (N0 + 60), .int 0, .int 0, .ref (N0 + 61), .ref (N0 + 62)]))) (h1 : F (N0 + 150) = some (.inr (7, [.ref (N0 + 151), .ref (N0 + 152), .ref (N0 + 153), .ref (N0 + 154), .ref (N0 + 155), .ref (N0 + 156), .int 1]))) (h2 : F (N0 + 57) = some (.inl (cI, 20, .inl (fun _ => 0)))) (h3 : F (N0 + 143) = some (.inr (7, [.ref (N0 + 144), .ref (N0 + 145), .ref (N0 + 146), .ref (N0 + 147), .ref (N0 + 148), .ref (N0 + 149), .int 1]))) (h4 : F (N0 + 58) = some (.inl (cI, 20, .inl (fun _ => 0)))) (h5 : F (N0 + 35) = some (.inl (cII, 21, .inr (.inr (.inr (.inr (fun j => if j < 21 then some ((N0 + 36) + j) else none))))))) (h6 : F (N0 + 36) = some (.inl (cI, 21, .inl (fun _ => 0)))) (h7 : F (N0 + 14) = some (.inl (cII, 20, .inr (.inr (.inr (.inr (fun j => if j < 20 then some ((N0 + 15) + j) else none))))))) (h8 : F (N0 + 151) = some (.inl (cC, 20, .inl (upd (fun _ => 0) 0 97)))) (h9 : F (N0 + 144) = some (.inl (cC, 20, .inl (upd (fun _ => 0) 0 97)))) (h10 : F (N0 + 153) = some (.inl (cI, 20, .inl (fun _ => 0)))) (h11 : F (N0 + 146) = some (.inl (cI, 20, .inl (fun _ => 0)))) (h12 : F (N0 + 15) = some (.inl (cI, 20, .inl (fun _ => 0)))) : Met l yX1_leastCost wsX1_leastCost ({ frames := 2, cells := 0, slots := 0, locals := 49 }) (va_Pc [.ref (N0 + 13), .ref (N0 + 150), .ref (N0 + 143)] (fP N0 D vwCl (fty cI cC cL cD cII cTr cTm cIt cB) (fen ql) F n)) (fQi N0 D vwCl (fty cI cC cL cD cII cTr cTm cIt cB) (fun (r : Int32) (_ : Unit) => r = 0) (fun _ => (fu (fu (fu (fu (fu F (N0 + 57) (.inl (cI, 20, .inl (upd (fun _ => 0) 0 1)))) (N0 + 58) (.inl (cI, 20, .inl (upd (fun _ => 0) 0 1)))) (N0 + 13) (.inr (3, [.ref (N0 + 14), .ref (N0 + 35), .ref (N0 + 57), .ref (N0 + 58), .ref (N0 + 59), .ref (N0 + 60), .int 0, .int 0, .ref (N0 + 61), .ref (N0 + 62)]))) (N0 + 36) (.inl (cI, 21, .inl (upd (fun _ => 0) 0 0)))) (N0 + 15) (.inl (cI, 20, .inl (upd (fun _ => 0) 0 0))))) (fun _ => n)) 0 0 (fA N0) := by
  refine fx_start 5 rfl rfl (Nat.le_of_ble_eq_true rfl) ?_ rfl
  intro p e s m below meth c ls S hr hlocks hin hG hl
  have hl : lv_has ls 5 [(0, .ref (N0 + 13)), (1, .ref (N0 + 150)), (2, .ref (N0 + 143))] := hl
  have lt_h0 := hG.1.lt h0
  have lt_h1 := hG.1.lt h1
  have lt_h2 := hG.1.lt h2
  have lt_h3 := hG.1.lt h3
  have lt_h4 := hG.1.lt h4
  have lt_h5 := hG.1.lt h5
  have lt_h6 := hG.1.lt h6
  have lt_h7 := hG.1.lt h7
  have lt_h8 := hG.1.lt h8
  have lt_h9 := hG.1.lt h9
  have lt_h10 := hG.1.lt h10
  have lt_h11 := hG.1.lt h11
  have lt_h12 := hG.1.lt h12
  refine lv_aload_n S.1 S.2.1 dX1_leastCost_0 rfl (lv_at hl 1 rfl) ?_
  refine lv_aload_n S.1 S.2.1 dX1_leastCost_1 rfl (lv_at hl 0 rfl) ?_
  refine gx_get (C := RX1) (T := TX1) (N := 10) S hG h0 i_X1_leastCost_X1 rfl 2 (by decide) (by decide +kernel) rfl dX1_leastCost_2 ?_
  refine fx_cVv (As := [.ref (N0 + 57)]) (rest := []) S hG (k1223_X5_listWidths (by omega) h1 h2) h1 rfl (cwV 1 S.2.2.2.2 gX1_leastCost_X5_listWidths rfl rfl rfl (by decide +kernel) ⟨Nat.le_of_ble_eq_true rfl, Nat.le_of_ble_eq_true rfl⟩) rfl hl.1 rfl (Nat.le_of_ble_eq_true rfl) dX1_leastCost_5 ⟨Nat.le_of_ble_eq_true rfl, Nat.le_of_ble_eq_true rfl⟩ (fun _ H locs hp hG => ?_)
  refine lv_aload_n S.1 S.2.1 dX1_leastCost_8 rfl (lv_at hl 2 rfl) ?_
  refine lv_aload_n S.1 S.2.1 dX1_leastCost_9 rfl (lv_at hl 0 rfl) ?_
  refine gx_get (C := RX1) (T := TX1) (N := 10) S hG (fu_at (by omega) h0) i_X1_leastCost_X1 rfl 3 (by decide) (by decide +kernel) rfl dX1_leastCost_10 ?_
  refine fx_cVv (As := [.ref (N0 + 58)]) (rest := []) S hG (k1183_X5_listWidths (by omega) (fu_at (by omega) h3) (fu_at (by omega) h4)) (fu_at (by omega) h3) rfl (cwV 1 S.2.2.2.2 gX1_leastCost_X5_listWidths rfl rfl rfl (by decide +kernel) ⟨Nat.le_of_ble_eq_true rfl, Nat.le_of_ble_eq_true rfl⟩) rfl hl.1 rfl (Nat.le_of_ble_eq_true rfl) dX1_leastCost_13 ⟨Nat.le_of_ble_eq_true rfl, Nat.le_of_ble_eq_true rfl⟩ (fun _ H locs hp hG => ?_)
  refine lv_aload_n S.1 S.2.1 dX1_leastCost_16 rfl (lv_at hl 1 rfl) ?_
  refine gx_get (C := RX5) (T := TX5) (N := 7) S hG (fu_at (by omega) (fu_at (by omega) h1)) i_X1_leastCost_X5 rfl 6 (by decide) (by decide +kernel) rfl dX1_leastCost_17 ?_
  refine lv_iconst (v := 1) S.1 S.2.1 dX1_leastCost_20 (by decide) ?_
  refine lv_isub S.1 S.2.1 dX1_leastCost_21 ?_
  refine fx_topi (y := 0) (by decide) ?_
  refine lv_istore_n (lv' := [(3, .int 0), (0, .ref (N0 + 13)), (1, .ref (N0 + 150)), (2, .ref (N0 + 143))]) S.1 S.2.1 dX1_leastCost_22 rfl hl (by decide) rfl (fun ls hl => ?_)
  refine lv_iload_n S.1 S.2.1 dX1_leastCost_23 rfl (lv_at hl 0 rfl) ?_
  refine lv_if_lt (tgt := 111) S.1 S.2.1 dX1_leastCost_24 (by decide) (fun c => absurd c (by decide)) (fun _ => ?_)
  refine lv_aload_n S.1 S.2.1 dX1_leastCost_27 rfl (lv_at hl 1 rfl) ?_
  refine lv_aload_n S.1 S.2.1 dX1_leastCost_28 rfl (lv_at hl 2 rfl) ?_
  refine lv_iload_n S.1 S.2.1 dX1_leastCost_29 rfl (lv_at hl 0 rfl) ?_
  refine lv_aload_n S.1 S.2.1 dX1_leastCost_30 rfl (lv_at hl 1 rfl) ?_
  refine gx_get (C := RX1) (T := TX1) (N := 10) S hG (fu_at (by omega) (fu_at (by omega) h0)) i_X1_leastCost_X1 rfl 4 (by decide) (by decide +kernel) rfl dX1_leastCost_31 ?_
  refine fx_cVi (As := [.int 0, .ref (N0 + 59)]) (rest := [.ref (N0 + 13)]) S hG (k1224_X5_listChildren (by omega) (fu_at (by omega) (fu_at (by omega) h1))) (fu_at (by omega) (fu_at (by omega) h1)) rfl (cwV 2 S.2.2.2.2 gX1_leastCost_X5_listChildren rfl rfl rfl (by decide +kernel) ⟨Nat.le_of_ble_eq_true rfl, Nat.le_of_ble_eq_true rfl⟩) rfl hl.1 rfl (Nat.le_of_ble_eq_true rfl) dX1_leastCost_34 ⟨Nat.le_of_ble_eq_true rfl, Nat.le_of_ble_eq_true rfl⟩ (fun rv_3 _ H locs hp hG => ?_)
  subst rv_3
  refine gx_put (C := RX1) (T := TX1) (N := 10) (ty := .int) (v := .int 0) (fs' := [.ref (N0 + 14), .ref (N0 + 35), .ref (N0 + 57), .ref (N0 + 58), .ref (N0 + 59), .ref (N0 + 60), .int 0, .int 0, .ref (N0 + 61), .ref (N0 + 62)]) S hG (fu_at (by omega) (fu_at (by omega) h0)) i_X1_leastCost_X1 rfl 6 (by decide) tyX1 tyX1_ok nmX1 (by decide +kernel) rfl (by decide +kernel) rfl rfl (Nat.le_of_ble_eq_true rfl) rfl dX1_leastCost_37 (fun H locs hG => ?_)
  refine lv_aload_n S.1 S.2.1 dX1_leastCost_40 rfl (lv_at hl 3 rfl) ?_
  refine gx_get (C := RX5) (T := TX5) (N := 7) S hG (fu_at (by omega) (fu_at (by omega) (fu_at (by omega) h3))) i_X1_leastCost_X5 rfl 6 (by decide) (by decide +kernel) rfl dX1_leastCost_41 ?_
  refine lv_iconst (v := 1) S.1 S.2.1 dX1_leastCost_44 (by decide) ?_
  refine lv_isub S.1 S.2.1 dX1_leastCost_45 ?_
  refine fx_topi (y := 0) (by decide) ?_
  refine lv_istore (lv' := [(4, .int 0), (3, .int 0), (0, .ref (N0 + 13)), (1, .ref (N0 + 150)), (2, .ref (N0 + 143))]) S.1 S.2.1 dX1_leastCost_46 hl (by decide) rfl (fun ls hl => ?_)
  refine lv_iload S.1 S.2.1 dX1_leastCost_48 (lv_at hl 0 rfl) ?_
  refine lv_if_lt (tgt := 105) S.1 S.2.1 dX1_leastCost_50 (by decide) (fun c => absurd c (by decide)) (fun _ => ?_)
  refine lv_aload_n S.1 S.2.1 dX1_leastCost_53 rfl (lv_at hl 2 rfl) ?_
  refine lv_aload_n S.1 S.2.1 dX1_leastCost_54 rfl (lv_at hl 4 rfl) ?_
  refine lv_iload S.1 S.2.1 dX1_leastCost_55 (lv_at hl 0 rfl) ?_
  refine lv_aload_n S.1 S.2.1 dX1_leastCost_57 rfl (lv_at hl 2 rfl) ?_
  refine gx_get (C := RX1) (T := TX1) (N := 10) S hG fu_s i_X1_leastCost_X1 rfl 5 (by decide) (by decide +kernel) rfl dX1_leastCost_58 ?_
  refine fx_cVi (As := [.int 0, .ref (N0 + 60)]) (rest := [.ref (N0 + 13)]) S hG (k1185_X5_listChildren (by omega) (fu_at (by omega) (fu_at (by omega) (fu_at (by omega) h3)))) (fu_at (by omega) (fu_at (by omega) (fu_at (by omega) h3))) rfl (cwV 2 S.2.2.2.2 gX1_leastCost_X5_listChildren rfl rfl rfl (by decide +kernel) ⟨Nat.le_of_ble_eq_true rfl, Nat.le_of_ble_eq_true rfl⟩) rfl hl.1 rfl (Nat.le_of_ble_eq_true rfl) dX1_leastCost_61 ⟨Nat.le_of_ble_eq_true rfl, Nat.le_of_ble_eq_true rfl⟩ (fun rv_4 _ H locs hp hG => ?_)
  subst rv_4
  refine gx_put (C := RX1) (T := TX1) (N := 10) (ty := .int) (v := .int 0) (fs' := [.ref (N0 + 14), .ref (N0 + 35), .ref (N0 + 57), .ref (N0 + 58), .ref (N0 + 59), .ref (N0 + 60), .int 0, .int 0, .ref (N0 + 61), .ref (N0 + 62)]) S hG fu_s i_X1_leastCost_X1 rfl 7 (by decide) tyX1 tyX1_ok nmX1 (by decide +kernel) rfl (by decide +kernel) rfl rfl (Nat.le_of_ble_eq_true rfl) rfl dX1_leastCost_64 (fun H locs hG => ?_)
  refine lv_aload_n S.1 S.2.1 dX1_leastCost_67 rfl (lv_at hl 2 rfl) ?_
  refine lv_aload_n S.1 S.2.1 dX1_leastCost_68 rfl (lv_at hl 3 rfl) ?_
  refine lv_aload_n S.1 S.2.1 dX1_leastCost_69 rfl (lv_at hl 4 rfl) ?_
  refine fx_cVv (As := [.ref (N0 + 150), .ref (N0 + 143)]) (rest := []) S hG (k1226_X1_fillRestCosts (by omega) fu_s (fu_at (by omega) (fu_at (by omega) (fu_at (by omega) (fu_at (by omega) h5)))) (fu_at (by omega) (fu_at (by omega) (fu_at (by omega) (fu_at (by omega) h6))))) fu_s rfl (cwV 2 S.2.2.2.2 gX1_leastCost_X1_fillRestCosts rfl rfl rfl (by decide +kernel) ⟨Nat.le_of_ble_eq_true rfl, Nat.le_of_ble_eq_true rfl⟩) rfl hl.1 rfl (Nat.le_of_ble_eq_true rfl) dX1_leastCost_70 ⟨Nat.le_of_ble_eq_true rfl, Nat.le_of_ble_eq_true rfl⟩ (fun _ H locs hp hG => ?_)
  refine lv_aload_n S.1 S.2.1 dX1_leastCost_73 rfl (lv_at hl 2 rfl) ?_
  refine gx_get (C := RX1) (T := TX1) (N := 10) S hG (fu_at (by omega) fu_s) i_X1_leastCost_X1 rfl 0 (by decide) (by decide +kernel) rfl dX1_leastCost_74 ?_
  refine lv_iload_n S.1 S.2.1 dX1_leastCost_77 rfl (lv_at hl 1 rfl) ?_
  refine gx_aldq (x := (N0 + 15)) S hG 4 rfl (fu_at (by omega) (fu_at (by omega) (fu_at (by omega) (fu_at (by omega) (fu_at (by omega) h7))))) rfl (fin_l (by decide)) (rfl) dX1_leastCost_78 ?_
  refine lv_iload S.1 S.2.1 dX1_leastCost_79 (lv_at hl 0 rfl) ?_
  refine lv_aload_n S.1 S.2.1 dX1_leastCost_81 rfl (lv_at hl 3 rfl) ?_
  refine lv_iload_n S.1 S.2.1 dX1_leastCost_82 rfl (lv_at hl 1 rfl) ?_
  refine lv_aload_n S.1 S.2.1 dX1_leastCost_83 rfl (lv_at hl 4 rfl) ?_
  refine lv_iload S.1 S.2.1 dX1_leastCost_84 (lv_at hl 0 rfl) ?_
  refine fx_cSNi (host := "TreeDiffer") (As := [.ref (N0 + 150), .int 0, .ref (N0 + 143), .int 0]) (rest := [.int 0, .ref (N0 + 15)]) S hG (k1227_X7_changeCost (by omega) (fu_at (by omega) (fu_at (by omega) (fu_at (by omega) (fu_at (by omega) (fu_at (by omega) h1))))) (fu_at (by omega) (fu_at (by omega) (fu_at (by omega) (fu_at (by omega) (fu_at (by omega) h8))))) (fu_at (by omega) (fu_at (by omega) (fu_at (by omega) (fu_at (by omega) (fu_at (by omega) h3))))) (fu_at (by omega) (fu_at (by omega) (fu_at (by omega) (fu_at (by omega) (fu_at (by omega) h9))))) (fu_at (by omega) (fu_at (by omega) (fu_at (by omega) (fu_at (by omega) (fu_at (by omega) h10))))) (fu_at (by omega) (fu_at (by omega) (fu_at (by omega) (fu_at (by omega) (fu_at (by omega) h11)))))) ⟨(va_cnB 4 S.2.2.2.2 gX1_leastCost_X7_changeCost_n62 rfl rfl rfl (hG.nest (show _ ∈ fen2.2.2.1 from by decide)) (S.2.2.2.2 (.initialized RX7) (by decide +kernel)) (by decide +kernel) ⟨Nat.le_of_ble_eq_true rfl, Nat.le_of_ble_eq_true rfl⟩), S.2.2.2.2 (.static yX7_changeCost) (by decide +kernel), trivial⟩ rfl hl.1 rfl (Nat.le_of_ble_eq_true rfl) dX1_leastCost_86 ⟨Nat.le_of_ble_eq_true rfl, Nat.le_of_ble_eq_true rfl⟩ (fun rv_6 _ H locs hp hG => ?_)
  subst rv_6
  refine lv_aload_n S.1 S.2.1 dX1_leastCost_89 rfl (lv_at hl 2 rfl) ?_
  refine gx_get (C := RX1) (T := TX1) (N := 10) S hG (fu_at (by omega) fu_s) i_X1_leastCost_X1 rfl 1 (by decide) (by decide +kernel) rfl dX1_leastCost_90 ?_
  refine lv_iconst (v := 0) S.1 S.2.1 dX1_leastCost_93 (by decide) ?_
  refine gx_aldq (x := (N0 + 36)) S hG 4 rfl (fu_at (by omega) (fu_at (by omega) (fu_at (by omega) (fu_at (by omega) (fu_at (by omega) h5))))) rfl (fin_l (by decide)) (rfl) dX1_leastCost_94 ?_
  refine lv_iconst (v := 0) S.1 S.2.1 dX1_leastCost_95 (by decide) ?_
  refine gx_iald (v := 0) S hG 0 fu_s rfl (fin_l (by decide)) (by decide) dX1_leastCost_96 ?_
  refine lv_iadd S.1 S.2.1 dX1_leastCost_97 ?_
  refine fx_topi (y := 0) (by decide) ?_
  refine gx_iast (f' := upd (fun _ => 0) 0 0) S hG 0 (fu_at (by omega) (fu_at (by omega) (fu_at (by omega) (fu_at (by omega) (fu_at (by omega) h12))))) rfl (fin_l (by decide)) dX1_leastCost_98 (rfl) (fun H locs hG => ?_)
  refine lv_iinc (v := (-1)) (lv' := [(4, .int (-1)), (3, .int 0), (0, .ref (N0 + 13)), (1, .ref (N0 + 150)), (2, .ref (N0 + 143))]) S.1 S.2.1 dX1_leastCost_99 hl (k := 0) rfl (by decide) (by decide) rfl (fun ls hl => ?_)
  refine lv_goto (tgt := 48) S.1 S.2.1 dX1_leastCost_102 (by decide) ?_
  refine lv_iload S.1 S.2.1 dX1_leastCost_48 (lv_at hl 0 rfl) ?_
  refine lv_if_lt (tgt := 105) S.1 S.2.1 dX1_leastCost_50 (by decide) (fun _ => ?_) (fun c => absurd (by decide) c)
  refine lv_iinc (v := (-1)) (lv' := [(3, .int (-1)), (4, .int (-1)), (0, .ref (N0 + 13)), (1, .ref (N0 + 150)), (2, .ref (N0 + 143))]) S.1 S.2.1 dX1_leastCost_105 hl (k := 1) rfl (by decide) (by decide) rfl (fun ls hl => ?_)
  refine lv_goto (tgt := 23) S.1 S.2.1 dX1_leastCost_108 (by decide) ?_
  refine lv_iload_n S.1 S.2.1 dX1_leastCost_23 rfl (lv_at hl 0 rfl) ?_
  refine lv_if_lt (tgt := 111) S.1 S.2.1 dX1_leastCost_24 (by decide) (fun _ => ?_) (fun c => absurd (by decide) c)
  refine lv_aload_n S.1 S.2.1 dX1_leastCost_111 rfl (lv_at hl 2 rfl) ?_
  refine gx_get (C := RX1) (T := TX1) (N := 10) S hG (fu_at (by omega) (fu_at (by omega) fu_s)) i_X1_leastCost_X1 rfl 0 (by decide) (by decide +kernel) rfl dX1_leastCost_112 ?_
  refine lv_iconst (v := 0) S.1 S.2.1 dX1_leastCost_115 (by decide) ?_
  refine gx_aldq (x := (N0 + 15)) S hG 4 rfl (fu_at (by omega) (fu_at (by omega) (fu_at (by omega) (fu_at (by omega) (fu_at (by omega) (fu_at (by omega) h7)))))) rfl (fin_l (by decide)) (rfl) dX1_leastCost_116 ?_
  refine lv_iconst (v := 0) S.1 S.2.1 dX1_leastCost_117 (by decide) ?_
  refine gx_iald (v := 0) S hG 0 fu_s rfl (fin_l (by decide)) (by decide) dX1_leastCost_118 ?_
  have hG : fG N0 D vwCl (fty cI cC cL cD cII cTr cTm cIt cB) (fen ql) s (fu (fu (fu (fu (fu F (N0 + 57) (.inl (cI, 20, .inl (upd (fun _ => 0) 0 1)))) (N0 + 58) (.inl (cI, 20, .inl (upd (fun _ => 0) 0 1)))) (N0 + 13) (.inr (3, [.ref (N0 + 14), .ref (N0 + 35), .ref (N0 + 57), .ref (N0 + 58), .ref (N0 + 59), .ref (N0 + 60), .int 0, .int 0, .ref (N0 + 61), .ref (N0 + 62)]))) (N0 + 36) (.inl (cI, 21, .inl (upd (fun _ => 0) 0 0)))) (N0 + 15) (.inl (cI, 20, .inl (upd (fun _ => 0) 0 0)))) n H locs := hG.weak (fun a e h => by
    rcases fu_cases h with ⟨rfl, he⟩ | ⟨hne0, h⟩
    · cases he; exact fu_s
    · skip
      rcases fu_cases h with ⟨rfl, he⟩ | ⟨hne1, h⟩
      · cases he; exact (fu_at (by omega) fu_s)
      · skip
        rcases fu_cases h with ⟨rfl, he⟩ | ⟨hne2, h⟩
        · cases he; exact (fu_at (by omega) (fu_at (by omega) fu_s))
        · skip
          rcases fu_cases h with ⟨rfl, he⟩ | ⟨hne3, h⟩
          · cases he; exact (fu_at (by omega) (fu_at (by omega) (fu_at (by omega) (fu_at (by omega) fu_s))))
          · skip
            rcases fu_cases h with ⟨rfl, he⟩ | ⟨hne4, h⟩
            · cases he; exact (fu_at (by omega) (fu_at (by omega) (fu_at (by omega) (fu_at (by omega) (fu_at (by omega) fu_s)))))
            · exact (fu_at (by omega) (fu_at (by omega) (fu_at (by omega) (fu_at (by omega) (fu_at (by omega) (fu_at (by omega) h)))))))
  exact fx_iret S hr hlocks () hG (rfl) dX1_leastCost_119
theorem k1229_X7_distance {n : Nat} (hn : N0 + 231 ≤ n) (h0 : F N0 = some (.inr (9, [.ref (N0 + 1), .ref (N0 + 2), .ref (N0 + 11), .ref (N0 + 13), .ref (N0 + 63), .ref (N0 + 65), .ref (N0 + 85), .int (-1), .int (-1), .int 32]))) (h1 : F (N0 + 1) = some (.inl (cTr, 3, .inr (.inr (.inr (.inr (va_up (va_up (va_up (fun _ => none) 0 (some (N0 + 143))) 1 (some (N0 + 150))) 2 (some (N0 + 157))))))))) (h2 : F (N0 + 13) = some (.inr (3, [.ref (N0 + 14), .ref (N0 + 35), .ref (N0 + 57), .ref (N0 + 58), .ref (N0 + 59), .ref (N0 + 60), .int 0, .int 0, .ref (N0 + 61), .ref (N0 + 62)]))) (h3 : F (N0 + 150) = some (.inr (7, [.ref (N0 + 151), .ref (N0 + 152), .ref (N0 + 153), .ref (N0 + 154), .ref (N0 + 155), .ref (N0 + 156), .int 1]))) (h4 : F (N0 + 57) = some (.inl (cI, 20, .inl (fun _ => 0)))) (h5 : F (N0 + 143) = some (.inr (7, [.ref (N0 + 144), .ref (N0 + 145), .ref (N0 + 146), .ref (N0 + 147), .ref (N0 + 148), .ref (N0 + 149), .int 1]))) (h6 : F (N0 + 58) = some (.inl (cI, 20, .inl (fun _ => 0)))) (h7 : F (N0 + 35) = some (.inl (cII, 21, .inr (.inr (.inr (.inr (fun j => if j < 21 then some ((N0 + 36) + j) else none))))))) (h8 : F (N0 + 36) = some (.inl (cI, 21, .inl (fun _ => 0)))) (h9 : F (N0 + 14) = some (.inl (cII, 20, .inr (.inr (.inr (.inr (fun j => if j < 20 then some ((N0 + 15) + j) else none))))))) (h10 : F (N0 + 151) = some (.inl (cC, 20, .inl (upd (fun _ => 0) 0 97)))) (h11 : F (N0 + 144) = some (.inl (cC, 20, .inl (upd (fun _ => 0) 0 97)))) (h12 : F (N0 + 153) = some (.inl (cI, 20, .inl (fun _ => 0)))) (h13 : F (N0 + 146) = some (.inl (cI, 20, .inl (fun _ => 0)))) (h14 : F (N0 + 15) = some (.inl (cI, 20, .inl (fun _ => 0)))) : Met l yX7_distance wsX7_distance ({ frames := 3, cells := 0, slots := 0, locals := 73 }) (va_Pc [.ref N0, .int 1, .int 0] (fP N0 D vwCl (fty cI cC cL cD cII cTr cTm cIt cB) (fen ql) F n)) (fQi N0 D vwCl (fty cI cC cL cD cII cTr cTm cIt cB) (fun (r : Int32) (_ : Unit) => r = 0) (fun _ => (fu (fu (fu (fu (fu F (N0 + 57) (.inl (cI, 20, .inl (upd (fun _ => 0) 0 1)))) (N0 + 58) (.inl (cI, 20, .inl (upd (fun _ => 0) 0 1)))) (N0 + 13) (.inr (3, [.ref (N0 + 14), .ref (N0 + 35), .ref (N0 + 57), .ref (N0 + 58), .ref (N0 + 59), .ref (N0 + 60), .int 0, .int 0, .ref (N0 + 61), .ref (N0 + 62)]))) (N0 + 36) (.inl (cI, 21, .inl (upd (fun _ => 0) 0 0)))) (N0 + 15) (.inl (cI, 20, .inl (upd (fun _ => 0) 0 0))))) (fun _ => n)) 0 0 (fA N0) := by
  refine fx_start 5 rfl rfl (Nat.le_of_ble_eq_true rfl) ?_ rfl
  intro p e s m below meth c ls S hr hlocks hin hG hl
  have hl : lv_has ls 5 [(0, .ref N0), (1, .int 1), (2, .int 0)] := hl
  have lt_h0 := hG.1.lt h0
  have lt_h1 := hG.1.lt h1
  have lt_h2 := hG.1.lt h2
  have lt_h3 := hG.1.lt h3
  have lt_h4 := hG.1.lt h4
  have lt_h5 := hG.1.lt h5
  have lt_h6 := hG.1.lt h6
  have lt_h7 := hG.1.lt h7
  have lt_h8 := hG.1.lt h8
  have lt_h9 := hG.1.lt h9
  have lt_h10 := hG.1.lt h10
  have lt_h11 := hG.1.lt h11
  have lt_h12 := hG.1.lt h12
  have lt_h13 := hG.1.lt h13
  have lt_h14 := hG.1.lt h14
  refine lv_aload_n S.1 S.2.1 dX7_distance_0 rfl (lv_at hl 0 rfl) ?_
  refine lv_iload_n S.1 S.2.1 dX7_distance_1 rfl (lv_at hl 1 rfl) ?_
  refine fx_cVr (As := [.int 1]) (rest := []) S hG (k42_X7_treeAt (by omega) h0 h1) h0 rfl (cwV 1 S.2.2.2.2 gX7_distance_X7_treeAt rfl rfl rfl (by decide +kernel) ⟨Nat.le_of_ble_eq_true rfl, Nat.le_of_ble_eq_true rfl⟩) rfl hl.1 rfl (Nat.le_of_ble_eq_true rfl) dX7_distance_2 ⟨Nat.le_of_ble_eq_true rfl, Nat.le_of_ble_eq_true rfl⟩ (fun rv_1 _ H locs hp hG => ?_)
  subst rv_1
  refine lv_astore_n (lv' := [(3, .ref (N0 + 150)), (0, .ref N0), (1, .int 1), (2, .int 0)]) S.1 S.2.1 dX7_distance_5 rfl hl (by decide) rfl (fun ls hl => ?_)
  refine lv_aload_n S.1 S.2.1 dX7_distance_6 rfl (lv_at hl 1 rfl) ?_
  refine lv_iload_n S.1 S.2.1 dX7_distance_7 rfl (lv_at hl 3 rfl) ?_
  refine fx_cVr (As := [.int 0]) (rest := []) S hG (k26_X7_treeAt (by omega) h0 h1) h0 rfl (cwV 1 S.2.2.2.2 gX7_distance_X7_treeAt rfl rfl rfl (by decide +kernel) ⟨Nat.le_of_ble_eq_true rfl, Nat.le_of_ble_eq_true rfl⟩) rfl hl.1 rfl (Nat.le_of_ble_eq_true rfl) dX7_distance_8 ⟨Nat.le_of_ble_eq_true rfl, Nat.le_of_ble_eq_true rfl⟩ (fun rv_2 _ H locs hp hG => ?_)
  subst rv_2
  refine lv_astore (lv' := [(4, .ref (N0 + 143)), (3, .ref (N0 + 150)), (0, .ref N0), (1, .int 1), (2, .int 0)]) S.1 S.2.1 dX7_distance_11 hl (by decide) rfl (fun ls hl => ?_)
  refine lv_aload_n S.1 S.2.1 dX7_distance_13 rfl (lv_at hl 2 rfl) ?_
  refine gx_get (C := RX7) (T := TX7) (N := 10) S hG h0 i_X7_distance_X7 rfl 3 (by decide) (by decide +kernel) rfl dX7_distance_14 ?_
  refine lv_aload_n S.1 S.2.1 dX7_distance_17 rfl (lv_at hl 1 rfl) ?_
  refine lv_aload S.1 S.2.1 dX7_distance_18 (lv_at hl 0 rfl) ?_
  refine fx_cVi (As := [.ref (N0 + 150), .ref (N0 + 143)]) (rest := []) S hG (k1228_X1_leastCost (by omega) h2 h3 h4 h5 h6 h7 h8 h9 h10 h11 h12 h13 h14) h2 rfl (cwV 2 S.2.2.2.2 gX7_distance_X1_leastCost rfl rfl rfl (by decide +kernel) ⟨Nat.le_of_ble_eq_true rfl, Nat.le_of_ble_eq_true rfl⟩) rfl hl.1 rfl (Nat.le_of_ble_eq_true rfl) dX7_distance_20 ⟨Nat.le_of_ble_eq_true rfl, Nat.le_of_ble_eq_true rfl⟩ (fun rv_3 _ H locs hp hG => ?_)
  subst rv_3
  exact fx_iret S hr hlocks () hG (rfl) dX7_distance_23
theorem k1230_L_distance {n : Nat} (hn : N0 + 231 ≤ n) (h0 : F N0 = some (.inr (9, [.ref (N0 + 1), .ref (N0 + 2), .ref (N0 + 11), .ref (N0 + 13), .ref (N0 + 63), .ref (N0 + 65), .ref (N0 + 85), .int (-1), .int (-1), .int 32]))) (h1 : F (N0 + 1) = some (.inl (cTr, 3, .inr (.inr (.inr (.inr (va_up (va_up (va_up (fun _ => none) 0 (some (N0 + 143))) 1 (some (N0 + 150))) 2 (some (N0 + 157))))))))) (h2 : F (N0 + 13) = some (.inr (3, [.ref (N0 + 14), .ref (N0 + 35), .ref (N0 + 57), .ref (N0 + 58), .ref (N0 + 59), .ref (N0 + 60), .int 0, .int 0, .ref (N0 + 61), .ref (N0 + 62)]))) (h3 : F (N0 + 150) = some (.inr (7, [.ref (N0 + 151), .ref (N0 + 152), .ref (N0 + 153), .ref (N0 + 154), .ref (N0 + 155), .ref (N0 + 156), .int 1]))) (h4 : F (N0 + 57) = some (.inl (cI, 20, .inl (fun _ => 0)))) (h5 : F (N0 + 143) = some (.inr (7, [.ref (N0 + 144), .ref (N0 + 145), .ref (N0 + 146), .ref (N0 + 147), .ref (N0 + 148), .ref (N0 + 149), .int 1]))) (h6 : F (N0 + 58) = some (.inl (cI, 20, .inl (fun _ => 0)))) (h7 : F (N0 + 35) = some (.inl (cII, 21, .inr (.inr (.inr (.inr (fun j => if j < 21 then some ((N0 + 36) + j) else none))))))) (h8 : F (N0 + 36) = some (.inl (cI, 21, .inl (fun _ => 0)))) (h9 : F (N0 + 14) = some (.inl (cII, 20, .inr (.inr (.inr (.inr (fun j => if j < 20 then some ((N0 + 15) + j) else none))))))) (h10 : F (N0 + 151) = some (.inl (cC, 20, .inl (upd (fun _ => 0) 0 97)))) (h11 : F (N0 + 144) = some (.inl (cC, 20, .inl (upd (fun _ => 0) 0 97)))) (h12 : F (N0 + 153) = some (.inl (cI, 20, .inl (fun _ => 0)))) (h13 : F (N0 + 146) = some (.inl (cI, 20, .inl (fun _ => 0)))) (h14 : F (N0 + 15) = some (.inl (cI, 20, .inl (fun _ => 0)))) (h15 : F (N0 + 229) = some (.inl (cL, 1, .inr (.inl (fun _ => 0))))) : Met l yL_distance wsL_distance ({ frames := 4, cells := 0, slots := 0, locals := 97 }) (va_Pc [.ref N0, .int 1, .int 0, .ref (N0 + 229)] (fP N0 D vwCl (fty cI cC cL cD cII cTr cTm cIt cB) (fen ql) F n)) (fQi N0 D vwCl (fty cI cC cL cD cII cTr cTm cIt cB) (fun (r : Int32) (_ : Unit) => r = 0) (fun _ => (fu (fu (fu (fu (fu (fu F (N0 + 57) (.inl (cI, 20, .inl (upd (fun _ => 0) 0 1)))) (N0 + 58) (.inl (cI, 20, .inl (upd (fun _ => 0) 0 1)))) (N0 + 13) (.inr (3, [.ref (N0 + 14), .ref (N0 + 35), .ref (N0 + 57), .ref (N0 + 58), .ref (N0 + 59), .ref (N0 + 60), .int 0, .int 0, .ref (N0 + 61), .ref (N0 + 62)]))) (N0 + 36) (.inl (cI, 21, .inl (upd (fun _ => 0) 0 0)))) (N0 + 15) (.inl (cI, 20, .inl (upd (fun _ => 0) 0 0)))) (N0 + 229) (.inl (cL, 1, .inr (.inl (vp_updL (fun _ => 0) 0 0)))))) (fun _ => n)) 0 0 (fA N0) := by
  refine fx_startW (hh := [(0, 10, 13, 19)]) 5 rfl rfl (Nat.le_of_ble_eq_true rfl) ?_ rfl
  intro p e s m below meth c ls S htab hr hlocks hG hl
  have hl : lv_has ls 5 [(0, .ref N0), (1, .int 1), (2, .int 0), (3, .ref (N0 + 229))] := hl
  have lt_h0 := hG.1.lt h0
  have lt_h1 := hG.1.lt h1
  have lt_h2 := hG.1.lt h2
  have lt_h3 := hG.1.lt h3
  have lt_h4 := hG.1.lt h4
  have lt_h5 := hG.1.lt h5
  have lt_h6 := hG.1.lt h6
  have lt_h7 := hG.1.lt h7
  have lt_h8 := hG.1.lt h8
  have lt_h9 := hG.1.lt h9
  have lt_h10 := hG.1.lt h10
  have lt_h11 := hG.1.lt h11
  have lt_h12 := hG.1.lt h12
  have lt_h13 := hG.1.lt h13
  have lt_h14 := hG.1.lt h14
  have lt_h15 := hG.1.lt h15
  refine lv_aload_n S.1 S.2.1 dL_distance_0 rfl (lv_at hl 3 rfl) ?_
  refine lv_iconst (v := 0) S.1 S.2.1 dL_distance_1 (by decide) ?_
  refine lv_aload_n S.1 S.2.1 dL_distance_2 rfl (lv_at hl 0 rfl) ?_
  refine lv_iload_n S.1 S.2.1 dL_distance_3 rfl (lv_at hl 1 rfl) ?_
  refine lv_iload_n S.1 S.2.1 dL_distance_4 rfl (lv_at hl 2 rfl) ?_
  refine fx_cVi (As := [.int 1, .int 0]) (rest := [.int 0, .ref (N0 + 229)]) S hG (k1229_X7_distance (by omega) h0 h1 h2 h3 h4 h5 h6 h7 h8 h9 h10 h11 h12 h13 h14) h0 rfl (cwV 2 S.2.2.2.2 gL_distance_X7_distance rfl rfl rfl (by decide +kernel) ⟨Nat.le_of_ble_eq_true rfl, Nat.le_of_ble_eq_true rfl⟩) rfl hl.1 rfl (Nat.le_of_ble_eq_true rfl) dL_distance_5 ⟨Nat.le_of_ble_eq_true rfl, Nat.le_of_ble_eq_true rfl⟩ (fun rv_1 _ H locs hp hG => ?_)
  subst rv_1
  refine lv_i2l (v := 0) S.1 S.2.1 dL_distance_8 (by decide) ?_
  refine gx_last (f' := vp_updL (fun _ => 0) 0 0) S hG 2 (fu_at (by omega) (fu_at (by omega) (fu_at (by omega) (fu_at (by omega) (fu_at (by omega) h15))))) rfl (fin_l (by decide)) dL_distance_9 rfl (fun H locs hG => ?_)
  refine lv_goto (tgt := 17) S.1 S.2.1 dL_distance_10 (by decide) ?_
  refine lv_iconst (v := 0) S.1 S.2.1 dL_distance_17 (by decide) ?_
  exact fx_iret S hr hlocks () hG (rfl) dL_distance_18
theorem k1231_X10_left {n b1 : Nat} (hn : N0 + 231 ≤ n) (hb1 : N0 + 231 ≤ b1) (h0 : F b1 = some (.inl (cI, 0, .inl (fun _ => 0)))) (h1 : F (b1 + 1) = some (.inl (cI, 0, .inl (fun _ => 0)))) : Met l yX10_left wsX10_left ({ frames := 0, cells := 2, slots := 2, locals := 0 }) (va_Pc [.ref (N0 + 164), .ref (N0 + 171), .ref b1, .ref (N0 + 166), .ref (b1 + 1)] (fP N0 D vwCl (fty cI cC cL cD cII cTr cTm cIt cB) (fen ql) F n)) (fQr N0 D vwCl (fty cI cC cL cD cII cTr cTm cIt cB) (fun (r : Nat) (_ : Unit) => r = n) (fun _ => (fblk F n [.inl (cII, 1, .inr (.inr (.inr (.inr (fun j => if j < 1 then some ((n + 1) + j) else none))))), .inl (cI, 1, .inl (fun _ => 0))])) (fun _ => (n + 2))) 2 2 (fA N0) := by
  refine fx_start 9 rfl rfl (Nat.le_of_ble_eq_true rfl) ?_ rfl
  intro p e s m below meth c ls S hr hlocks hin hG hl
  have hl : lv_has ls 9 [(0, .ref (N0 + 164)), (1, .ref (N0 + 171)), (2, .ref b1), (3, .ref (N0 + 166)), (4, .ref (b1 + 1))] := hl
  have lt_h0 := hG.1.lt h0
  have lt_h1 := hG.1.lt h1
  refine lv_aload_n S.1 S.2.1 dX10_left_0 rfl (lv_at hl 2 rfl) ?_
  refine gx_alen (v := 0) S hG 0 h0 rfl (rfl) dX10_left_1 ?_
  refine lv_iconst (v := 1) S.1 S.2.1 dX10_left_2 (by decide) ?_
  refine lv_iadd S.1 S.2.1 dX10_left_3 ?_
  refine fx_topi (y := 1) (by decide) ?_
  refine lv_aload S.1 S.2.1 dX10_left_4 (lv_at hl 4 rfl) ?_
  refine gx_alen (v := 0) S hG 0 h1 rfl (rfl) dX10_left_6 ?_
  refine lv_iconst (v := 1) S.1 S.2.1 dX10_left_7 (by decide) ?_
  refine lv_iadd S.1 S.2.1 dX10_left_8 ?_
  refine fx_topi (y := 1) (by decide) ?_
  refine gx_mna (N' := 1) (K' := 1) S hG (by decide +kernel) (by decide +kernel) 0 4 rfl rfl (by decide) (by decide) (by decide) (by decide) (by decide) (by decide) (by decide) (by decide) dX10_left_9 (fun H hG => ?_)
  refine W.widen (k := 2) (n := 2) (by decide) (by decide) ?_
  refine lv_astore (lv' := [(5, .ref n), (0, .ref (N0 + 164)), (1, .ref (N0 + 171)), (2, .ref b1), (3, .ref (N0 + 166)), (4, .ref (b1 + 1))]) S.1 S.2.1 dX10_left_13 hl (by decide) rfl (fun ls hl => ?_)
  refine lv_aload_n S.1 S.2.1 dX10_left_15 rfl (lv_at hl 3 rfl) ?_
  refine gx_alen (v := 0) S hG 0 (fblk_sk 1 rfl (by omega) (fu_at (by omega) h0)) rfl (rfl) dX10_left_16 ?_
  refine lv_istore (lv' := [(6, .int 0), (5, .ref n), (0, .ref (N0 + 164)), (1, .ref (N0 + 171)), (2, .ref b1), (3, .ref (N0 + 166)), (4, .ref (b1 + 1))]) S.1 S.2.1 dX10_left_17 hl (by decide) rfl (fun ls hl => ?_)
  refine lv_iload S.1 S.2.1 dX10_left_19 (lv_at hl 0 rfl) ?_
  refine lv_if_lt (tgt := 228) S.1 S.2.1 dX10_left_21 (by decide) (fun c => absurd c (by decide)) (fun _ => ?_)
  refine lv_aload S.1 S.2.1 dX10_left_24 (lv_at hl 6 rfl) ?_
  refine gx_alen (v := 0) S hG 0 (fblk_sk 1 rfl (by omega) (fu_at (by omega) h1)) rfl (rfl) dX10_left_26 ?_
  refine lv_istore (lv' := [(7, .int 0), (6, .int 0), (5, .ref n), (0, .ref (N0 + 164)), (1, .ref (N0 + 171)), (2, .ref b1), (3, .ref (N0 + 166)), (4, .ref (b1 + 1))]) S.1 S.2.1 dX10_left_27 hl (by decide) rfl (fun ls hl => ?_)
  refine lv_iload S.1 S.2.1 dX10_left_29 (lv_at hl 0 rfl) ?_
  refine lv_if_lt (tgt := 222) S.1 S.2.1 dX10_left_31 (by decide) (fun c => absurd c (by decide)) (fun _ => ?_)
  refine lv_iload S.1 S.2.1 dX10_left_34 (lv_at hl 1 rfl) ?_
  refine lv_aload_n S.1 S.2.1 dX10_left_36 rfl (lv_at hl 5 rfl) ?_
  refine gx_alen (v := 0) S hG 0 (fblk_sk 1 rfl (by omega) (fu_at (by omega) h0)) rfl (rfl) dX10_left_37 ?_
  refine lv_icmp_ne (tgt := 52) S.1 S.2.1 dX10_left_38 (by decide) (fun c => absurd (by decide) c) (fun _ => ?_)
  refine lv_iload S.1 S.2.1 dX10_left_41 (lv_at hl 0 rfl) ?_
  refine lv_aload S.1 S.2.1 dX10_left_43 (lv_at hl 7 rfl) ?_
  refine gx_alen (v := 0) S hG 0 (fblk_sk 1 rfl (by omega) (fu_at (by omega) h1)) rfl (rfl) dX10_left_45 ?_
  refine lv_icmp_ne (tgt := 52) S.1 S.2.1 dX10_left_46 (by decide) (fun c => absurd (by decide) c) (fun _ => ?_)
  refine lv_goto (tgt := 216) S.1 S.2.1 dX10_left_49 (by decide) ?_
  refine lv_iinc (v := (-1)) (lv' := [(7, .int (-1)), (6, .int 0), (5, .ref n), (0, .ref (N0 + 164)), (1, .ref (N0 + 171)), (2, .ref b1), (3, .ref (N0 + 166)), (4, .ref (b1 + 1))]) S.1 S.2.1 dX10_left_216 hl (k := 0) rfl (by decide) (by decide) rfl (fun ls hl => ?_)
  refine lv_goto (tgt := 29) S.1 S.2.1 dX10_left_219 (by decide) ?_
  refine lv_iload S.1 S.2.1 dX10_left_29 (lv_at hl 0 rfl) ?_
  refine lv_if_lt (tgt := 222) S.1 S.2.1 dX10_left_31 (by decide) (fun _ => ?_) (fun c => absurd (by decide) c)
  refine lv_iinc (v := (-1)) (lv' := [(6, .int (-1)), (7, .int (-1)), (5, .ref n), (0, .ref (N0 + 164)), (1, .ref (N0 + 171)), (2, .ref b1), (3, .ref (N0 + 166)), (4, .ref (b1 + 1))]) S.1 S.2.1 dX10_left_222 hl (k := 1) rfl (by decide) (by decide) rfl (fun ls hl => ?_)
  refine lv_goto (tgt := 19) S.1 S.2.1 dX10_left_225 (by decide) ?_
  refine lv_iload S.1 S.2.1 dX10_left_19 (lv_at hl 0 rfl) ?_
  refine lv_if_lt (tgt := 228) S.1 S.2.1 dX10_left_21 (by decide) (fun _ => ?_) (fun c => absurd (by decide) c)
  refine lv_aload S.1 S.2.1 dX10_left_228 (lv_at hl 2 rfl) ?_
  have hG : fG N0 D vwCl (fty cI cC cL cD cII cTr cTm cIt cB) (fen ql) s (fblk F n [.inl (cII, 1, .inr (.inr (.inr (.inr (fun j => if j < 1 then some ((n + 1) + j) else none))))), .inl (cI, 1, .inl (fun _ => 0))]) (n + 2) H _ := hG.weak (fun a e h => by
    rcases fblk_cases 2 rfl h with ⟨k, rfl, hlt, hk⟩ | ⟨hout, h⟩
    · rcases (show k = 0 ∨ k = 1 by omega) with rfl | rfl
      · cases (show some (.inl (cII, 1, .inr (.inr (.inr (.inr (fun j => if j < 1 then some ((n + 1) + j) else none)))))) = some e from hk); exact (fblk_sk 1 rfl (by omega) fu_s)
      · cases (show some (.inl (cI, 1, .inl (fun _ => 0))) = some e from hk); exact (fblk_at 0 (by omega) rfl)
    · exact (fblk_sk 1 rfl (by omega) (fu_at (by omega) h)))
  exact fx_aret S hr (Or.inr ⟨_, rfl⟩) hlocks () hG (rfl) dX10_left_230
set_option maxHeartbeats 16000000 in
theorem k1232_X10_fills {n : Nat} (hn : N0 + 231 ≤ n) (h0 : F (N0 + 171) = some (.inr (11, [.ref (N0 + 172), .ref (N0 + 173), .ref (N0 + 174), .ref (N0 + 175), .int 1]))) (h1 : F (N0 + 166) = some (.inr (11, [.ref (N0 + 167), .ref (N0 + 168), .ref (N0 + 169), .ref (N0 + 170), .int 1]))) (h2 : F (N0 + 172) = some (.inl (cI, 20, .inl (upd (fun _ => 0) 0 97)))) (h3 : F (N0 + 167) = some (.inl (cI, 20, .inl (upd (fun _ => 0) 0 97)))) (h4 : F (N0 + 174) = some (.inl (cI, 20, .inl (upd (fun _ => 0) 0 0)))) (h5 : F (N0 + 169) = some (.inl (cI, 20, .inl (upd (fun _ => 0) 0 0)))) (h6 : F (N0 + 164) = some (.inr (12, [.ref (N0 + 165), .int 0, .ref (N0 + 181), .int 0, .int 0, .int 0, .int (-1), .ref (ql 24), .ref (N0 + 182), .ref (N0 + 187), .ref (N0 + 208), .ref (N0 + 209), .ref (N0 + 210), .ref (N0 + 211), .ref (N0 + 212), .int 0, .ref (N0 + 213), .ref (N0 + 218), .ref (N0 + 223), .ref (N0 + 224), .ref (N0 + 225), .ref (N0 + 226), .ref (N0 + 227), .int 0, .int 0, .ref (N0 + 228), .null, .int (-1), .int 0, .int 0, .int 0]))) (h7 : F (N0 + 187) = some (.inl (cII, 20, .inr (.inr (.inr (.inr (fun j => if j < 20 then some ((N0 + 188) + j) else none))))))) (h8 : F (N0 + 188) = some (.inl (cI, 20, .inl (fun _ => 0)))) : Met l yX10_fills wsX10_fills ({ frames := 2, cells := 4, slots := 2, locals := 47 }) (va_Pc [.ref (N0 + 164), .ref (N0 + 171), .ref (N0 + 166)] (fP N0 D vwCl (fty cI cC cL cD cII cTr cTm cIt cB) (fen ql) F n)) (fQi N0 D vwCl (fty cI cC cL cD cII cTr cTm cIt cB) (fun (r : Int32) (_ : Unit) => r = 0) (fun _ => (fblk (fu F (N0 + 188) (.inl (cI, 20, .inl (upd (fun _ => 0) 0 0)))) n [.inl (cI, 0, .inl (fun _ => 0)), .inl (cI, 0, .inl (fun _ => 0)), .inl (cII, 1, .inr (.inr (.inr (.inr (fun j => if j < 1 then some ((n + 3) + j) else none))))), .inl (cI, 1, .inl (fun _ => 0))])) (fun _ => (n + 4))) 4 2 (fA N0) := by
  refine fx_start 6 rfl rfl (Nat.le_of_ble_eq_true rfl) ?_ rfl
  intro p e s m below meth c ls S hr hlocks hin hG hl
  have hl : lv_has ls 6 [(0, .ref (N0 + 164)), (1, .ref (N0 + 171)), (2, .ref (N0 + 166))] := hl
  have lt_h0 := hG.1.lt h0
  have lt_h1 := hG.1.lt h1
  have lt_h2 := hG.1.lt h2
  have lt_h3 := hG.1.lt h3
  have lt_h4 := hG.1.lt h4
  have lt_h5 := hG.1.lt h5
  have lt_h6 := hG.1.lt h6
  have lt_h7 := hG.1.lt h7
  have lt_h8 := hG.1.lt h8
  refine lv_aload_n S.1 S.2.1 dX10_fills_0 rfl (lv_at hl 1 rfl) ?_
  refine gx_getN (C := RX9) (T := TX9) (N := 5) S hG h0 i_X10_fills_X9 rfl 4 (by decide) (List.mem_of_getElem? (i := 4) rfl) rfl dX10_fills_1 ?_
  refine lv_iconst (v := 1) S.1 S.2.1 dX10_fills_4 (by decide) ?_
  refine lv_isub S.1 S.2.1 dX10_fills_5 ?_
  refine fx_topi (y := 0) (by decide) ?_
  refine lv_istore_n (lv' := [(3, .int 0), (0, .ref (N0 + 164)), (1, .ref (N0 + 171)), (2, .ref (N0 + 166))]) S.1 S.2.1 dX10_fills_6 rfl hl (by decide) rfl (fun ls hl => ?_)
  refine lv_iload_n S.1 S.2.1 dX10_fills_7 rfl (lv_at hl 0 rfl) ?_
  refine lv_if_lt (tgt := 114) S.1 S.2.1 dX10_fills_8 (by decide) (fun c => absurd c (by decide)) (fun _ => ?_)
  refine lv_aload_n S.1 S.2.1 dX10_fills_11 rfl (lv_at hl 3 rfl) ?_
  refine gx_getN (C := RX9) (T := TX9) (N := 5) S hG h1 i_X10_fills_X9 rfl 4 (by decide) (List.mem_of_getElem? (i := 4) rfl) rfl dX10_fills_12 ?_
  refine lv_iconst (v := 1) S.1 S.2.1 dX10_fills_15 (by decide) ?_
  refine lv_isub S.1 S.2.1 dX10_fills_16 ?_
  refine fx_topi (y := 0) (by decide) ?_
  refine lv_istore (lv' := [(4, .int 0), (3, .int 0), (0, .ref (N0 + 164)), (1, .ref (N0 + 171)), (2, .ref (N0 + 166))]) S.1 S.2.1 dX10_fills_17 hl (by decide) rfl (fun ls hl => ?_)
  refine lv_iload S.1 S.2.1 dX10_fills_19 (lv_at hl 0 rfl) ?_
  refine lv_if_lt (tgt := 108) S.1 S.2.1 dX10_fills_21 (by decide) (fun c => absurd c (by decide)) (fun _ => ?_)
  refine lv_aload_n S.1 S.2.1 dX10_fills_24 rfl (lv_at hl 3 rfl) ?_
  refine gx_getN (C := RX9) (T := TX9) (N := 5) S hG h0 i_X10_fills_X9 rfl 0 (by decide) (List.mem_of_getElem? (i := 1) rfl) rfl dX10_fills_25 ?_
  refine lv_iload_n S.1 S.2.1 dX10_fills_28 rfl (lv_at hl 1 rfl) ?_
  refine gx_iald (v := 97) S hG 0 h2 rfl (fin_l (by decide)) (by decide) dX10_fills_29 ?_
  refine lv_aload_n S.1 S.2.1 dX10_fills_30 rfl (lv_at hl 4 rfl) ?_
  refine gx_getN (C := RX9) (T := TX9) (N := 5) S hG h1 i_X10_fills_X9 rfl 0 (by decide) (List.mem_of_getElem? (i := 1) rfl) rfl dX10_fills_31 ?_
  refine lv_iload S.1 S.2.1 dX10_fills_34 (lv_at hl 0 rfl) ?_
  refine gx_iald (v := 97) S hG 0 h3 rfl (fin_l (by decide)) (by decide) dX10_fills_36 ?_
  refine lv_icmp_ne (tgt := 44) S.1 S.2.1 dX10_fills_37 (by decide) (fun c => absurd (by decide) c) (fun _ => ?_)
  refine lv_iconst (v := 0) S.1 S.2.1 dX10_fills_40 (by decide) ?_
  refine lv_goto (tgt := 45) S.1 S.2.1 dX10_fills_41 (by decide) ?_
  refine lv_aload_n S.1 S.2.1 dX10_fills_45 rfl (lv_at hl 3 rfl) ?_
  refine gx_getN (C := RX9) (T := TX9) (N := 5) S hG h0 i_X10_fills_X9 rfl 2 (by decide) (List.mem_of_getElem? (i := 3) rfl) rfl dX10_fills_46 ?_
  refine lv_iload_n S.1 S.2.1 dX10_fills_49 rfl (lv_at hl 1 rfl) ?_
  refine gx_iald (v := 0) S hG 0 h4 rfl (fin_l (by decide)) (by decide) dX10_fills_50 ?_
  refine lv_aload_n S.1 S.2.1 dX10_fills_51 rfl (lv_at hl 4 rfl) ?_
  refine gx_getN (C := RX9) (T := TX9) (N := 5) S hG h1 i_X10_fills_X9 rfl 2 (by decide) (List.mem_of_getElem? (i := 3) rfl) rfl dX10_fills_52 ?_
  refine lv_iload S.1 S.2.1 dX10_fills_55 (lv_at hl 0 rfl) ?_
  refine gx_iald (v := 0) S hG 0 h5 rfl (fin_l (by decide)) (by decide) dX10_fills_57 ?_
  refine lv_icmp_ne (tgt := 65) S.1 S.2.1 dX10_fills_58 (by decide) (fun c => absurd (by decide) c) (fun _ => ?_)
  refine lv_iconst (v := 0) S.1 S.2.1 dX10_fills_61 (by decide) ?_
  refine lv_goto (tgt := 66) S.1 S.2.1 dX10_fills_62 (by decide) ?_
  refine lv_iadd S.1 S.2.1 dX10_fills_66 ?_
  refine fx_topi (y := 0) (by decide) ?_
  refine lv_istore (lv' := [(5, .int 0), (4, .int 0), (3, .int 0), (0, .ref (N0 + 164)), (1, .ref (N0 + 171)), (2, .ref (N0 + 166))]) S.1 S.2.1 dX10_fills_67 hl (by decide) rfl (fun ls hl => ?_)
  refine lv_aload_n S.1 S.2.1 dX10_fills_69 rfl (lv_at hl 3 rfl) ?_
  refine gx_get (C := RX10) (T := TX10) (N := 31) S hG h6 i_X10_fills_X10 rfl 9 (by decide) (by decide +kernel) rfl dX10_fills_70 ?_
  refine lv_iload_n S.1 S.2.1 dX10_fills_73 rfl (lv_at hl 2 rfl) ?_
  refine gx_aldq (x := (N0 + 188)) S hG 4 rfl h7 rfl (fin_l (by decide)) (rfl) dX10_fills_74 ?_
  refine lv_iload S.1 S.2.1 dX10_fills_75 (lv_at hl 1 rfl) ?_
  refine lv_iload S.1 S.2.1 dX10_fills_77 (lv_at hl 0 rfl) ?_
  refine lv_aload_n S.1 S.2.1 dX10_fills_79 rfl (lv_at hl 3 rfl) ?_
  refine lv_aload_n S.1 S.2.1 dX10_fills_80 rfl (lv_at hl 4 rfl) ?_
  refine lv_aload_n S.1 S.2.1 dX10_fills_81 rfl (lv_at hl 4 rfl) ?_
  refine lv_iload_n S.1 S.2.1 dX10_fills_82 rfl (lv_at hl 2 rfl) ?_
  refine fx_cVNr (host := "TreeDifferModel") (As := [.int 0]) (rest := [.ref (N0 + 171), .ref (N0 + 164), .int 0, .int 0, .ref (N0 + 188)]) S hG (k151_X9_kids (by omega) h0) h0 rfl ⟨(va_cnB 1 S.2.2.2.2 gX10_fills_X9_kids_n173 rfl rfl rfl (hG.nest (show _ ∈ fen2.2.2.1 from by decide)) (S.2.2.2.2 (.initialized RX9) (by decide +kernel)) (by decide +kernel) ⟨Nat.le_of_ble_eq_true rfl, Nat.le_of_ble_eq_true rfl⟩), S.2.2.2.2 (.instanceMethod yX9_kids) (by decide +kernel), S.2.2.2.2 (.selects RX9 yX9_kids yX9_kids) (by decide +kernel)⟩ rfl hl.1 rfl (Nat.le_of_ble_eq_true rfl) dX10_fills_83 ⟨Nat.le_of_ble_eq_true rfl, Nat.le_of_ble_eq_true rfl⟩ (fun rv_1 _ H locs hp hG => ?_)
  subst rv_1
  refine W.widen (k := 1) (n := 0) (by decide) (by decide) ?_
  refine lv_aload_n S.1 S.2.1 dX10_fills_86 rfl (lv_at hl 5 rfl) ?_
  refine lv_aload_n S.1 S.2.1 dX10_fills_87 rfl (lv_at hl 5 rfl) ?_
  refine lv_iload S.1 S.2.1 dX10_fills_88 (lv_at hl 1 rfl) ?_
  refine fx_cVNr (host := "TreeDifferModel") (As := [.int 0]) (rest := [.ref (N0 + 166), .ref n, .ref (N0 + 171), .ref (N0 + 164), .int 0, .int 0, .ref (N0 + 188)]) S hG (k89_X9_kids (by omega) (fblk_sk 1 rfl (by omega) h1)) (fblk_sk 1 rfl (by omega) h1) rfl ⟨(va_cnB 1 S.2.2.2.2 gX10_fills_X9_kids_n173 rfl rfl rfl (hG.nest (show _ ∈ fen2.2.2.1 from by decide)) (S.2.2.2.2 (.initialized RX9) (by decide +kernel)) (by decide +kernel) ⟨Nat.le_of_ble_eq_true rfl, Nat.le_of_ble_eq_true rfl⟩), S.2.2.2.2 (.instanceMethod yX9_kids) (by decide +kernel), S.2.2.2.2 (.selects RX9 yX9_kids yX9_kids) (by decide +kernel)⟩ rfl hl.1 rfl (Nat.le_of_ble_eq_true rfl) dX10_fills_90 ⟨Nat.le_of_ble_eq_true rfl, Nat.le_of_ble_eq_true rfl⟩ (fun rv_2 _ H locs hp hG => ?_)
  subst rv_2
  refine W.widen (k := 2) (n := 0) (by decide) (by decide) ?_
  refine fx_cVr (As := [.ref (N0 + 171), .ref n, .ref (N0 + 166), .ref (n + 1)]) (rest := [.int 0, .int 0, .ref (N0 + 188)]) S hG (k1231_X10_left (by omega) (by omega) (fblk_sk 1 rfl (by omega) (fblk_at 0 (by omega) rfl)) (fblk_at 0 (by omega) rfl)) (fblk_sk 1 rfl (by omega) (fblk_sk 1 rfl (by omega) h6)) rfl (cwV 4 S.2.2.2.2 gX10_fills_X10_left rfl rfl rfl (by decide +kernel) ⟨Nat.le_of_ble_eq_true rfl, Nat.le_of_ble_eq_true rfl⟩) rfl hl.1 rfl (Nat.le_of_ble_eq_true rfl) dX10_fills_93 ⟨Nat.le_of_ble_eq_true rfl, Nat.le_of_ble_eq_true rfl⟩ (fun rv_3 _ H locs hp hG => ?_)
  subst rv_3
  refine W.widen (k := 4) (n := 2) (by decide) (by decide) ?_
  refine lv_iconst (v := 0) S.1 S.2.1 dX10_fills_96 (by decide) ?_
  refine gx_aldq (x := (n + 3)) S hG 4 rfl (fblk_at 0 (by omega) rfl) rfl (fin_l (by decide)) (rfl) dX10_fills_97 ?_
  refine lv_iconst (v := 0) S.1 S.2.1 dX10_fills_98 (by decide) ?_
  refine gx_iald (v := 0) S hG 0 (fblk_at 1 (by omega) rfl) rfl (fin_l (by decide)) (by decide) dX10_fills_99 ?_
  refine lv_iadd S.1 S.2.1 dX10_fills_100 ?_
  refine fx_topi (y := 0) (by decide) ?_
  refine gx_iast (f' := upd (fun _ => 0) 0 0) S hG 0 (fblk_sk 2 rfl (by omega) (fblk_sk 1 rfl (by omega) (fblk_sk 1 rfl (by omega) h8))) rfl (fin_l (by decide)) dX10_fills_101 (rfl) (fun H locs hG => ?_)
  refine lv_iinc (v := (-1)) (lv' := [(4, .int (-1)), (5, .int 0), (3, .int 0), (0, .ref (N0 + 164)), (1, .ref (N0 + 171)), (2, .ref (N0 + 166))]) S.1 S.2.1 dX10_fills_102 hl (k := 1) rfl (by decide) (by decide) rfl (fun ls hl => ?_)
  refine lv_goto (tgt := 19) S.1 S.2.1 dX10_fills_105 (by decide) ?_
  refine lv_iload S.1 S.2.1 dX10_fills_19 (lv_at hl 0 rfl) ?_
  refine lv_if_lt (tgt := 108) S.1 S.2.1 dX10_fills_21 (by decide) (fun _ => ?_) (fun c => absurd (by decide) c)
  refine lv_iinc (v := (-1)) (lv' := [(3, .int (-1)), (4, .int (-1)), (5, .int 0), (0, .ref (N0 + 164)), (1, .ref (N0 + 171)), (2, .ref (N0 + 166))]) S.1 S.2.1 dX10_fills_108 hl (k := 2) rfl (by decide) (by decide) rfl (fun ls hl => ?_)
  refine lv_goto (tgt := 7) S.1 S.2.1 dX10_fills_111 (by decide) ?_
  refine lv_iload_n S.1 S.2.1 dX10_fills_7 rfl (lv_at hl 0 rfl) ?_
  refine lv_if_lt (tgt := 114) S.1 S.2.1 dX10_fills_8 (by decide) (fun _ => ?_) (fun c => absurd (by decide) c)
  refine lv_aload_n S.1 S.2.1 dX10_fills_114 rfl (lv_at hl 3 rfl) ?_
  refine gx_get (C := RX10) (T := TX10) (N := 31) S hG (fu_at (by omega) (fblk_sk 2 rfl (by omega) (fblk_sk 1 rfl (by omega) (fblk_sk 1 rfl (by omega) h6)))) i_X10_fills_X10 rfl 9 (by decide) (by decide +kernel) rfl dX10_fills_115 ?_
  refine lv_iconst (v := 0) S.1 S.2.1 dX10_fills_118 (by decide) ?_
  refine gx_aldq (x := (N0 + 188)) S hG 4 rfl (fu_at (by omega) (fblk_sk 2 rfl (by omega) (fblk_sk 1 rfl (by omega) (fblk_sk 1 rfl (by omega) h7)))) rfl (fin_l (by decide)) (rfl) dX10_fills_119 ?_
  refine lv_iconst (v := 0) S.1 S.2.1 dX10_fills_120 (by decide) ?_
  refine gx_iald (v := 0) S hG 0 fu_s rfl (fin_l (by decide)) (by decide) dX10_fills_121 ?_
  have hG : fG N0 D vwCl (fty cI cC cL cD cII cTr cTm cIt cB) (fen ql) s (fblk (fu F (N0 + 188) (.inl (cI, 20, .inl (upd (fun _ => 0) 0 0)))) n [.inl (cI, 0, .inl (fun _ => 0)), .inl (cI, 0, .inl (fun _ => 0)), .inl (cII, 1, .inr (.inr (.inr (.inr (fun j => if j < 1 then some ((n + 3) + j) else none))))), .inl (cI, 1, .inl (fun _ => 0))]) (n + 4) H locs := hG.weak (fun a e h => by
    rcases fblk_cases 4 rfl h with ⟨k, rfl, hlt, hk⟩ | ⟨hout, h⟩
    · rcases (show k = 0 ∨ k = 1 ∨ k = 2 ∨ k = 3 by omega) with rfl | rfl | rfl | rfl
      · cases (show some (.inl (cI, 0, .inl (fun _ => 0))) = some e from hk); exact (fu_at (by omega) (fblk_sk 2 rfl (by omega) (fblk_sk 1 rfl (by omega) (fblk_at 0 (by omega) rfl))))
      · cases (show some (.inl (cI, 0, .inl (fun _ => 0))) = some e from hk); exact (fu_at (by omega) (fblk_sk 2 rfl (by omega) (fblk_at 0 (by omega) rfl)))
      · cases (show some (.inl (cII, 1, .inr (.inr (.inr (.inr (fun j => if j < 1 then some ((n + 3) + j) else none)))))) = some e from hk); exact (fu_at (by omega) (fblk_at 0 (by omega) rfl))
      · cases (show some (.inl (cI, 1, .inl (fun _ => 0))) = some e from hk); exact (fu_at (by omega) (fblk_at 1 (by omega) rfl))
    · rcases fu_cases h with ⟨rfl, he⟩ | ⟨hne0, h⟩
      · cases he; exact fu_s
      · exact (fu_at (by omega) (fblk_sk 2 rfl (by omega) (fblk_sk 1 rfl (by omega) (fblk_sk 1 rfl (by omega) h)))))
  exact fx_iret S hr hlocks () hG (rfl) dX10_fills_122
theorem k1233_X10_distance {n : Nat} (hn : N0 + 231 ≤ n) (h0 : F (N0 + 164) = some (.inr (12, [.ref (N0 + 165), .int 0, .ref (N0 + 181), .int 0, .int 0, .int 0, .int (-1), .ref (ql 24), .ref (N0 + 182), .ref (N0 + 187), .ref (N0 + 208), .ref (N0 + 209), .ref (N0 + 210), .ref (N0 + 211), .ref (N0 + 212), .int 0, .ref (N0 + 213), .ref (N0 + 218), .ref (N0 + 223), .ref (N0 + 224), .ref (N0 + 225), .ref (N0 + 226), .ref (N0 + 227), .int 0, .int 0, .ref (N0 + 228), .null, .int (-1), .int 0, .int 0, .int 0]))) (h1 : F (N0 + 165) = some (.inl (cTm, 3, .inr (.inr (.inr (.inr (va_up (va_up (va_up (fun _ => none) 0 (some (N0 + 166))) 1 (some (N0 + 171))) 2 (some (N0 + 176))))))))) (h2 : F (N0 + 171) = some (.inr (11, [.ref (N0 + 172), .ref (N0 + 173), .ref (N0 + 174), .ref (N0 + 175), .int 1]))) (h3 : F (N0 + 166) = some (.inr (11, [.ref (N0 + 167), .ref (N0 + 168), .ref (N0 + 169), .ref (N0 + 170), .int 1]))) (h4 : F (N0 + 172) = some (.inl (cI, 20, .inl (upd (fun _ => 0) 0 97)))) (h5 : F (N0 + 167) = some (.inl (cI, 20, .inl (upd (fun _ => 0) 0 97)))) (h6 : F (N0 + 174) = some (.inl (cI, 20, .inl (upd (fun _ => 0) 0 0)))) (h7 : F (N0 + 169) = some (.inl (cI, 20, .inl (upd (fun _ => 0) 0 0)))) (h8 : F (N0 + 187) = some (.inl (cII, 20, .inr (.inr (.inr (.inr (fun j => if j < 20 then some ((N0 + 188) + j) else none))))))) (h9 : F (N0 + 188) = some (.inl (cI, 20, .inl (fun _ => 0)))) : Met l yX10_distance wsX10_distance ({ frames := 3, cells := 4, slots := 2, locals := 72 }) (va_Pc [.ref (N0 + 164), .int 1, .int 0] (fP N0 D vwCl (fty cI cC cL cD cII cTr cTm cIt cB) (fen ql) F n)) (fQi N0 D vwCl (fty cI cC cL cD cII cTr cTm cIt cB) (fun (r : Int32) (_ : Unit) => r = 0) (fun _ => (fblk (fu (fu F (N0 + 164) (.inr (12, [.ref (N0 + 165), .int 0, .ref (N0 + 181), .int 0, .int 0, .int 0, .int (-1), .ref (ql 24), .ref (N0 + 182), .ref (N0 + 187), .ref (N0 + 208), .ref (N0 + 209), .ref (N0 + 210), .ref (N0 + 211), .ref (N0 + 212), .int 0, .ref (N0 + 213), .ref (N0 + 218), .ref (N0 + 223), .ref (N0 + 224), .ref (N0 + 225), .ref (N0 + 226), .ref (N0 + 227), .int 0, .int 0, .ref (N0 + 228), .null, .int (-1), .int 0, .int 0, .int 0]))) (N0 + 188) (.inl (cI, 20, .inl (upd (fun _ => 0) 0 0)))) n [.inl (cI, 0, .inl (fun _ => 0)), .inl (cI, 0, .inl (fun _ => 0)), .inl (cII, 1, .inr (.inr (.inr (.inr (fun j => if j < 1 then some ((n + 3) + j) else none))))), .inl (cI, 1, .inl (fun _ => 0))])) (fun _ => (n + 4))) 4 2 (fA N0) := by
  refine fx_start 3 rfl rfl (Nat.le_of_ble_eq_true rfl) ?_ rfl
  intro p e s m below meth c ls S hr hlocks hin hG hl
  have hl : lv_has ls 3 [(0, .ref (N0 + 164)), (1, .int 1), (2, .int 0)] := hl
  have lt_h0 := hG.1.lt h0
  have lt_h1 := hG.1.lt h1
  have lt_h2 := hG.1.lt h2
  have lt_h3 := hG.1.lt h3
  have lt_h4 := hG.1.lt h4
  have lt_h5 := hG.1.lt h5
  have lt_h6 := hG.1.lt h6
  have lt_h7 := hG.1.lt h7
  have lt_h8 := hG.1.lt h8
  have lt_h9 := hG.1.lt h9
  refine lv_aload_n S.1 S.2.1 dX10_distance_0 rfl (lv_at hl 0 rfl) ?_
  refine lv_iload_n S.1 S.2.1 dX10_distance_1 rfl (lv_at hl 1 rfl) ?_
  refine lv_iload_n S.1 S.2.1 dX10_distance_2 rfl (lv_at hl 2 rfl) ?_
  refine fx_cVi (As := [.int 1, .int 0]) (rest := []) S hG (k492_X10_areNone (by omega) h0) h0 rfl (cwV 2 S.2.2.2.2 gX10_distance_X10_areNone rfl rfl rfl (by decide +kernel) ⟨Nat.le_of_ble_eq_true rfl, Nat.le_of_ble_eq_true rfl⟩) rfl hl.1 rfl (Nat.le_of_ble_eq_true rfl) dX10_distance_3 ⟨Nat.le_of_ble_eq_true rfl, Nat.le_of_ble_eq_true rfl⟩ (fun rv_1 _ H locs hp hG => ?_)
  subst rv_1
  refine lv_if_eq (tgt := 13) S.1 S.2.1 dX10_distance_6 (by decide) (fun _ => ?_) (fun c => absurd (by decide) c)
  refine lv_aload_n S.1 S.2.1 dX10_distance_13 rfl (lv_at hl 0 rfl) ?_
  refine lv_aload_n S.1 S.2.1 dX10_distance_14 rfl (lv_at hl 0 rfl) ?_
  refine gx_get (C := RX10) (T := TX10) (N := 31) S hG fu_s i_X10_distance_X10 rfl 0 (by decide) (by decide +kernel) rfl dX10_distance_15 ?_
  refine lv_iload_n S.1 S.2.1 dX10_distance_18 rfl (lv_at hl 1 rfl) ?_
  refine gx_aldq (x := (N0 + 171)) S hG 6 rfl (fu_at (by omega) h1) rfl (fin_l (by decide)) (rfl) dX10_distance_19 ?_
  refine lv_aload_n S.1 S.2.1 dX10_distance_20 rfl (lv_at hl 0 rfl) ?_
  refine gx_get (C := RX10) (T := TX10) (N := 31) S hG fu_s i_X10_distance_X10 rfl 0 (by decide) (by decide +kernel) rfl dX10_distance_21 ?_
  refine lv_iload_n S.1 S.2.1 dX10_distance_24 rfl (lv_at hl 2 rfl) ?_
  refine gx_aldq (x := (N0 + 166)) S hG 6 rfl (fu_at (by omega) h1) rfl (fin_l (by decide)) (rfl) dX10_distance_25 ?_
  refine fx_cVi (As := [.ref (N0 + 171), .ref (N0 + 166)]) (rest := []) S hG (k1232_X10_fills (by omega) (fu_at (by omega) h2) (fu_at (by omega) h3) (fu_at (by omega) h4) (fu_at (by omega) h5) (fu_at (by omega) h6) (fu_at (by omega) h7) fu_s (fu_at (by omega) h8) (fu_at (by omega) h9)) fu_s rfl (cwV 2 S.2.2.2.2 gX10_distance_X10_fills rfl rfl rfl (by decide +kernel) ⟨Nat.le_of_ble_eq_true rfl, Nat.le_of_ble_eq_true rfl⟩) rfl hl.1 rfl (Nat.le_of_ble_eq_true rfl) dX10_distance_26 ⟨Nat.le_of_ble_eq_true rfl, Nat.le_of_ble_eq_true rfl⟩ (fun rv_2 _ H locs hp hG => ?_)
  subst rv_2
  refine W.widen (k := 4) (n := 2) (by decide) (by decide) ?_
  have hG : fG N0 D vwCl (fty cI cC cL cD cII cTr cTm cIt cB) (fen ql) s (fblk (fu (fu F (N0 + 164) (.inr (12, [.ref (N0 + 165), .int 0, .ref (N0 + 181), .int 0, .int 0, .int 0, .int (-1), .ref (ql 24), .ref (N0 + 182), .ref (N0 + 187), .ref (N0 + 208), .ref (N0 + 209), .ref (N0 + 210), .ref (N0 + 211), .ref (N0 + 212), .int 0, .ref (N0 + 213), .ref (N0 + 218), .ref (N0 + 223), .ref (N0 + 224), .ref (N0 + 225), .ref (N0 + 226), .ref (N0 + 227), .int 0, .int 0, .ref (N0 + 228), .null, .int (-1), .int 0, .int 0, .int 0]))) (N0 + 188) (.inl (cI, 20, .inl (upd (fun _ => 0) 0 0)))) n [.inl (cI, 0, .inl (fun _ => 0)), .inl (cI, 0, .inl (fun _ => 0)), .inl (cII, 1, .inr (.inr (.inr (.inr (fun j => if j < 1 then some ((n + 3) + j) else none))))), .inl (cI, 1, .inl (fun _ => 0))]) (n + 4) H locs := hG.weak (fun a e h => by
    rcases fblk_cases 4 rfl h with ⟨k, rfl, hlt, hk⟩ | ⟨hout, h⟩
    · rcases (show k = 0 ∨ k = 1 ∨ k = 2 ∨ k = 3 by omega) with rfl | rfl | rfl | rfl
      · cases (show some (.inl (cI, 0, .inl (fun _ => 0))) = some e from hk); exact (fblk_at 0 (by omega) rfl)
      · cases (show some (.inl (cI, 0, .inl (fun _ => 0))) = some e from hk); exact (fblk_at 1 (by omega) rfl)
      · cases (show some (.inl (cII, 1, .inr (.inr (.inr (.inr (fun j => if j < 1 then some ((n + 3) + j) else none)))))) = some e from hk); exact (fblk_at 2 (by omega) rfl)
      · cases (show some (.inl (cI, 1, .inl (fun _ => 0))) = some e from hk); exact (fblk_at 3 (by omega) rfl)
    · rcases fu_cases h with ⟨rfl, he⟩ | ⟨hne0, h⟩
      · cases he; exact (fblk_sk 4 rfl (by omega) fu_s)
      · skip
        rcases fu_cases h with ⟨rfl, he⟩ | ⟨hne1, h⟩
        · cases he; exact (fblk_sk 4 rfl (by omega) (fu_at (by omega) fu_s))
        · exact (fblk_sk 4 rfl (by omega) (fu_at (by omega) (fu_at (by omega) h))))
  exact fx_iret S hr hlocks () hG (rfl) dX10_distance_29
theorem k1234_X1_restCost {n : Nat} (hn : N0 + 231 ≤ n) (h0 : F (N0 + 13) = some (.inr (3, [.ref (N0 + 14), .ref (N0 + 35), .ref (N0 + 57), .ref (N0 + 58), .ref (N0 + 59), .ref (N0 + 60), .int 0, .int 0, .ref (N0 + 61), .ref (N0 + 62)]))) : Met l yX1_restCost wsX1_restCost ({ frames := 0, cells := 0, slots := 0, locals := 0 }) (va_Pc [.ref (N0 + 13), .ref (N0 + 150), .ref (N0 + 150), .int 0, .int 0] (fP N0 D vwCl (fty cI cC cL cD cII cTr cTm cIt cB) (fen ql) F n)) (fQi N0 D vwCl (fty cI cC cL cD cII cTr cTm cIt cB) (fun (r : Int32) (_ : Unit) => r = 0) (fun _ => F) (fun _ => n)) 0 0 (fA N0) := by
  refine fx_start 6 rfl rfl (Nat.le_of_ble_eq_true rfl) ?_ rfl
  intro p e s m below meth c ls S hr hlocks hin hG hl
  have hl : lv_has ls 6 [(0, .ref (N0 + 13)), (1, .ref (N0 + 150)), (2, .ref (N0 + 150)), (3, .int 0), (4, .int 0)] := hl
  have lt_h0 := hG.1.lt h0
  refine lv_iload_n S.1 S.2.1 dX1_restCost_0 rfl (lv_at hl 3 rfl) ?_
  refine lv_aload_n S.1 S.2.1 dX1_restCost_1 rfl (lv_at hl 0 rfl) ?_
  refine gx_get (C := RX1) (T := TX1) (N := 10) S hG h0 i_X1_restCost_X1 rfl 6 (by decide) (by decide +kernel) rfl dX1_restCost_2 ?_
  refine lv_icmp_ne (tgt := 29) S.1 S.2.1 dX1_restCost_5 (by decide) (fun c => absurd (by decide) c) (fun _ => ?_)
  refine lv_iload S.1 S.2.1 dX1_restCost_8 (lv_at hl 4 rfl) ?_
  refine lv_aload_n S.1 S.2.1 dX1_restCost_10 rfl (lv_at hl 0 rfl) ?_
  refine gx_get (C := RX1) (T := TX1) (N := 10) S hG h0 i_X1_restCost_X1 rfl 7 (by decide) (by decide +kernel) rfl dX1_restCost_11 ?_
  refine lv_icmp_ne (tgt := 21) S.1 S.2.1 dX1_restCost_14 (by decide) (fun c => absurd (by decide) c) (fun _ => ?_)
  refine lv_iconst (v := 0) S.1 S.2.1 dX1_restCost_17 (by decide) ?_
  refine lv_goto (tgt := 28) S.1 S.2.1 dX1_restCost_18 (by decide) ?_
  exact fx_iret S hr hlocks () hG (rfl) dX1_restCost_28
theorem k1235_X1_fillRestCosts {n : Nat} (hn : N0 + 231 ≤ n) (h0 : F (N0 + 13) = some (.inr (3, [.ref (N0 + 14), .ref (N0 + 35), .ref (N0 + 57), .ref (N0 + 58), .ref (N0 + 59), .ref (N0 + 60), .int 0, .int 0, .ref (N0 + 61), .ref (N0 + 62)]))) (h1 : F (N0 + 35) = some (.inl (cII, 21, .inr (.inr (.inr (.inr (fun j => if j < 21 then some ((N0 + 36) + j) else none))))))) (h2 : F (N0 + 36) = some (.inl (cI, 21, .inl (fun _ => 0)))) : Met l yX1_fillRestCosts wsX1_fillRestCosts ({ frames := 1, cells := 0, slots := 0, locals := 25 }) (va_Pc [.ref (N0 + 13), .ref (N0 + 150), .ref (N0 + 150)] (fP N0 D vwCl (fty cI cC cL cD cII cTr cTm cIt cB) (fen ql) F n)) (fQv N0 D vwCl (fty cI cC cL cD cII cTr cTm cIt cB) (fun (_ : Unit) => True) (fun _ => (fu F (N0 + 36) (.inl (cI, 21, .inl (upd (fun _ => 0) 0 0))))) (fun _ => n)) 0 0 (fA N0) := by
  refine fx_start 5 rfl rfl (Nat.le_of_ble_eq_true rfl) ?_ rfl
  intro p e s m below meth c ls S hr hlocks hin hG hl
  have hl : lv_has ls 5 [(0, .ref (N0 + 13)), (1, .ref (N0 + 150)), (2, .ref (N0 + 150))] := hl
  have lt_h0 := hG.1.lt h0
  have lt_h1 := hG.1.lt h1
  have lt_h2 := hG.1.lt h2
  refine lv_aload_n S.1 S.2.1 dX1_fillRestCosts_0 rfl (lv_at hl 0 rfl) ?_
  refine gx_get (C := RX1) (T := TX1) (N := 10) S hG h0 i_X1_fillRestCosts_X1 rfl 6 (by decide) (by decide +kernel) rfl dX1_fillRestCosts_1 ?_
  refine lv_istore_n (lv' := [(3, .int 0), (0, .ref (N0 + 13)), (1, .ref (N0 + 150)), (2, .ref (N0 + 150))]) S.1 S.2.1 dX1_fillRestCosts_4 rfl hl (by decide) rfl (fun ls hl => ?_)
  refine lv_iload_n S.1 S.2.1 dX1_fillRestCosts_5 rfl (lv_at hl 0 rfl) ?_
  refine lv_if_lt (tgt := 50) S.1 S.2.1 dX1_fillRestCosts_6 (by decide) (fun c => absurd c (by decide)) (fun _ => ?_)
  refine lv_aload_n S.1 S.2.1 dX1_fillRestCosts_9 rfl (lv_at hl 1 rfl) ?_
  refine gx_get (C := RX1) (T := TX1) (N := 10) S hG h0 i_X1_fillRestCosts_X1 rfl 7 (by decide) (by decide +kernel) rfl dX1_fillRestCosts_10 ?_
  refine lv_istore (lv' := [(4, .int 0), (3, .int 0), (0, .ref (N0 + 13)), (1, .ref (N0 + 150)), (2, .ref (N0 + 150))]) S.1 S.2.1 dX1_fillRestCosts_13 hl (by decide) rfl (fun ls hl => ?_)
  refine lv_iload S.1 S.2.1 dX1_fillRestCosts_15 (lv_at hl 0 rfl) ?_
  refine lv_if_lt (tgt := 44) S.1 S.2.1 dX1_fillRestCosts_17 (by decide) (fun c => absurd c (by decide)) (fun _ => ?_)
  refine lv_aload_n S.1 S.2.1 dX1_fillRestCosts_20 rfl (lv_at hl 2 rfl) ?_
  refine gx_get (C := RX1) (T := TX1) (N := 10) S hG h0 i_X1_fillRestCosts_X1 rfl 1 (by decide) (by decide +kernel) rfl dX1_fillRestCosts_21 ?_
  refine lv_iload_n S.1 S.2.1 dX1_fillRestCosts_24 rfl (lv_at hl 1 rfl) ?_
  refine gx_aldq (x := (N0 + 36)) S hG 4 rfl h1 rfl (fin_l (by decide)) (rfl) dX1_fillRestCosts_25 ?_
  refine lv_iload S.1 S.2.1 dX1_fillRestCosts_26 (lv_at hl 0 rfl) ?_
  refine lv_aload_n S.1 S.2.1 dX1_fillRestCosts_28 rfl (lv_at hl 2 rfl) ?_
  refine lv_aload_n S.1 S.2.1 dX1_fillRestCosts_29 rfl (lv_at hl 3 rfl) ?_
  refine lv_aload_n S.1 S.2.1 dX1_fillRestCosts_30 rfl (lv_at hl 4 rfl) ?_
  refine lv_iload_n S.1 S.2.1 dX1_fillRestCosts_31 rfl (lv_at hl 1 rfl) ?_
  refine lv_iload S.1 S.2.1 dX1_fillRestCosts_32 (lv_at hl 0 rfl) ?_
  refine fx_cVi (As := [.ref (N0 + 150), .ref (N0 + 150), .int 0, .int 0]) (rest := [.int 0, .ref (N0 + 36)]) S hG (k1234_X1_restCost (by omega) h0) h0 rfl (cwV 4 S.2.2.2.2 gX1_fillRestCosts_X1_restCost rfl rfl rfl (by decide +kernel) ⟨Nat.le_of_ble_eq_true rfl, Nat.le_of_ble_eq_true rfl⟩) rfl hl.1 rfl (Nat.le_of_ble_eq_true rfl) dX1_fillRestCosts_34 ⟨Nat.le_of_ble_eq_true rfl, Nat.le_of_ble_eq_true rfl⟩ (fun rv_1 _ H locs hp hG => ?_)
  subst rv_1
  refine gx_iast (f' := upd (fun _ => 0) 0 0) S hG 0 h2 rfl (fin_l (by decide)) dX1_fillRestCosts_37 (rfl) (fun H locs hG => ?_)
  refine lv_iinc (v := (-1)) (lv' := [(4, .int (-1)), (3, .int 0), (0, .ref (N0 + 13)), (1, .ref (N0 + 150)), (2, .ref (N0 + 150))]) S.1 S.2.1 dX1_fillRestCosts_38 hl (k := 0) rfl (by decide) (by decide) rfl (fun ls hl => ?_)
  refine lv_goto (tgt := 15) S.1 S.2.1 dX1_fillRestCosts_41 (by decide) ?_
  refine lv_iload S.1 S.2.1 dX1_fillRestCosts_15 (lv_at hl 0 rfl) ?_
  refine lv_if_lt (tgt := 44) S.1 S.2.1 dX1_fillRestCosts_17 (by decide) (fun _ => ?_) (fun c => absurd (by decide) c)
  refine lv_iinc (v := (-1)) (lv' := [(3, .int (-1)), (4, .int (-1)), (0, .ref (N0 + 13)), (1, .ref (N0 + 150)), (2, .ref (N0 + 150))]) S.1 S.2.1 dX1_fillRestCosts_44 hl (k := 1) rfl (by decide) (by decide) rfl (fun ls hl => ?_)
  refine lv_goto (tgt := 5) S.1 S.2.1 dX1_fillRestCosts_47 (by decide) ?_
  refine lv_iload_n S.1 S.2.1 dX1_fillRestCosts_5 rfl (lv_at hl 0 rfl) ?_
  refine lv_if_lt (tgt := 50) S.1 S.2.1 dX1_fillRestCosts_6 (by decide) (fun _ => ?_) (fun c => absurd (by decide) c)
  exact fx_vret S hr hlocks () hG trivial dX1_fillRestCosts_50
theorem k1236_X7_changeCost {n : Nat} (hn : N0 + 231 ≤ n) (h0 : F (N0 + 150) = some (.inr (7, [.ref (N0 + 151), .ref (N0 + 152), .ref (N0 + 153), .ref (N0 + 154), .ref (N0 + 155), .ref (N0 + 156), .int 1]))) (h1 : F (N0 + 151) = some (.inl (cC, 20, .inl (upd (fun _ => 0) 0 97)))) (h2 : F (N0 + 153) = some (.inl (cI, 20, .inl (fun _ => 0)))) : Met l yX7_changeCost wsX7_changeCost ({ frames := 0, cells := 0, slots := 0, locals := 0 }) (va_Pc [.ref (N0 + 150), .int 0, .ref (N0 + 150), .int 0] (fP N0 D vwCl (fty cI cC cL cD cII cTr cTm cIt cB) (fen ql) F n)) (fQi N0 D vwCl (fty cI cC cL cD cII cTr cTm cIt cB) (fun (r : Int32) (_ : Unit) => r = 0) (fun _ => F) (fun _ => n)) 0 0 (fA N0) := by
  refine fx_start 5 rfl rfl (Nat.le_of_ble_eq_true rfl) ?_ rfl
  intro p e s m below meth c ls S hr hlocks hin hG hl
  have hl : lv_has ls 5 [(0, .ref (N0 + 150)), (1, .int 0), (2, .ref (N0 + 150)), (3, .int 0)] := hl
  have lt_h0 := hG.1.lt h0
  have lt_h1 := hG.1.lt h1
  have lt_h2 := hG.1.lt h2
  refine lv_iconst (v := 0) S.1 S.2.1 dX7_changeCost_0 (by decide) ?_
  refine lv_istore (lv' := [(4, .int 0), (0, .ref (N0 + 150)), (1, .int 0), (2, .ref (N0 + 150)), (3, .int 0)]) S.1 S.2.1 dX7_changeCost_1 hl (by decide) rfl (fun ls hl => ?_)
  refine lv_aload_n S.1 S.2.1 dX7_changeCost_3 rfl (lv_at hl 1 rfl) ?_
  refine gx_get (C := RX5) (T := TX5) (N := 7) S hG h0 i_X7_changeCost_X5 rfl 0 (by decide) (by decide +kernel) rfl dX7_changeCost_4 ?_
  refine lv_iload_n S.1 S.2.1 dX7_changeCost_7 rfl (lv_at hl 2 rfl) ?_
  refine gx_cald (v := 97) S hG 1 h1 rfl (fin_l (by decide)) (by decide) dX7_changeCost_8 ?_
  refine lv_aload_n S.1 S.2.1 dX7_changeCost_9 rfl (lv_at hl 3 rfl) ?_
  refine gx_get (C := RX5) (T := TX5) (N := 7) S hG h0 i_X7_changeCost_X5 rfl 0 (by decide) (by decide +kernel) rfl dX7_changeCost_10 ?_
  refine lv_iload_n S.1 S.2.1 dX7_changeCost_13 rfl (lv_at hl 4 rfl) ?_
  refine gx_cald (v := 97) S hG 1 h1 rfl (fin_l (by decide)) (by decide) dX7_changeCost_14 ?_
  refine lv_icmp_eq (tgt := 21) S.1 S.2.1 dX7_changeCost_15 (by decide) (fun _ => ?_) (fun c => absurd (by decide) c)
  refine lv_aload_n S.1 S.2.1 dX7_changeCost_21 rfl (lv_at hl 1 rfl) ?_
  refine gx_get (C := RX5) (T := TX5) (N := 7) S hG h0 i_X7_changeCost_X5 rfl 2 (by decide) (by decide +kernel) rfl dX7_changeCost_22 ?_
  refine lv_iload_n S.1 S.2.1 dX7_changeCost_25 rfl (lv_at hl 2 rfl) ?_
  refine gx_iald (v := 0) S hG 0 h2 rfl (fin_l (by decide)) (by decide) dX7_changeCost_26 ?_
  refine lv_aload_n S.1 S.2.1 dX7_changeCost_27 rfl (lv_at hl 3 rfl) ?_
  refine gx_get (C := RX5) (T := TX5) (N := 7) S hG h0 i_X7_changeCost_X5 rfl 2 (by decide) (by decide +kernel) rfl dX7_changeCost_28 ?_
  refine lv_iload_n S.1 S.2.1 dX7_changeCost_31 rfl (lv_at hl 4 rfl) ?_
  refine gx_iald (v := 0) S hG 0 h2 rfl (fin_l (by decide)) (by decide) dX7_changeCost_32 ?_
  refine lv_icmp_eq (tgt := 39) S.1 S.2.1 dX7_changeCost_33 (by decide) (fun _ => ?_) (fun c => absurd (by decide) c)
  refine lv_iload S.1 S.2.1 dX7_changeCost_39 (lv_at hl 0 rfl) ?_
  exact fx_iret S hr hlocks () hG (rfl) dX7_changeCost_41
set_option maxHeartbeats 16000000 in
theorem k1237_X1_leastCost {n : Nat} (hn : N0 + 231 ≤ n) (h0 : F (N0 + 13) = some (.inr (3, [.ref (N0 + 14), .ref (N0 + 35), .ref (N0 + 57), .ref (N0 + 58), .ref (N0 + 59), .ref (N0 + 60), .int 0, .int 0, .ref (N0 + 61), .ref (N0 + 62)]))) (h1 : F (N0 + 150) = some (.inr (7, [.ref (N0 + 151), .ref (N0 + 152), .ref (N0 + 153), .ref (N0 + 154), .ref (N0 + 155), .ref (N0 + 156), .int 1]))) (h2 : F (N0 + 57) = some (.inl (cI, 20, .inl (fun _ => 0)))) (h3 : F (N0 + 58) = some (.inl (cI, 20, .inl (fun _ => 0)))) (h4 : F (N0 + 35) = some (.inl (cII, 21, .inr (.inr (.inr (.inr (fun j => if j < 21 then some ((N0 + 36) + j) else none))))))) (h5 : F (N0 + 36) = some (.inl (cI, 21, .inl (fun _ => 0)))) (h6 : F (N0 + 14) = some (.inl (cII, 20, .inr (.inr (.inr (.inr (fun j => if j < 20 then some ((N0 + 15) + j) else none))))))) (h7 : F (N0 + 151) = some (.inl (cC, 20, .inl (upd (fun _ => 0) 0 97)))) (h8 : F (N0 + 153) = some (.inl (cI, 20, .inl (fun _ => 0)))) (h9 : F (N0 + 15) = some (.inl (cI, 20, .inl (fun _ => 0)))) : Met l yX1_leastCost wsX1_leastCost ({ frames := 2, cells := 0, slots := 0, locals := 49 }) (va_Pc [.ref (N0 + 13), .ref (N0 + 150), .ref (N0 + 150)] (fP N0 D vwCl (fty cI cC cL cD cII cTr cTm cIt cB) (fen ql) F n)) (fQi N0 D vwCl (fty cI cC cL cD cII cTr cTm cIt cB) (fun (r : Int32) (_ : Unit) => r = 0) (fun _ => (fu (fu (fu (fu (fu F (N0 + 57) (.inl (cI, 20, .inl (upd (fun _ => 0) 0 1)))) (N0 + 58) (.inl (cI, 20, .inl (upd (fun _ => 0) 0 1)))) (N0 + 13) (.inr (3, [.ref (N0 + 14), .ref (N0 + 35), .ref (N0 + 57), .ref (N0 + 58), .ref (N0 + 59), .ref (N0 + 60), .int 0, .int 0, .ref (N0 + 61), .ref (N0 + 62)]))) (N0 + 36) (.inl (cI, 21, .inl (upd (fun _ => 0) 0 0)))) (N0 + 15) (.inl (cI, 20, .inl (upd (fun _ => 0) 0 0))))) (fun _ => n)) 0 0 (fA N0) := by
  refine fx_start 5 rfl rfl (Nat.le_of_ble_eq_true rfl) ?_ rfl
  intro p e s m below meth c ls S hr hlocks hin hG hl
  have hl : lv_has ls 5 [(0, .ref (N0 + 13)), (1, .ref (N0 + 150)), (2, .ref (N0 + 150))] := hl
  have lt_h0 := hG.1.lt h0
  have lt_h1 := hG.1.lt h1
  have lt_h2 := hG.1.lt h2
  have lt_h3 := hG.1.lt h3
  have lt_h4 := hG.1.lt h4
  have lt_h5 := hG.1.lt h5
  have lt_h6 := hG.1.lt h6
  have lt_h7 := hG.1.lt h7
  have lt_h8 := hG.1.lt h8
  have lt_h9 := hG.1.lt h9
  refine lv_aload_n S.1 S.2.1 dX1_leastCost_0 rfl (lv_at hl 1 rfl) ?_
  refine lv_aload_n S.1 S.2.1 dX1_leastCost_1 rfl (lv_at hl 0 rfl) ?_
  refine gx_get (C := RX1) (T := TX1) (N := 10) S hG h0 i_X1_leastCost_X1 rfl 2 (by decide) (by decide +kernel) rfl dX1_leastCost_2 ?_
  refine fx_cVv (As := [.ref (N0 + 57)]) (rest := []) S hG (k1223_X5_listWidths (by omega) h1 h2) h1 rfl (cwV 1 S.2.2.2.2 gX1_leastCost_X5_listWidths rfl rfl rfl (by decide +kernel) ⟨Nat.le_of_ble_eq_true rfl, Nat.le_of_ble_eq_true rfl⟩) rfl hl.1 rfl (Nat.le_of_ble_eq_true rfl) dX1_leastCost_5 ⟨Nat.le_of_ble_eq_true rfl, Nat.le_of_ble_eq_true rfl⟩ (fun _ H locs hp hG => ?_)
  refine lv_aload_n S.1 S.2.1 dX1_leastCost_8 rfl (lv_at hl 2 rfl) ?_
  refine lv_aload_n S.1 S.2.1 dX1_leastCost_9 rfl (lv_at hl 0 rfl) ?_
  refine gx_get (C := RX1) (T := TX1) (N := 10) S hG (fu_at (by omega) h0) i_X1_leastCost_X1 rfl 3 (by decide) (by decide +kernel) rfl dX1_leastCost_10 ?_
  refine fx_cVv (As := [.ref (N0 + 58)]) (rest := []) S hG (k1195_X5_listWidths (by omega) (fu_at (by omega) h1) (fu_at (by omega) h3)) (fu_at (by omega) h1) rfl (cwV 1 S.2.2.2.2 gX1_leastCost_X5_listWidths rfl rfl rfl (by decide +kernel) ⟨Nat.le_of_ble_eq_true rfl, Nat.le_of_ble_eq_true rfl⟩) rfl hl.1 rfl (Nat.le_of_ble_eq_true rfl) dX1_leastCost_13 ⟨Nat.le_of_ble_eq_true rfl, Nat.le_of_ble_eq_true rfl⟩ (fun _ H locs hp hG => ?_)
  refine lv_aload_n S.1 S.2.1 dX1_leastCost_16 rfl (lv_at hl 1 rfl) ?_
  refine gx_get (C := RX5) (T := TX5) (N := 7) S hG (fu_at (by omega) (fu_at (by omega) h1)) i_X1_leastCost_X5 rfl 6 (by decide) (by decide +kernel) rfl dX1_leastCost_17 ?_
  refine lv_iconst (v := 1) S.1 S.2.1 dX1_leastCost_20 (by decide) ?_
  refine lv_isub S.1 S.2.1 dX1_leastCost_21 ?_
  refine fx_topi (y := 0) (by decide) ?_
  refine lv_istore_n (lv' := [(3, .int 0), (0, .ref (N0 + 13)), (1, .ref (N0 + 150)), (2, .ref (N0 + 150))]) S.1 S.2.1 dX1_leastCost_22 rfl hl (by decide) rfl (fun ls hl => ?_)
  refine lv_iload_n S.1 S.2.1 dX1_leastCost_23 rfl (lv_at hl 0 rfl) ?_
  refine lv_if_lt (tgt := 111) S.1 S.2.1 dX1_leastCost_24 (by decide) (fun c => absurd c (by decide)) (fun _ => ?_)
  refine lv_aload_n S.1 S.2.1 dX1_leastCost_27 rfl (lv_at hl 1 rfl) ?_
  refine lv_aload_n S.1 S.2.1 dX1_leastCost_28 rfl (lv_at hl 2 rfl) ?_
  refine lv_iload_n S.1 S.2.1 dX1_leastCost_29 rfl (lv_at hl 0 rfl) ?_
  refine lv_aload_n S.1 S.2.1 dX1_leastCost_30 rfl (lv_at hl 1 rfl) ?_
  refine gx_get (C := RX1) (T := TX1) (N := 10) S hG (fu_at (by omega) (fu_at (by omega) h0)) i_X1_leastCost_X1 rfl 4 (by decide) (by decide +kernel) rfl dX1_leastCost_31 ?_
  refine fx_cVi (As := [.int 0, .ref (N0 + 59)]) (rest := [.ref (N0 + 13)]) S hG (k1224_X5_listChildren (by omega) (fu_at (by omega) (fu_at (by omega) h1))) (fu_at (by omega) (fu_at (by omega) h1)) rfl (cwV 2 S.2.2.2.2 gX1_leastCost_X5_listChildren rfl rfl rfl (by decide +kernel) ⟨Nat.le_of_ble_eq_true rfl, Nat.le_of_ble_eq_true rfl⟩) rfl hl.1 rfl (Nat.le_of_ble_eq_true rfl) dX1_leastCost_34 ⟨Nat.le_of_ble_eq_true rfl, Nat.le_of_ble_eq_true rfl⟩ (fun rv_3 _ H locs hp hG => ?_)
  subst rv_3
  refine gx_put (C := RX1) (T := TX1) (N := 10) (ty := .int) (v := .int 0) (fs' := [.ref (N0 + 14), .ref (N0 + 35), .ref (N0 + 57), .ref (N0 + 58), .ref (N0 + 59), .ref (N0 + 60), .int 0, .int 0, .ref (N0 + 61), .ref (N0 + 62)]) S hG (fu_at (by omega) (fu_at (by omega) h0)) i_X1_leastCost_X1 rfl 6 (by decide) tyX1 tyX1_ok nmX1 (by decide +kernel) rfl (by decide +kernel) rfl rfl (Nat.le_of_ble_eq_true rfl) rfl dX1_leastCost_37 (fun H locs hG => ?_)
  refine lv_aload_n S.1 S.2.1 dX1_leastCost_40 rfl (lv_at hl 3 rfl) ?_
  refine gx_get (C := RX5) (T := TX5) (N := 7) S hG (fu_at (by omega) (fu_at (by omega) (fu_at (by omega) h1))) i_X1_leastCost_X5 rfl 6 (by decide) (by decide +kernel) rfl dX1_leastCost_41 ?_
  refine lv_iconst (v := 1) S.1 S.2.1 dX1_leastCost_44 (by decide) ?_
  refine lv_isub S.1 S.2.1 dX1_leastCost_45 ?_
  refine fx_topi (y := 0) (by decide) ?_
  refine lv_istore (lv' := [(4, .int 0), (3, .int 0), (0, .ref (N0 + 13)), (1, .ref (N0 + 150)), (2, .ref (N0 + 150))]) S.1 S.2.1 dX1_leastCost_46 hl (by decide) rfl (fun ls hl => ?_)
  refine lv_iload S.1 S.2.1 dX1_leastCost_48 (lv_at hl 0 rfl) ?_
  refine lv_if_lt (tgt := 105) S.1 S.2.1 dX1_leastCost_50 (by decide) (fun c => absurd c (by decide)) (fun _ => ?_)
  refine lv_aload_n S.1 S.2.1 dX1_leastCost_53 rfl (lv_at hl 2 rfl) ?_
  refine lv_aload_n S.1 S.2.1 dX1_leastCost_54 rfl (lv_at hl 4 rfl) ?_
  refine lv_iload S.1 S.2.1 dX1_leastCost_55 (lv_at hl 0 rfl) ?_
  refine lv_aload_n S.1 S.2.1 dX1_leastCost_57 rfl (lv_at hl 2 rfl) ?_
  refine gx_get (C := RX1) (T := TX1) (N := 10) S hG fu_s i_X1_leastCost_X1 rfl 5 (by decide) (by decide +kernel) rfl dX1_leastCost_58 ?_
  refine fx_cVi (As := [.int 0, .ref (N0 + 60)]) (rest := [.ref (N0 + 13)]) S hG (k1196_X5_listChildren (by omega) (fu_at (by omega) (fu_at (by omega) (fu_at (by omega) h1)))) (fu_at (by omega) (fu_at (by omega) (fu_at (by omega) h1))) rfl (cwV 2 S.2.2.2.2 gX1_leastCost_X5_listChildren rfl rfl rfl (by decide +kernel) ⟨Nat.le_of_ble_eq_true rfl, Nat.le_of_ble_eq_true rfl⟩) rfl hl.1 rfl (Nat.le_of_ble_eq_true rfl) dX1_leastCost_61 ⟨Nat.le_of_ble_eq_true rfl, Nat.le_of_ble_eq_true rfl⟩ (fun rv_4 _ H locs hp hG => ?_)
  subst rv_4
  refine gx_put (C := RX1) (T := TX1) (N := 10) (ty := .int) (v := .int 0) (fs' := [.ref (N0 + 14), .ref (N0 + 35), .ref (N0 + 57), .ref (N0 + 58), .ref (N0 + 59), .ref (N0 + 60), .int 0, .int 0, .ref (N0 + 61), .ref (N0 + 62)]) S hG fu_s i_X1_leastCost_X1 rfl 7 (by decide) tyX1 tyX1_ok nmX1 (by decide +kernel) rfl (by decide +kernel) rfl rfl (Nat.le_of_ble_eq_true rfl) rfl dX1_leastCost_64 (fun H locs hG => ?_)
  refine lv_aload_n S.1 S.2.1 dX1_leastCost_67 rfl (lv_at hl 2 rfl) ?_
  refine lv_aload_n S.1 S.2.1 dX1_leastCost_68 rfl (lv_at hl 3 rfl) ?_
  refine lv_aload_n S.1 S.2.1 dX1_leastCost_69 rfl (lv_at hl 4 rfl) ?_
  refine fx_cVv (As := [.ref (N0 + 150), .ref (N0 + 150)]) (rest := []) S hG (k1235_X1_fillRestCosts (by omega) fu_s (fu_at (by omega) (fu_at (by omega) (fu_at (by omega) (fu_at (by omega) h4)))) (fu_at (by omega) (fu_at (by omega) (fu_at (by omega) (fu_at (by omega) h5))))) fu_s rfl (cwV 2 S.2.2.2.2 gX1_leastCost_X1_fillRestCosts rfl rfl rfl (by decide +kernel) ⟨Nat.le_of_ble_eq_true rfl, Nat.le_of_ble_eq_true rfl⟩) rfl hl.1 rfl (Nat.le_of_ble_eq_true rfl) dX1_leastCost_70 ⟨Nat.le_of_ble_eq_true rfl, Nat.le_of_ble_eq_true rfl⟩ (fun _ H locs hp hG => ?_)
  refine lv_aload_n S.1 S.2.1 dX1_leastCost_73 rfl (lv_at hl 2 rfl) ?_
  refine gx_get (C := RX1) (T := TX1) (N := 10) S hG (fu_at (by omega) fu_s) i_X1_leastCost_X1 rfl 0 (by decide) (by decide +kernel) rfl dX1_leastCost_74 ?_
  refine lv_iload_n S.1 S.2.1 dX1_leastCost_77 rfl (lv_at hl 1 rfl) ?_
  refine gx_aldq (x := (N0 + 15)) S hG 4 rfl (fu_at (by omega) (fu_at (by omega) (fu_at (by omega) (fu_at (by omega) (fu_at (by omega) h6))))) rfl (fin_l (by decide)) (rfl) dX1_leastCost_78 ?_
  refine lv_iload S.1 S.2.1 dX1_leastCost_79 (lv_at hl 0 rfl) ?_
  refine lv_aload_n S.1 S.2.1 dX1_leastCost_81 rfl (lv_at hl 3 rfl) ?_
  refine lv_iload_n S.1 S.2.1 dX1_leastCost_82 rfl (lv_at hl 1 rfl) ?_
  refine lv_aload_n S.1 S.2.1 dX1_leastCost_83 rfl (lv_at hl 4 rfl) ?_
  refine lv_iload S.1 S.2.1 dX1_leastCost_84 (lv_at hl 0 rfl) ?_
  refine fx_cSNi (host := "TreeDiffer") (As := [.ref (N0 + 150), .int 0, .ref (N0 + 150), .int 0]) (rest := [.int 0, .ref (N0 + 15)]) S hG (k1236_X7_changeCost (by omega) (fu_at (by omega) (fu_at (by omega) (fu_at (by omega) (fu_at (by omega) (fu_at (by omega) h1))))) (fu_at (by omega) (fu_at (by omega) (fu_at (by omega) (fu_at (by omega) (fu_at (by omega) h7))))) (fu_at (by omega) (fu_at (by omega) (fu_at (by omega) (fu_at (by omega) (fu_at (by omega) h8)))))) ⟨(va_cnB 4 S.2.2.2.2 gX1_leastCost_X7_changeCost_n62 rfl rfl rfl (hG.nest (show _ ∈ fen2.2.2.1 from by decide)) (S.2.2.2.2 (.initialized RX7) (by decide +kernel)) (by decide +kernel) ⟨Nat.le_of_ble_eq_true rfl, Nat.le_of_ble_eq_true rfl⟩), S.2.2.2.2 (.static yX7_changeCost) (by decide +kernel), trivial⟩ rfl hl.1 rfl (Nat.le_of_ble_eq_true rfl) dX1_leastCost_86 ⟨Nat.le_of_ble_eq_true rfl, Nat.le_of_ble_eq_true rfl⟩ (fun rv_6 _ H locs hp hG => ?_)
  subst rv_6
  refine lv_aload_n S.1 S.2.1 dX1_leastCost_89 rfl (lv_at hl 2 rfl) ?_
  refine gx_get (C := RX1) (T := TX1) (N := 10) S hG (fu_at (by omega) fu_s) i_X1_leastCost_X1 rfl 1 (by decide) (by decide +kernel) rfl dX1_leastCost_90 ?_
  refine lv_iconst (v := 0) S.1 S.2.1 dX1_leastCost_93 (by decide) ?_
  refine gx_aldq (x := (N0 + 36)) S hG 4 rfl (fu_at (by omega) (fu_at (by omega) (fu_at (by omega) (fu_at (by omega) (fu_at (by omega) h4))))) rfl (fin_l (by decide)) (rfl) dX1_leastCost_94 ?_
  refine lv_iconst (v := 0) S.1 S.2.1 dX1_leastCost_95 (by decide) ?_
  refine gx_iald (v := 0) S hG 0 fu_s rfl (fin_l (by decide)) (by decide) dX1_leastCost_96 ?_
  refine lv_iadd S.1 S.2.1 dX1_leastCost_97 ?_
  refine fx_topi (y := 0) (by decide) ?_
  refine gx_iast (f' := upd (fun _ => 0) 0 0) S hG 0 (fu_at (by omega) (fu_at (by omega) (fu_at (by omega) (fu_at (by omega) (fu_at (by omega) h9))))) rfl (fin_l (by decide)) dX1_leastCost_98 (rfl) (fun H locs hG => ?_)
  refine lv_iinc (v := (-1)) (lv' := [(4, .int (-1)), (3, .int 0), (0, .ref (N0 + 13)), (1, .ref (N0 + 150)), (2, .ref (N0 + 150))]) S.1 S.2.1 dX1_leastCost_99 hl (k := 0) rfl (by decide) (by decide) rfl (fun ls hl => ?_)
  refine lv_goto (tgt := 48) S.1 S.2.1 dX1_leastCost_102 (by decide) ?_
  refine lv_iload S.1 S.2.1 dX1_leastCost_48 (lv_at hl 0 rfl) ?_
  refine lv_if_lt (tgt := 105) S.1 S.2.1 dX1_leastCost_50 (by decide) (fun _ => ?_) (fun c => absurd (by decide) c)
  refine lv_iinc (v := (-1)) (lv' := [(3, .int (-1)), (4, .int (-1)), (0, .ref (N0 + 13)), (1, .ref (N0 + 150)), (2, .ref (N0 + 150))]) S.1 S.2.1 dX1_leastCost_105 hl (k := 1) rfl (by decide) (by decide) rfl (fun ls hl => ?_)
  refine lv_goto (tgt := 23) S.1 S.2.1 dX1_leastCost_108 (by decide) ?_
  refine lv_iload_n S.1 S.2.1 dX1_leastCost_23 rfl (lv_at hl 0 rfl) ?_
  refine lv_if_lt (tgt := 111) S.1 S.2.1 dX1_leastCost_24 (by decide) (fun _ => ?_) (fun c => absurd (by decide) c)
  refine lv_aload_n S.1 S.2.1 dX1_leastCost_111 rfl (lv_at hl 2 rfl) ?_
  refine gx_get (C := RX1) (T := TX1) (N := 10) S hG (fu_at (by omega) (fu_at (by omega) fu_s)) i_X1_leastCost_X1 rfl 0 (by decide) (by decide +kernel) rfl dX1_leastCost_112 ?_
  refine lv_iconst (v := 0) S.1 S.2.1 dX1_leastCost_115 (by decide) ?_
  refine gx_aldq (x := (N0 + 15)) S hG 4 rfl (fu_at (by omega) (fu_at (by omega) (fu_at (by omega) (fu_at (by omega) (fu_at (by omega) (fu_at (by omega) h6)))))) rfl (fin_l (by decide)) (rfl) dX1_leastCost_116 ?_
  refine lv_iconst (v := 0) S.1 S.2.1 dX1_leastCost_117 (by decide) ?_
  refine gx_iald (v := 0) S hG 0 fu_s rfl (fin_l (by decide)) (by decide) dX1_leastCost_118 ?_
  have hG : fG N0 D vwCl (fty cI cC cL cD cII cTr cTm cIt cB) (fen ql) s (fu (fu (fu (fu (fu F (N0 + 57) (.inl (cI, 20, .inl (upd (fun _ => 0) 0 1)))) (N0 + 58) (.inl (cI, 20, .inl (upd (fun _ => 0) 0 1)))) (N0 + 13) (.inr (3, [.ref (N0 + 14), .ref (N0 + 35), .ref (N0 + 57), .ref (N0 + 58), .ref (N0 + 59), .ref (N0 + 60), .int 0, .int 0, .ref (N0 + 61), .ref (N0 + 62)]))) (N0 + 36) (.inl (cI, 21, .inl (upd (fun _ => 0) 0 0)))) (N0 + 15) (.inl (cI, 20, .inl (upd (fun _ => 0) 0 0)))) n H locs := hG.weak (fun a e h => by
    rcases fu_cases h with ⟨rfl, he⟩ | ⟨hne0, h⟩
    · cases he; exact fu_s
    · skip
      rcases fu_cases h with ⟨rfl, he⟩ | ⟨hne1, h⟩
      · cases he; exact (fu_at (by omega) fu_s)
      · skip
        rcases fu_cases h with ⟨rfl, he⟩ | ⟨hne2, h⟩
        · cases he; exact (fu_at (by omega) (fu_at (by omega) fu_s))
        · skip
          rcases fu_cases h with ⟨rfl, he⟩ | ⟨hne3, h⟩
          · cases he; exact (fu_at (by omega) (fu_at (by omega) (fu_at (by omega) (fu_at (by omega) fu_s))))
          · skip
            rcases fu_cases h with ⟨rfl, he⟩ | ⟨hne4, h⟩
            · cases he; exact (fu_at (by omega) (fu_at (by omega) (fu_at (by omega) (fu_at (by omega) (fu_at (by omega) fu_s)))))
            · exact (fu_at (by omega) (fu_at (by omega) (fu_at (by omega) (fu_at (by omega) (fu_at (by omega) (fu_at (by omega) h)))))))
  exact fx_iret S hr hlocks () hG (rfl) dX1_leastCost_119
theorem k1238_X7_distance {n : Nat} (hn : N0 + 231 ≤ n) (h0 : F N0 = some (.inr (9, [.ref (N0 + 1), .ref (N0 + 2), .ref (N0 + 11), .ref (N0 + 13), .ref (N0 + 63), .ref (N0 + 65), .ref (N0 + 85), .int (-1), .int (-1), .int 32]))) (h1 : F (N0 + 1) = some (.inl (cTr, 3, .inr (.inr (.inr (.inr (va_up (va_up (va_up (fun _ => none) 0 (some (N0 + 143))) 1 (some (N0 + 150))) 2 (some (N0 + 157))))))))) (h2 : F (N0 + 13) = some (.inr (3, [.ref (N0 + 14), .ref (N0 + 35), .ref (N0 + 57), .ref (N0 + 58), .ref (N0 + 59), .ref (N0 + 60), .int 0, .int 0, .ref (N0 + 61), .ref (N0 + 62)]))) (h3 : F (N0 + 150) = some (.inr (7, [.ref (N0 + 151), .ref (N0 + 152), .ref (N0 + 153), .ref (N0 + 154), .ref (N0 + 155), .ref (N0 + 156), .int 1]))) (h4 : F (N0 + 57) = some (.inl (cI, 20, .inl (fun _ => 0)))) (h5 : F (N0 + 58) = some (.inl (cI, 20, .inl (fun _ => 0)))) (h6 : F (N0 + 35) = some (.inl (cII, 21, .inr (.inr (.inr (.inr (fun j => if j < 21 then some ((N0 + 36) + j) else none))))))) (h7 : F (N0 + 36) = some (.inl (cI, 21, .inl (fun _ => 0)))) (h8 : F (N0 + 14) = some (.inl (cII, 20, .inr (.inr (.inr (.inr (fun j => if j < 20 then some ((N0 + 15) + j) else none))))))) (h9 : F (N0 + 151) = some (.inl (cC, 20, .inl (upd (fun _ => 0) 0 97)))) (h10 : F (N0 + 153) = some (.inl (cI, 20, .inl (fun _ => 0)))) (h11 : F (N0 + 15) = some (.inl (cI, 20, .inl (fun _ => 0)))) : Met l yX7_distance wsX7_distance ({ frames := 3, cells := 0, slots := 0, locals := 73 }) (va_Pc [.ref N0, .int 1, .int 1] (fP N0 D vwCl (fty cI cC cL cD cII cTr cTm cIt cB) (fen ql) F n)) (fQi N0 D vwCl (fty cI cC cL cD cII cTr cTm cIt cB) (fun (r : Int32) (_ : Unit) => r = 0) (fun _ => (fu (fu (fu (fu (fu F (N0 + 57) (.inl (cI, 20, .inl (upd (fun _ => 0) 0 1)))) (N0 + 58) (.inl (cI, 20, .inl (upd (fun _ => 0) 0 1)))) (N0 + 13) (.inr (3, [.ref (N0 + 14), .ref (N0 + 35), .ref (N0 + 57), .ref (N0 + 58), .ref (N0 + 59), .ref (N0 + 60), .int 0, .int 0, .ref (N0 + 61), .ref (N0 + 62)]))) (N0 + 36) (.inl (cI, 21, .inl (upd (fun _ => 0) 0 0)))) (N0 + 15) (.inl (cI, 20, .inl (upd (fun _ => 0) 0 0))))) (fun _ => n)) 0 0 (fA N0) := by
  refine fx_start 5 rfl rfl (Nat.le_of_ble_eq_true rfl) ?_ rfl
  intro p e s m below meth c ls S hr hlocks hin hG hl
  have hl : lv_has ls 5 [(0, .ref N0), (1, .int 1), (2, .int 1)] := hl
  have lt_h0 := hG.1.lt h0
  have lt_h1 := hG.1.lt h1
  have lt_h2 := hG.1.lt h2
  have lt_h3 := hG.1.lt h3
  have lt_h4 := hG.1.lt h4
  have lt_h5 := hG.1.lt h5
  have lt_h6 := hG.1.lt h6
  have lt_h7 := hG.1.lt h7
  have lt_h8 := hG.1.lt h8
  have lt_h9 := hG.1.lt h9
  have lt_h10 := hG.1.lt h10
  have lt_h11 := hG.1.lt h11
  refine lv_aload_n S.1 S.2.1 dX7_distance_0 rfl (lv_at hl 0 rfl) ?_
  refine lv_iload_n S.1 S.2.1 dX7_distance_1 rfl (lv_at hl 1 rfl) ?_
  refine fx_cVr (As := [.int 1]) (rest := []) S hG (k42_X7_treeAt (by omega) h0 h1) h0 rfl (cwV 1 S.2.2.2.2 gX7_distance_X7_treeAt rfl rfl rfl (by decide +kernel) ⟨Nat.le_of_ble_eq_true rfl, Nat.le_of_ble_eq_true rfl⟩) rfl hl.1 rfl (Nat.le_of_ble_eq_true rfl) dX7_distance_2 ⟨Nat.le_of_ble_eq_true rfl, Nat.le_of_ble_eq_true rfl⟩ (fun rv_1 _ H locs hp hG => ?_)
  subst rv_1
  refine lv_astore_n (lv' := [(3, .ref (N0 + 150)), (0, .ref N0), (1, .int 1), (2, .int 1)]) S.1 S.2.1 dX7_distance_5 rfl hl (by decide) rfl (fun ls hl => ?_)
  refine lv_aload_n S.1 S.2.1 dX7_distance_6 rfl (lv_at hl 1 rfl) ?_
  refine lv_iload_n S.1 S.2.1 dX7_distance_7 rfl (lv_at hl 3 rfl) ?_
  refine fx_cVr (As := [.int 1]) (rest := []) S hG (k42_X7_treeAt (by omega) h0 h1) h0 rfl (cwV 1 S.2.2.2.2 gX7_distance_X7_treeAt rfl rfl rfl (by decide +kernel) ⟨Nat.le_of_ble_eq_true rfl, Nat.le_of_ble_eq_true rfl⟩) rfl hl.1 rfl (Nat.le_of_ble_eq_true rfl) dX7_distance_8 ⟨Nat.le_of_ble_eq_true rfl, Nat.le_of_ble_eq_true rfl⟩ (fun rv_2 _ H locs hp hG => ?_)
  subst rv_2
  refine lv_astore (lv' := [(4, .ref (N0 + 150)), (3, .ref (N0 + 150)), (0, .ref N0), (1, .int 1), (2, .int 1)]) S.1 S.2.1 dX7_distance_11 hl (by decide) rfl (fun ls hl => ?_)
  refine lv_aload_n S.1 S.2.1 dX7_distance_13 rfl (lv_at hl 2 rfl) ?_
  refine gx_get (C := RX7) (T := TX7) (N := 10) S hG h0 i_X7_distance_X7 rfl 3 (by decide) (by decide +kernel) rfl dX7_distance_14 ?_
  refine lv_aload_n S.1 S.2.1 dX7_distance_17 rfl (lv_at hl 1 rfl) ?_
  refine lv_aload S.1 S.2.1 dX7_distance_18 (lv_at hl 0 rfl) ?_
  refine fx_cVi (As := [.ref (N0 + 150), .ref (N0 + 150)]) (rest := []) S hG (k1237_X1_leastCost (by omega) h2 h3 h4 h5 h6 h7 h8 h9 h10 h11) h2 rfl (cwV 2 S.2.2.2.2 gX7_distance_X1_leastCost rfl rfl rfl (by decide +kernel) ⟨Nat.le_of_ble_eq_true rfl, Nat.le_of_ble_eq_true rfl⟩) rfl hl.1 rfl (Nat.le_of_ble_eq_true rfl) dX7_distance_20 ⟨Nat.le_of_ble_eq_true rfl, Nat.le_of_ble_eq_true rfl⟩ (fun rv_3 _ H locs hp hG => ?_)
  subst rv_3
  exact fx_iret S hr hlocks () hG (rfl) dX7_distance_23
theorem k1239_L_distance {n : Nat} (hn : N0 + 231 ≤ n) (h0 : F N0 = some (.inr (9, [.ref (N0 + 1), .ref (N0 + 2), .ref (N0 + 11), .ref (N0 + 13), .ref (N0 + 63), .ref (N0 + 65), .ref (N0 + 85), .int (-1), .int (-1), .int 32]))) (h1 : F (N0 + 1) = some (.inl (cTr, 3, .inr (.inr (.inr (.inr (va_up (va_up (va_up (fun _ => none) 0 (some (N0 + 143))) 1 (some (N0 + 150))) 2 (some (N0 + 157))))))))) (h2 : F (N0 + 13) = some (.inr (3, [.ref (N0 + 14), .ref (N0 + 35), .ref (N0 + 57), .ref (N0 + 58), .ref (N0 + 59), .ref (N0 + 60), .int 0, .int 0, .ref (N0 + 61), .ref (N0 + 62)]))) (h3 : F (N0 + 150) = some (.inr (7, [.ref (N0 + 151), .ref (N0 + 152), .ref (N0 + 153), .ref (N0 + 154), .ref (N0 + 155), .ref (N0 + 156), .int 1]))) (h4 : F (N0 + 57) = some (.inl (cI, 20, .inl (fun _ => 0)))) (h5 : F (N0 + 58) = some (.inl (cI, 20, .inl (fun _ => 0)))) (h6 : F (N0 + 35) = some (.inl (cII, 21, .inr (.inr (.inr (.inr (fun j => if j < 21 then some ((N0 + 36) + j) else none))))))) (h7 : F (N0 + 36) = some (.inl (cI, 21, .inl (fun _ => 0)))) (h8 : F (N0 + 14) = some (.inl (cII, 20, .inr (.inr (.inr (.inr (fun j => if j < 20 then some ((N0 + 15) + j) else none))))))) (h9 : F (N0 + 151) = some (.inl (cC, 20, .inl (upd (fun _ => 0) 0 97)))) (h10 : F (N0 + 153) = some (.inl (cI, 20, .inl (fun _ => 0)))) (h11 : F (N0 + 15) = some (.inl (cI, 20, .inl (fun _ => 0)))) (h12 : F (N0 + 229) = some (.inl (cL, 1, .inr (.inl (fun _ => 0))))) : Met l yL_distance wsL_distance ({ frames := 4, cells := 0, slots := 0, locals := 97 }) (va_Pc [.ref N0, .int 1, .int 1, .ref (N0 + 229)] (fP N0 D vwCl (fty cI cC cL cD cII cTr cTm cIt cB) (fen ql) F n)) (fQi N0 D vwCl (fty cI cC cL cD cII cTr cTm cIt cB) (fun (r : Int32) (_ : Unit) => r = 0) (fun _ => (fu (fu (fu (fu (fu (fu F (N0 + 57) (.inl (cI, 20, .inl (upd (fun _ => 0) 0 1)))) (N0 + 58) (.inl (cI, 20, .inl (upd (fun _ => 0) 0 1)))) (N0 + 13) (.inr (3, [.ref (N0 + 14), .ref (N0 + 35), .ref (N0 + 57), .ref (N0 + 58), .ref (N0 + 59), .ref (N0 + 60), .int 0, .int 0, .ref (N0 + 61), .ref (N0 + 62)]))) (N0 + 36) (.inl (cI, 21, .inl (upd (fun _ => 0) 0 0)))) (N0 + 15) (.inl (cI, 20, .inl (upd (fun _ => 0) 0 0)))) (N0 + 229) (.inl (cL, 1, .inr (.inl (vp_updL (fun _ => 0) 0 0)))))) (fun _ => n)) 0 0 (fA N0) := by
  refine fx_startW (hh := [(0, 10, 13, 19)]) 5 rfl rfl (Nat.le_of_ble_eq_true rfl) ?_ rfl
  intro p e s m below meth c ls S htab hr hlocks hG hl
  have hl : lv_has ls 5 [(0, .ref N0), (1, .int 1), (2, .int 1), (3, .ref (N0 + 229))] := hl
  have lt_h0 := hG.1.lt h0
  have lt_h1 := hG.1.lt h1
  have lt_h2 := hG.1.lt h2
  have lt_h3 := hG.1.lt h3
  have lt_h4 := hG.1.lt h4
  have lt_h5 := hG.1.lt h5
  have lt_h6 := hG.1.lt h6
  have lt_h7 := hG.1.lt h7
  have lt_h8 := hG.1.lt h8
  have lt_h9 := hG.1.lt h9
  have lt_h10 := hG.1.lt h10
  have lt_h11 := hG.1.lt h11
  have lt_h12 := hG.1.lt h12
  refine lv_aload_n S.1 S.2.1 dL_distance_0 rfl (lv_at hl 3 rfl) ?_
  refine lv_iconst (v := 0) S.1 S.2.1 dL_distance_1 (by decide) ?_
  refine lv_aload_n S.1 S.2.1 dL_distance_2 rfl (lv_at hl 0 rfl) ?_
  refine lv_iload_n S.1 S.2.1 dL_distance_3 rfl (lv_at hl 1 rfl) ?_
  refine lv_iload_n S.1 S.2.1 dL_distance_4 rfl (lv_at hl 2 rfl) ?_
  refine fx_cVi (As := [.int 1, .int 1]) (rest := [.int 0, .ref (N0 + 229)]) S hG (k1238_X7_distance (by omega) h0 h1 h2 h3 h4 h5 h6 h7 h8 h9 h10 h11) h0 rfl (cwV 2 S.2.2.2.2 gL_distance_X7_distance rfl rfl rfl (by decide +kernel) ⟨Nat.le_of_ble_eq_true rfl, Nat.le_of_ble_eq_true rfl⟩) rfl hl.1 rfl (Nat.le_of_ble_eq_true rfl) dL_distance_5 ⟨Nat.le_of_ble_eq_true rfl, Nat.le_of_ble_eq_true rfl⟩ (fun rv_1 _ H locs hp hG => ?_)
  subst rv_1
  refine lv_i2l (v := 0) S.1 S.2.1 dL_distance_8 (by decide) ?_
  refine gx_last (f' := vp_updL (fun _ => 0) 0 0) S hG 2 (fu_at (by omega) (fu_at (by omega) (fu_at (by omega) (fu_at (by omega) (fu_at (by omega) h12))))) rfl (fin_l (by decide)) dL_distance_9 rfl (fun H locs hG => ?_)
  refine lv_goto (tgt := 17) S.1 S.2.1 dL_distance_10 (by decide) ?_
  refine lv_iconst (v := 0) S.1 S.2.1 dL_distance_17 (by decide) ?_
  exact fx_iret S hr hlocks () hG (rfl) dL_distance_18
theorem k1240_X10_left {n b1 : Nat} (hn : N0 + 231 ≤ n) (hb1 : N0 + 231 ≤ b1) (h0 : F b1 = some (.inl (cI, 0, .inl (fun _ => 0)))) (h1 : F (b1 + 1) = some (.inl (cI, 0, .inl (fun _ => 0)))) : Met l yX10_left wsX10_left ({ frames := 0, cells := 2, slots := 2, locals := 0 }) (va_Pc [.ref (N0 + 164), .ref (N0 + 171), .ref b1, .ref (N0 + 171), .ref (b1 + 1)] (fP N0 D vwCl (fty cI cC cL cD cII cTr cTm cIt cB) (fen ql) F n)) (fQr N0 D vwCl (fty cI cC cL cD cII cTr cTm cIt cB) (fun (r : Nat) (_ : Unit) => r = n) (fun _ => (fblk F n [.inl (cII, 1, .inr (.inr (.inr (.inr (fun j => if j < 1 then some ((n + 1) + j) else none))))), .inl (cI, 1, .inl (fun _ => 0))])) (fun _ => (n + 2))) 2 2 (fA N0) := by
  refine fx_start 9 rfl rfl (Nat.le_of_ble_eq_true rfl) ?_ rfl
  intro p e s m below meth c ls S hr hlocks hin hG hl
  have hl : lv_has ls 9 [(0, .ref (N0 + 164)), (1, .ref (N0 + 171)), (2, .ref b1), (3, .ref (N0 + 171)), (4, .ref (b1 + 1))] := hl
  have lt_h0 := hG.1.lt h0
  have lt_h1 := hG.1.lt h1
  refine lv_aload_n S.1 S.2.1 dX10_left_0 rfl (lv_at hl 2 rfl) ?_
  refine gx_alen (v := 0) S hG 0 h0 rfl (rfl) dX10_left_1 ?_
  refine lv_iconst (v := 1) S.1 S.2.1 dX10_left_2 (by decide) ?_
  refine lv_iadd S.1 S.2.1 dX10_left_3 ?_
  refine fx_topi (y := 1) (by decide) ?_
  refine lv_aload S.1 S.2.1 dX10_left_4 (lv_at hl 4 rfl) ?_
  refine gx_alen (v := 0) S hG 0 h1 rfl (rfl) dX10_left_6 ?_
  refine lv_iconst (v := 1) S.1 S.2.1 dX10_left_7 (by decide) ?_
  refine lv_iadd S.1 S.2.1 dX10_left_8 ?_
  refine fx_topi (y := 1) (by decide) ?_
  refine gx_mna (N' := 1) (K' := 1) S hG (by decide +kernel) (by decide +kernel) 0 4 rfl rfl (by decide) (by decide) (by decide) (by decide) (by decide) (by decide) (by decide) (by decide) dX10_left_9 (fun H hG => ?_)
  refine W.widen (k := 2) (n := 2) (by decide) (by decide) ?_
  refine lv_astore (lv' := [(5, .ref n), (0, .ref (N0 + 164)), (1, .ref (N0 + 171)), (2, .ref b1), (3, .ref (N0 + 171)), (4, .ref (b1 + 1))]) S.1 S.2.1 dX10_left_13 hl (by decide) rfl (fun ls hl => ?_)
  refine lv_aload_n S.1 S.2.1 dX10_left_15 rfl (lv_at hl 3 rfl) ?_
  refine gx_alen (v := 0) S hG 0 (fblk_sk 1 rfl (by omega) (fu_at (by omega) h0)) rfl (rfl) dX10_left_16 ?_
  refine lv_istore (lv' := [(6, .int 0), (5, .ref n), (0, .ref (N0 + 164)), (1, .ref (N0 + 171)), (2, .ref b1), (3, .ref (N0 + 171)), (4, .ref (b1 + 1))]) S.1 S.2.1 dX10_left_17 hl (by decide) rfl (fun ls hl => ?_)
  refine lv_iload S.1 S.2.1 dX10_left_19 (lv_at hl 0 rfl) ?_
  refine lv_if_lt (tgt := 228) S.1 S.2.1 dX10_left_21 (by decide) (fun c => absurd c (by decide)) (fun _ => ?_)
  refine lv_aload S.1 S.2.1 dX10_left_24 (lv_at hl 6 rfl) ?_
  refine gx_alen (v := 0) S hG 0 (fblk_sk 1 rfl (by omega) (fu_at (by omega) h1)) rfl (rfl) dX10_left_26 ?_
  refine lv_istore (lv' := [(7, .int 0), (6, .int 0), (5, .ref n), (0, .ref (N0 + 164)), (1, .ref (N0 + 171)), (2, .ref b1), (3, .ref (N0 + 171)), (4, .ref (b1 + 1))]) S.1 S.2.1 dX10_left_27 hl (by decide) rfl (fun ls hl => ?_)
  refine lv_iload S.1 S.2.1 dX10_left_29 (lv_at hl 0 rfl) ?_
  refine lv_if_lt (tgt := 222) S.1 S.2.1 dX10_left_31 (by decide) (fun c => absurd c (by decide)) (fun _ => ?_)
  refine lv_iload S.1 S.2.1 dX10_left_34 (lv_at hl 1 rfl) ?_
  refine lv_aload_n S.1 S.2.1 dX10_left_36 rfl (lv_at hl 5 rfl) ?_
  refine gx_alen (v := 0) S hG 0 (fblk_sk 1 rfl (by omega) (fu_at (by omega) h0)) rfl (rfl) dX10_left_37 ?_
  refine lv_icmp_ne (tgt := 52) S.1 S.2.1 dX10_left_38 (by decide) (fun c => absurd (by decide) c) (fun _ => ?_)
  refine lv_iload S.1 S.2.1 dX10_left_41 (lv_at hl 0 rfl) ?_
  refine lv_aload S.1 S.2.1 dX10_left_43 (lv_at hl 7 rfl) ?_
  refine gx_alen (v := 0) S hG 0 (fblk_sk 1 rfl (by omega) (fu_at (by omega) h1)) rfl (rfl) dX10_left_45 ?_
  refine lv_icmp_ne (tgt := 52) S.1 S.2.1 dX10_left_46 (by decide) (fun c => absurd (by decide) c) (fun _ => ?_)
  refine lv_goto (tgt := 216) S.1 S.2.1 dX10_left_49 (by decide) ?_
  refine lv_iinc (v := (-1)) (lv' := [(7, .int (-1)), (6, .int 0), (5, .ref n), (0, .ref (N0 + 164)), (1, .ref (N0 + 171)), (2, .ref b1), (3, .ref (N0 + 171)), (4, .ref (b1 + 1))]) S.1 S.2.1 dX10_left_216 hl (k := 0) rfl (by decide) (by decide) rfl (fun ls hl => ?_)
  refine lv_goto (tgt := 29) S.1 S.2.1 dX10_left_219 (by decide) ?_
  refine lv_iload S.1 S.2.1 dX10_left_29 (lv_at hl 0 rfl) ?_
  refine lv_if_lt (tgt := 222) S.1 S.2.1 dX10_left_31 (by decide) (fun _ => ?_) (fun c => absurd (by decide) c)
  refine lv_iinc (v := (-1)) (lv' := [(6, .int (-1)), (7, .int (-1)), (5, .ref n), (0, .ref (N0 + 164)), (1, .ref (N0 + 171)), (2, .ref b1), (3, .ref (N0 + 171)), (4, .ref (b1 + 1))]) S.1 S.2.1 dX10_left_222 hl (k := 1) rfl (by decide) (by decide) rfl (fun ls hl => ?_)
  refine lv_goto (tgt := 19) S.1 S.2.1 dX10_left_225 (by decide) ?_
  refine lv_iload S.1 S.2.1 dX10_left_19 (lv_at hl 0 rfl) ?_
  refine lv_if_lt (tgt := 228) S.1 S.2.1 dX10_left_21 (by decide) (fun _ => ?_) (fun c => absurd (by decide) c)
  refine lv_aload S.1 S.2.1 dX10_left_228 (lv_at hl 2 rfl) ?_
  have hG : fG N0 D vwCl (fty cI cC cL cD cII cTr cTm cIt cB) (fen ql) s (fblk F n [.inl (cII, 1, .inr (.inr (.inr (.inr (fun j => if j < 1 then some ((n + 1) + j) else none))))), .inl (cI, 1, .inl (fun _ => 0))]) (n + 2) H _ := hG.weak (fun a e h => by
    rcases fblk_cases 2 rfl h with ⟨k, rfl, hlt, hk⟩ | ⟨hout, h⟩
    · rcases (show k = 0 ∨ k = 1 by omega) with rfl | rfl
      · cases (show some (.inl (cII, 1, .inr (.inr (.inr (.inr (fun j => if j < 1 then some ((n + 1) + j) else none)))))) = some e from hk); exact (fblk_sk 1 rfl (by omega) fu_s)
      · cases (show some (.inl (cI, 1, .inl (fun _ => 0))) = some e from hk); exact (fblk_at 0 (by omega) rfl)
    · exact (fblk_sk 1 rfl (by omega) (fu_at (by omega) h)))
  exact fx_aret S hr (Or.inr ⟨_, rfl⟩) hlocks () hG (rfl) dX10_left_230
set_option maxHeartbeats 16000000 in
theorem k1241_X10_fills {n : Nat} (hn : N0 + 231 ≤ n) (h0 : F (N0 + 171) = some (.inr (11, [.ref (N0 + 172), .ref (N0 + 173), .ref (N0 + 174), .ref (N0 + 175), .int 1]))) (h1 : F (N0 + 172) = some (.inl (cI, 20, .inl (upd (fun _ => 0) 0 97)))) (h2 : F (N0 + 174) = some (.inl (cI, 20, .inl (upd (fun _ => 0) 0 0)))) (h3 : F (N0 + 164) = some (.inr (12, [.ref (N0 + 165), .int 0, .ref (N0 + 181), .int 0, .int 0, .int 0, .int (-1), .ref (ql 24), .ref (N0 + 182), .ref (N0 + 187), .ref (N0 + 208), .ref (N0 + 209), .ref (N0 + 210), .ref (N0 + 211), .ref (N0 + 212), .int 0, .ref (N0 + 213), .ref (N0 + 218), .ref (N0 + 223), .ref (N0 + 224), .ref (N0 + 225), .ref (N0 + 226), .ref (N0 + 227), .int 0, .int 0, .ref (N0 + 228), .null, .int (-1), .int 0, .int 0, .int 0]))) (h4 : F (N0 + 187) = some (.inl (cII, 20, .inr (.inr (.inr (.inr (fun j => if j < 20 then some ((N0 + 188) + j) else none))))))) (h5 : F (N0 + 188) = some (.inl (cI, 20, .inl (fun _ => 0)))) : Met l yX10_fills wsX10_fills ({ frames := 2, cells := 4, slots := 2, locals := 47 }) (va_Pc [.ref (N0 + 164), .ref (N0 + 171), .ref (N0 + 171)] (fP N0 D vwCl (fty cI cC cL cD cII cTr cTm cIt cB) (fen ql) F n)) (fQi N0 D vwCl (fty cI cC cL cD cII cTr cTm cIt cB) (fun (r : Int32) (_ : Unit) => r = 0) (fun _ => (fblk (fu F (N0 + 188) (.inl (cI, 20, .inl (upd (fun _ => 0) 0 0)))) n [.inl (cI, 0, .inl (fun _ => 0)), .inl (cI, 0, .inl (fun _ => 0)), .inl (cII, 1, .inr (.inr (.inr (.inr (fun j => if j < 1 then some ((n + 3) + j) else none))))), .inl (cI, 1, .inl (fun _ => 0))])) (fun _ => (n + 4))) 4 2 (fA N0) := by
  refine fx_start 6 rfl rfl (Nat.le_of_ble_eq_true rfl) ?_ rfl
  intro p e s m below meth c ls S hr hlocks hin hG hl
  have hl : lv_has ls 6 [(0, .ref (N0 + 164)), (1, .ref (N0 + 171)), (2, .ref (N0 + 171))] := hl
  have lt_h0 := hG.1.lt h0
  have lt_h1 := hG.1.lt h1
  have lt_h2 := hG.1.lt h2
  have lt_h3 := hG.1.lt h3
  have lt_h4 := hG.1.lt h4
  have lt_h5 := hG.1.lt h5
  refine lv_aload_n S.1 S.2.1 dX10_fills_0 rfl (lv_at hl 1 rfl) ?_
  refine gx_getN (C := RX9) (T := TX9) (N := 5) S hG h0 i_X10_fills_X9 rfl 4 (by decide) (List.mem_of_getElem? (i := 4) rfl) rfl dX10_fills_1 ?_
  refine lv_iconst (v := 1) S.1 S.2.1 dX10_fills_4 (by decide) ?_
  refine lv_isub S.1 S.2.1 dX10_fills_5 ?_
  refine fx_topi (y := 0) (by decide) ?_
  refine lv_istore_n (lv' := [(3, .int 0), (0, .ref (N0 + 164)), (1, .ref (N0 + 171)), (2, .ref (N0 + 171))]) S.1 S.2.1 dX10_fills_6 rfl hl (by decide) rfl (fun ls hl => ?_)
  refine lv_iload_n S.1 S.2.1 dX10_fills_7 rfl (lv_at hl 0 rfl) ?_
  refine lv_if_lt (tgt := 114) S.1 S.2.1 dX10_fills_8 (by decide) (fun c => absurd c (by decide)) (fun _ => ?_)
  refine lv_aload_n S.1 S.2.1 dX10_fills_11 rfl (lv_at hl 3 rfl) ?_
  refine gx_getN (C := RX9) (T := TX9) (N := 5) S hG h0 i_X10_fills_X9 rfl 4 (by decide) (List.mem_of_getElem? (i := 4) rfl) rfl dX10_fills_12 ?_
  refine lv_iconst (v := 1) S.1 S.2.1 dX10_fills_15 (by decide) ?_
  refine lv_isub S.1 S.2.1 dX10_fills_16 ?_
  refine fx_topi (y := 0) (by decide) ?_
  refine lv_istore (lv' := [(4, .int 0), (3, .int 0), (0, .ref (N0 + 164)), (1, .ref (N0 + 171)), (2, .ref (N0 + 171))]) S.1 S.2.1 dX10_fills_17 hl (by decide) rfl (fun ls hl => ?_)
  refine lv_iload S.1 S.2.1 dX10_fills_19 (lv_at hl 0 rfl) ?_
  refine lv_if_lt (tgt := 108) S.1 S.2.1 dX10_fills_21 (by decide) (fun c => absurd c (by decide)) (fun _ => ?_)
  refine lv_aload_n S.1 S.2.1 dX10_fills_24 rfl (lv_at hl 3 rfl) ?_
  refine gx_getN (C := RX9) (T := TX9) (N := 5) S hG h0 i_X10_fills_X9 rfl 0 (by decide) (List.mem_of_getElem? (i := 1) rfl) rfl dX10_fills_25 ?_
  refine lv_iload_n S.1 S.2.1 dX10_fills_28 rfl (lv_at hl 1 rfl) ?_
  refine gx_iald (v := 97) S hG 0 h1 rfl (fin_l (by decide)) (by decide) dX10_fills_29 ?_
  refine lv_aload_n S.1 S.2.1 dX10_fills_30 rfl (lv_at hl 4 rfl) ?_
  refine gx_getN (C := RX9) (T := TX9) (N := 5) S hG h0 i_X10_fills_X9 rfl 0 (by decide) (List.mem_of_getElem? (i := 1) rfl) rfl dX10_fills_31 ?_
  refine lv_iload S.1 S.2.1 dX10_fills_34 (lv_at hl 0 rfl) ?_
  refine gx_iald (v := 97) S hG 0 h1 rfl (fin_l (by decide)) (by decide) dX10_fills_36 ?_
  refine lv_icmp_ne (tgt := 44) S.1 S.2.1 dX10_fills_37 (by decide) (fun c => absurd (by decide) c) (fun _ => ?_)
  refine lv_iconst (v := 0) S.1 S.2.1 dX10_fills_40 (by decide) ?_
  refine lv_goto (tgt := 45) S.1 S.2.1 dX10_fills_41 (by decide) ?_
  refine lv_aload_n S.1 S.2.1 dX10_fills_45 rfl (lv_at hl 3 rfl) ?_
  refine gx_getN (C := RX9) (T := TX9) (N := 5) S hG h0 i_X10_fills_X9 rfl 2 (by decide) (List.mem_of_getElem? (i := 3) rfl) rfl dX10_fills_46 ?_
  refine lv_iload_n S.1 S.2.1 dX10_fills_49 rfl (lv_at hl 1 rfl) ?_
  refine gx_iald (v := 0) S hG 0 h2 rfl (fin_l (by decide)) (by decide) dX10_fills_50 ?_
  refine lv_aload_n S.1 S.2.1 dX10_fills_51 rfl (lv_at hl 4 rfl) ?_
  refine gx_getN (C := RX9) (T := TX9) (N := 5) S hG h0 i_X10_fills_X9 rfl 2 (by decide) (List.mem_of_getElem? (i := 3) rfl) rfl dX10_fills_52 ?_
  refine lv_iload S.1 S.2.1 dX10_fills_55 (lv_at hl 0 rfl) ?_
  refine gx_iald (v := 0) S hG 0 h2 rfl (fin_l (by decide)) (by decide) dX10_fills_57 ?_
  refine lv_icmp_ne (tgt := 65) S.1 S.2.1 dX10_fills_58 (by decide) (fun c => absurd (by decide) c) (fun _ => ?_)
  refine lv_iconst (v := 0) S.1 S.2.1 dX10_fills_61 (by decide) ?_
  refine lv_goto (tgt := 66) S.1 S.2.1 dX10_fills_62 (by decide) ?_
  refine lv_iadd S.1 S.2.1 dX10_fills_66 ?_
  refine fx_topi (y := 0) (by decide) ?_
  refine lv_istore (lv' := [(5, .int 0), (4, .int 0), (3, .int 0), (0, .ref (N0 + 164)), (1, .ref (N0 + 171)), (2, .ref (N0 + 171))]) S.1 S.2.1 dX10_fills_67 hl (by decide) rfl (fun ls hl => ?_)
  refine lv_aload_n S.1 S.2.1 dX10_fills_69 rfl (lv_at hl 3 rfl) ?_
  refine gx_get (C := RX10) (T := TX10) (N := 31) S hG h3 i_X10_fills_X10 rfl 9 (by decide) (by decide +kernel) rfl dX10_fills_70 ?_
  refine lv_iload_n S.1 S.2.1 dX10_fills_73 rfl (lv_at hl 2 rfl) ?_
  refine gx_aldq (x := (N0 + 188)) S hG 4 rfl h4 rfl (fin_l (by decide)) (rfl) dX10_fills_74 ?_
  refine lv_iload S.1 S.2.1 dX10_fills_75 (lv_at hl 1 rfl) ?_
  refine lv_iload S.1 S.2.1 dX10_fills_77 (lv_at hl 0 rfl) ?_
  refine lv_aload_n S.1 S.2.1 dX10_fills_79 rfl (lv_at hl 3 rfl) ?_
  refine lv_aload_n S.1 S.2.1 dX10_fills_80 rfl (lv_at hl 4 rfl) ?_
  refine lv_aload_n S.1 S.2.1 dX10_fills_81 rfl (lv_at hl 4 rfl) ?_
  refine lv_iload_n S.1 S.2.1 dX10_fills_82 rfl (lv_at hl 2 rfl) ?_
  refine fx_cVNr (host := "TreeDifferModel") (As := [.int 0]) (rest := [.ref (N0 + 171), .ref (N0 + 164), .int 0, .int 0, .ref (N0 + 188)]) S hG (k151_X9_kids (by omega) h0) h0 rfl ⟨(va_cnB 1 S.2.2.2.2 gX10_fills_X9_kids_n173 rfl rfl rfl (hG.nest (show _ ∈ fen2.2.2.1 from by decide)) (S.2.2.2.2 (.initialized RX9) (by decide +kernel)) (by decide +kernel) ⟨Nat.le_of_ble_eq_true rfl, Nat.le_of_ble_eq_true rfl⟩), S.2.2.2.2 (.instanceMethod yX9_kids) (by decide +kernel), S.2.2.2.2 (.selects RX9 yX9_kids yX9_kids) (by decide +kernel)⟩ rfl hl.1 rfl (Nat.le_of_ble_eq_true rfl) dX10_fills_83 ⟨Nat.le_of_ble_eq_true rfl, Nat.le_of_ble_eq_true rfl⟩ (fun rv_1 _ H locs hp hG => ?_)
  subst rv_1
  refine W.widen (k := 1) (n := 0) (by decide) (by decide) ?_
  refine lv_aload_n S.1 S.2.1 dX10_fills_86 rfl (lv_at hl 5 rfl) ?_
  refine lv_aload_n S.1 S.2.1 dX10_fills_87 rfl (lv_at hl 5 rfl) ?_
  refine lv_iload S.1 S.2.1 dX10_fills_88 (lv_at hl 1 rfl) ?_
  refine fx_cVNr (host := "TreeDifferModel") (As := [.int 0]) (rest := [.ref (N0 + 171), .ref n, .ref (N0 + 171), .ref (N0 + 164), .int 0, .int 0, .ref (N0 + 188)]) S hG (k151_X9_kids (by omega) (fblk_sk 1 rfl (by omega) h0)) (fblk_sk 1 rfl (by omega) h0) rfl ⟨(va_cnB 1 S.2.2.2.2 gX10_fills_X9_kids_n173 rfl rfl rfl (hG.nest (show _ ∈ fen2.2.2.1 from by decide)) (S.2.2.2.2 (.initialized RX9) (by decide +kernel)) (by decide +kernel) ⟨Nat.le_of_ble_eq_true rfl, Nat.le_of_ble_eq_true rfl⟩), S.2.2.2.2 (.instanceMethod yX9_kids) (by decide +kernel), S.2.2.2.2 (.selects RX9 yX9_kids yX9_kids) (by decide +kernel)⟩ rfl hl.1 rfl (Nat.le_of_ble_eq_true rfl) dX10_fills_90 ⟨Nat.le_of_ble_eq_true rfl, Nat.le_of_ble_eq_true rfl⟩ (fun rv_2 _ H locs hp hG => ?_)
  subst rv_2
  refine W.widen (k := 2) (n := 0) (by decide) (by decide) ?_
  refine fx_cVr (As := [.ref (N0 + 171), .ref n, .ref (N0 + 171), .ref (n + 1)]) (rest := [.int 0, .int 0, .ref (N0 + 188)]) S hG (k1240_X10_left (by omega) (by omega) (fblk_sk 1 rfl (by omega) (fblk_at 0 (by omega) rfl)) (fblk_at 0 (by omega) rfl)) (fblk_sk 1 rfl (by omega) (fblk_sk 1 rfl (by omega) h3)) rfl (cwV 4 S.2.2.2.2 gX10_fills_X10_left rfl rfl rfl (by decide +kernel) ⟨Nat.le_of_ble_eq_true rfl, Nat.le_of_ble_eq_true rfl⟩) rfl hl.1 rfl (Nat.le_of_ble_eq_true rfl) dX10_fills_93 ⟨Nat.le_of_ble_eq_true rfl, Nat.le_of_ble_eq_true rfl⟩ (fun rv_3 _ H locs hp hG => ?_)
  subst rv_3
  refine W.widen (k := 4) (n := 2) (by decide) (by decide) ?_
  refine lv_iconst (v := 0) S.1 S.2.1 dX10_fills_96 (by decide) ?_
  refine gx_aldq (x := (n + 3)) S hG 4 rfl (fblk_at 0 (by omega) rfl) rfl (fin_l (by decide)) (rfl) dX10_fills_97 ?_
  refine lv_iconst (v := 0) S.1 S.2.1 dX10_fills_98 (by decide) ?_
  refine gx_iald (v := 0) S hG 0 (fblk_at 1 (by omega) rfl) rfl (fin_l (by decide)) (by decide) dX10_fills_99 ?_
  refine lv_iadd S.1 S.2.1 dX10_fills_100 ?_
  refine fx_topi (y := 0) (by decide) ?_
  refine gx_iast (f' := upd (fun _ => 0) 0 0) S hG 0 (fblk_sk 2 rfl (by omega) (fblk_sk 1 rfl (by omega) (fblk_sk 1 rfl (by omega) h5))) rfl (fin_l (by decide)) dX10_fills_101 (rfl) (fun H locs hG => ?_)
  refine lv_iinc (v := (-1)) (lv' := [(4, .int (-1)), (5, .int 0), (3, .int 0), (0, .ref (N0 + 164)), (1, .ref (N0 + 171)), (2, .ref (N0 + 171))]) S.1 S.2.1 dX10_fills_102 hl (k := 1) rfl (by decide) (by decide) rfl (fun ls hl => ?_)
  refine lv_goto (tgt := 19) S.1 S.2.1 dX10_fills_105 (by decide) ?_
  refine lv_iload S.1 S.2.1 dX10_fills_19 (lv_at hl 0 rfl) ?_
  refine lv_if_lt (tgt := 108) S.1 S.2.1 dX10_fills_21 (by decide) (fun _ => ?_) (fun c => absurd (by decide) c)
  refine lv_iinc (v := (-1)) (lv' := [(3, .int (-1)), (4, .int (-1)), (5, .int 0), (0, .ref (N0 + 164)), (1, .ref (N0 + 171)), (2, .ref (N0 + 171))]) S.1 S.2.1 dX10_fills_108 hl (k := 2) rfl (by decide) (by decide) rfl (fun ls hl => ?_)
  refine lv_goto (tgt := 7) S.1 S.2.1 dX10_fills_111 (by decide) ?_
  refine lv_iload_n S.1 S.2.1 dX10_fills_7 rfl (lv_at hl 0 rfl) ?_
  refine lv_if_lt (tgt := 114) S.1 S.2.1 dX10_fills_8 (by decide) (fun _ => ?_) (fun c => absurd (by decide) c)
  refine lv_aload_n S.1 S.2.1 dX10_fills_114 rfl (lv_at hl 3 rfl) ?_
  refine gx_get (C := RX10) (T := TX10) (N := 31) S hG (fu_at (by omega) (fblk_sk 2 rfl (by omega) (fblk_sk 1 rfl (by omega) (fblk_sk 1 rfl (by omega) h3)))) i_X10_fills_X10 rfl 9 (by decide) (by decide +kernel) rfl dX10_fills_115 ?_
  refine lv_iconst (v := 0) S.1 S.2.1 dX10_fills_118 (by decide) ?_
  refine gx_aldq (x := (N0 + 188)) S hG 4 rfl (fu_at (by omega) (fblk_sk 2 rfl (by omega) (fblk_sk 1 rfl (by omega) (fblk_sk 1 rfl (by omega) h4)))) rfl (fin_l (by decide)) (rfl) dX10_fills_119 ?_
  refine lv_iconst (v := 0) S.1 S.2.1 dX10_fills_120 (by decide) ?_
  refine gx_iald (v := 0) S hG 0 fu_s rfl (fin_l (by decide)) (by decide) dX10_fills_121 ?_
  have hG : fG N0 D vwCl (fty cI cC cL cD cII cTr cTm cIt cB) (fen ql) s (fblk (fu F (N0 + 188) (.inl (cI, 20, .inl (upd (fun _ => 0) 0 0)))) n [.inl (cI, 0, .inl (fun _ => 0)), .inl (cI, 0, .inl (fun _ => 0)), .inl (cII, 1, .inr (.inr (.inr (.inr (fun j => if j < 1 then some ((n + 3) + j) else none))))), .inl (cI, 1, .inl (fun _ => 0))]) (n + 4) H locs := hG.weak (fun a e h => by
    rcases fblk_cases 4 rfl h with ⟨k, rfl, hlt, hk⟩ | ⟨hout, h⟩
    · rcases (show k = 0 ∨ k = 1 ∨ k = 2 ∨ k = 3 by omega) with rfl | rfl | rfl | rfl
      · cases (show some (.inl (cI, 0, .inl (fun _ => 0))) = some e from hk); exact (fu_at (by omega) (fblk_sk 2 rfl (by omega) (fblk_sk 1 rfl (by omega) (fblk_at 0 (by omega) rfl))))
      · cases (show some (.inl (cI, 0, .inl (fun _ => 0))) = some e from hk); exact (fu_at (by omega) (fblk_sk 2 rfl (by omega) (fblk_at 0 (by omega) rfl)))
      · cases (show some (.inl (cII, 1, .inr (.inr (.inr (.inr (fun j => if j < 1 then some ((n + 3) + j) else none)))))) = some e from hk); exact (fu_at (by omega) (fblk_at 0 (by omega) rfl))
      · cases (show some (.inl (cI, 1, .inl (fun _ => 0))) = some e from hk); exact (fu_at (by omega) (fblk_at 1 (by omega) rfl))
    · rcases fu_cases h with ⟨rfl, he⟩ | ⟨hne0, h⟩
      · cases he; exact fu_s
      · exact (fu_at (by omega) (fblk_sk 2 rfl (by omega) (fblk_sk 1 rfl (by omega) (fblk_sk 1 rfl (by omega) h)))))
  exact fx_iret S hr hlocks () hG (rfl) dX10_fills_122
theorem k1242_X10_distance {n : Nat} (hn : N0 + 231 ≤ n) (h0 : F (N0 + 164) = some (.inr (12, [.ref (N0 + 165), .int 0, .ref (N0 + 181), .int 0, .int 0, .int 0, .int (-1), .ref (ql 24), .ref (N0 + 182), .ref (N0 + 187), .ref (N0 + 208), .ref (N0 + 209), .ref (N0 + 210), .ref (N0 + 211), .ref (N0 + 212), .int 0, .ref (N0 + 213), .ref (N0 + 218), .ref (N0 + 223), .ref (N0 + 224), .ref (N0 + 225), .ref (N0 + 226), .ref (N0 + 227), .int 0, .int 0, .ref (N0 + 228), .null, .int (-1), .int 0, .int 0, .int 0]))) (h1 : F (N0 + 165) = some (.inl (cTm, 3, .inr (.inr (.inr (.inr (va_up (va_up (va_up (fun _ => none) 0 (some (N0 + 166))) 1 (some (N0 + 171))) 2 (some (N0 + 176))))))))) (h2 : F (N0 + 171) = some (.inr (11, [.ref (N0 + 172), .ref (N0 + 173), .ref (N0 + 174), .ref (N0 + 175), .int 1]))) (h3 : F (N0 + 172) = some (.inl (cI, 20, .inl (upd (fun _ => 0) 0 97)))) (h4 : F (N0 + 174) = some (.inl (cI, 20, .inl (upd (fun _ => 0) 0 0)))) (h5 : F (N0 + 187) = some (.inl (cII, 20, .inr (.inr (.inr (.inr (fun j => if j < 20 then some ((N0 + 188) + j) else none))))))) (h6 : F (N0 + 188) = some (.inl (cI, 20, .inl (fun _ => 0)))) : Met l yX10_distance wsX10_distance ({ frames := 3, cells := 4, slots := 2, locals := 72 }) (va_Pc [.ref (N0 + 164), .int 1, .int 1] (fP N0 D vwCl (fty cI cC cL cD cII cTr cTm cIt cB) (fen ql) F n)) (fQi N0 D vwCl (fty cI cC cL cD cII cTr cTm cIt cB) (fun (r : Int32) (_ : Unit) => r = 0) (fun _ => (fblk (fu (fu F (N0 + 164) (.inr (12, [.ref (N0 + 165), .int 0, .ref (N0 + 181), .int 0, .int 0, .int 0, .int (-1), .ref (ql 24), .ref (N0 + 182), .ref (N0 + 187), .ref (N0 + 208), .ref (N0 + 209), .ref (N0 + 210), .ref (N0 + 211), .ref (N0 + 212), .int 0, .ref (N0 + 213), .ref (N0 + 218), .ref (N0 + 223), .ref (N0 + 224), .ref (N0 + 225), .ref (N0 + 226), .ref (N0 + 227), .int 0, .int 0, .ref (N0 + 228), .null, .int (-1), .int 0, .int 0, .int 0]))) (N0 + 188) (.inl (cI, 20, .inl (upd (fun _ => 0) 0 0)))) n [.inl (cI, 0, .inl (fun _ => 0)), .inl (cI, 0, .inl (fun _ => 0)), .inl (cII, 1, .inr (.inr (.inr (.inr (fun j => if j < 1 then some ((n + 3) + j) else none))))), .inl (cI, 1, .inl (fun _ => 0))])) (fun _ => (n + 4))) 4 2 (fA N0) := by
  refine fx_start 3 rfl rfl (Nat.le_of_ble_eq_true rfl) ?_ rfl
  intro p e s m below meth c ls S hr hlocks hin hG hl
  have hl : lv_has ls 3 [(0, .ref (N0 + 164)), (1, .int 1), (2, .int 1)] := hl
  have lt_h0 := hG.1.lt h0
  have lt_h1 := hG.1.lt h1
  have lt_h2 := hG.1.lt h2
  have lt_h3 := hG.1.lt h3
  have lt_h4 := hG.1.lt h4
  have lt_h5 := hG.1.lt h5
  have lt_h6 := hG.1.lt h6
  refine lv_aload_n S.1 S.2.1 dX10_distance_0 rfl (lv_at hl 0 rfl) ?_
  refine lv_iload_n S.1 S.2.1 dX10_distance_1 rfl (lv_at hl 1 rfl) ?_
  refine lv_iload_n S.1 S.2.1 dX10_distance_2 rfl (lv_at hl 2 rfl) ?_
  refine fx_cVi (As := [.int 1, .int 1]) (rest := []) S hG (k498_X10_areNone (by omega) h0) h0 rfl (cwV 2 S.2.2.2.2 gX10_distance_X10_areNone rfl rfl rfl (by decide +kernel) ⟨Nat.le_of_ble_eq_true rfl, Nat.le_of_ble_eq_true rfl⟩) rfl hl.1 rfl (Nat.le_of_ble_eq_true rfl) dX10_distance_3 ⟨Nat.le_of_ble_eq_true rfl, Nat.le_of_ble_eq_true rfl⟩ (fun rv_1 _ H locs hp hG => ?_)
  subst rv_1
  refine lv_if_eq (tgt := 13) S.1 S.2.1 dX10_distance_6 (by decide) (fun _ => ?_) (fun c => absurd (by decide) c)
  refine lv_aload_n S.1 S.2.1 dX10_distance_13 rfl (lv_at hl 0 rfl) ?_
  refine lv_aload_n S.1 S.2.1 dX10_distance_14 rfl (lv_at hl 0 rfl) ?_
  refine gx_get (C := RX10) (T := TX10) (N := 31) S hG fu_s i_X10_distance_X10 rfl 0 (by decide) (by decide +kernel) rfl dX10_distance_15 ?_
  refine lv_iload_n S.1 S.2.1 dX10_distance_18 rfl (lv_at hl 1 rfl) ?_
  refine gx_aldq (x := (N0 + 171)) S hG 6 rfl (fu_at (by omega) h1) rfl (fin_l (by decide)) (rfl) dX10_distance_19 ?_
  refine lv_aload_n S.1 S.2.1 dX10_distance_20 rfl (lv_at hl 0 rfl) ?_
  refine gx_get (C := RX10) (T := TX10) (N := 31) S hG fu_s i_X10_distance_X10 rfl 0 (by decide) (by decide +kernel) rfl dX10_distance_21 ?_
  refine lv_iload_n S.1 S.2.1 dX10_distance_24 rfl (lv_at hl 2 rfl) ?_
  refine gx_aldq (x := (N0 + 171)) S hG 6 rfl (fu_at (by omega) h1) rfl (fin_l (by decide)) (rfl) dX10_distance_25 ?_
  refine fx_cVi (As := [.ref (N0 + 171), .ref (N0 + 171)]) (rest := []) S hG (k1241_X10_fills (by omega) (fu_at (by omega) h2) (fu_at (by omega) h3) (fu_at (by omega) h4) fu_s (fu_at (by omega) h5) (fu_at (by omega) h6)) fu_s rfl (cwV 2 S.2.2.2.2 gX10_distance_X10_fills rfl rfl rfl (by decide +kernel) ⟨Nat.le_of_ble_eq_true rfl, Nat.le_of_ble_eq_true rfl⟩) rfl hl.1 rfl (Nat.le_of_ble_eq_true rfl) dX10_distance_26 ⟨Nat.le_of_ble_eq_true rfl, Nat.le_of_ble_eq_true rfl⟩ (fun rv_2 _ H locs hp hG => ?_)
  subst rv_2
  refine W.widen (k := 4) (n := 2) (by decide) (by decide) ?_
  have hG : fG N0 D vwCl (fty cI cC cL cD cII cTr cTm cIt cB) (fen ql) s (fblk (fu (fu F (N0 + 164) (.inr (12, [.ref (N0 + 165), .int 0, .ref (N0 + 181), .int 0, .int 0, .int 0, .int (-1), .ref (ql 24), .ref (N0 + 182), .ref (N0 + 187), .ref (N0 + 208), .ref (N0 + 209), .ref (N0 + 210), .ref (N0 + 211), .ref (N0 + 212), .int 0, .ref (N0 + 213), .ref (N0 + 218), .ref (N0 + 223), .ref (N0 + 224), .ref (N0 + 225), .ref (N0 + 226), .ref (N0 + 227), .int 0, .int 0, .ref (N0 + 228), .null, .int (-1), .int 0, .int 0, .int 0]))) (N0 + 188) (.inl (cI, 20, .inl (upd (fun _ => 0) 0 0)))) n [.inl (cI, 0, .inl (fun _ => 0)), .inl (cI, 0, .inl (fun _ => 0)), .inl (cII, 1, .inr (.inr (.inr (.inr (fun j => if j < 1 then some ((n + 3) + j) else none))))), .inl (cI, 1, .inl (fun _ => 0))]) (n + 4) H locs := hG.weak (fun a e h => by
    rcases fblk_cases 4 rfl h with ⟨k, rfl, hlt, hk⟩ | ⟨hout, h⟩
    · rcases (show k = 0 ∨ k = 1 ∨ k = 2 ∨ k = 3 by omega) with rfl | rfl | rfl | rfl
      · cases (show some (.inl (cI, 0, .inl (fun _ => 0))) = some e from hk); exact (fblk_at 0 (by omega) rfl)
      · cases (show some (.inl (cI, 0, .inl (fun _ => 0))) = some e from hk); exact (fblk_at 1 (by omega) rfl)
      · cases (show some (.inl (cII, 1, .inr (.inr (.inr (.inr (fun j => if j < 1 then some ((n + 3) + j) else none)))))) = some e from hk); exact (fblk_at 2 (by omega) rfl)
      · cases (show some (.inl (cI, 1, .inl (fun _ => 0))) = some e from hk); exact (fblk_at 3 (by omega) rfl)
    · rcases fu_cases h with ⟨rfl, he⟩ | ⟨hne0, h⟩
      · cases he; exact (fblk_sk 4 rfl (by omega) fu_s)
      · skip
        rcases fu_cases h with ⟨rfl, he⟩ | ⟨hne1, h⟩
        · cases he; exact (fblk_sk 4 rfl (by omega) (fu_at (by omega) fu_s))
        · exact (fblk_sk 4 rfl (by omega) (fu_at (by omega) (fu_at (by omega) h))))
  exact fx_iret S hr hlocks () hG (rfl) dX10_distance_29
theorem k1243_X1_restCost {n : Nat} (hn : N0 + 231 ≤ n) (h0 : F (N0 + 13) = some (.inr (3, [.ref (N0 + 14), .ref (N0 + 35), .ref (N0 + 57), .ref (N0 + 58), .ref (N0 + 59), .ref (N0 + 60), .int 0, .int 0, .ref (N0 + 61), .ref (N0 + 62)]))) : Met l yX1_restCost wsX1_restCost ({ frames := 0, cells := 0, slots := 0, locals := 0 }) (va_Pc [.ref (N0 + 13), .ref (N0 + 150), .ref (N0 + 157), .int 0, .int 0] (fP N0 D vwCl (fty cI cC cL cD cII cTr cTm cIt cB) (fen ql) F n)) (fQi N0 D vwCl (fty cI cC cL cD cII cTr cTm cIt cB) (fun (r : Int32) (_ : Unit) => r = 0) (fun _ => F) (fun _ => n)) 0 0 (fA N0) := by
  refine fx_start 6 rfl rfl (Nat.le_of_ble_eq_true rfl) ?_ rfl
  intro p e s m below meth c ls S hr hlocks hin hG hl
  have hl : lv_has ls 6 [(0, .ref (N0 + 13)), (1, .ref (N0 + 150)), (2, .ref (N0 + 157)), (3, .int 0), (4, .int 0)] := hl
  have lt_h0 := hG.1.lt h0
  refine lv_iload_n S.1 S.2.1 dX1_restCost_0 rfl (lv_at hl 3 rfl) ?_
  refine lv_aload_n S.1 S.2.1 dX1_restCost_1 rfl (lv_at hl 0 rfl) ?_
  refine gx_get (C := RX1) (T := TX1) (N := 10) S hG h0 i_X1_restCost_X1 rfl 6 (by decide) (by decide +kernel) rfl dX1_restCost_2 ?_
  refine lv_icmp_ne (tgt := 29) S.1 S.2.1 dX1_restCost_5 (by decide) (fun c => absurd (by decide) c) (fun _ => ?_)
  refine lv_iload S.1 S.2.1 dX1_restCost_8 (lv_at hl 4 rfl) ?_
  refine lv_aload_n S.1 S.2.1 dX1_restCost_10 rfl (lv_at hl 0 rfl) ?_
  refine gx_get (C := RX1) (T := TX1) (N := 10) S hG h0 i_X1_restCost_X1 rfl 7 (by decide) (by decide +kernel) rfl dX1_restCost_11 ?_
  refine lv_icmp_ne (tgt := 21) S.1 S.2.1 dX1_restCost_14 (by decide) (fun c => absurd (by decide) c) (fun _ => ?_)
  refine lv_iconst (v := 0) S.1 S.2.1 dX1_restCost_17 (by decide) ?_
  refine lv_goto (tgt := 28) S.1 S.2.1 dX1_restCost_18 (by decide) ?_
  exact fx_iret S hr hlocks () hG (rfl) dX1_restCost_28
theorem k1244_X1_fillRestCosts {n : Nat} (hn : N0 + 231 ≤ n) (h0 : F (N0 + 13) = some (.inr (3, [.ref (N0 + 14), .ref (N0 + 35), .ref (N0 + 57), .ref (N0 + 58), .ref (N0 + 59), .ref (N0 + 60), .int 0, .int 0, .ref (N0 + 61), .ref (N0 + 62)]))) (h1 : F (N0 + 35) = some (.inl (cII, 21, .inr (.inr (.inr (.inr (fun j => if j < 21 then some ((N0 + 36) + j) else none))))))) (h2 : F (N0 + 36) = some (.inl (cI, 21, .inl (fun _ => 0)))) : Met l yX1_fillRestCosts wsX1_fillRestCosts ({ frames := 1, cells := 0, slots := 0, locals := 25 }) (va_Pc [.ref (N0 + 13), .ref (N0 + 150), .ref (N0 + 157)] (fP N0 D vwCl (fty cI cC cL cD cII cTr cTm cIt cB) (fen ql) F n)) (fQv N0 D vwCl (fty cI cC cL cD cII cTr cTm cIt cB) (fun (_ : Unit) => True) (fun _ => (fu F (N0 + 36) (.inl (cI, 21, .inl (upd (fun _ => 0) 0 0))))) (fun _ => n)) 0 0 (fA N0) := by
  refine fx_start 5 rfl rfl (Nat.le_of_ble_eq_true rfl) ?_ rfl
  intro p e s m below meth c ls S hr hlocks hin hG hl
  have hl : lv_has ls 5 [(0, .ref (N0 + 13)), (1, .ref (N0 + 150)), (2, .ref (N0 + 157))] := hl
  have lt_h0 := hG.1.lt h0
  have lt_h1 := hG.1.lt h1
  have lt_h2 := hG.1.lt h2
  refine lv_aload_n S.1 S.2.1 dX1_fillRestCosts_0 rfl (lv_at hl 0 rfl) ?_
  refine gx_get (C := RX1) (T := TX1) (N := 10) S hG h0 i_X1_fillRestCosts_X1 rfl 6 (by decide) (by decide +kernel) rfl dX1_fillRestCosts_1 ?_
  refine lv_istore_n (lv' := [(3, .int 0), (0, .ref (N0 + 13)), (1, .ref (N0 + 150)), (2, .ref (N0 + 157))]) S.1 S.2.1 dX1_fillRestCosts_4 rfl hl (by decide) rfl (fun ls hl => ?_)
  refine lv_iload_n S.1 S.2.1 dX1_fillRestCosts_5 rfl (lv_at hl 0 rfl) ?_
  refine lv_if_lt (tgt := 50) S.1 S.2.1 dX1_fillRestCosts_6 (by decide) (fun c => absurd c (by decide)) (fun _ => ?_)
  refine lv_aload_n S.1 S.2.1 dX1_fillRestCosts_9 rfl (lv_at hl 1 rfl) ?_
  refine gx_get (C := RX1) (T := TX1) (N := 10) S hG h0 i_X1_fillRestCosts_X1 rfl 7 (by decide) (by decide +kernel) rfl dX1_fillRestCosts_10 ?_
  refine lv_istore (lv' := [(4, .int 0), (3, .int 0), (0, .ref (N0 + 13)), (1, .ref (N0 + 150)), (2, .ref (N0 + 157))]) S.1 S.2.1 dX1_fillRestCosts_13 hl (by decide) rfl (fun ls hl => ?_)
  refine lv_iload S.1 S.2.1 dX1_fillRestCosts_15 (lv_at hl 0 rfl) ?_
  refine lv_if_lt (tgt := 44) S.1 S.2.1 dX1_fillRestCosts_17 (by decide) (fun c => absurd c (by decide)) (fun _ => ?_)
  refine lv_aload_n S.1 S.2.1 dX1_fillRestCosts_20 rfl (lv_at hl 2 rfl) ?_
  refine gx_get (C := RX1) (T := TX1) (N := 10) S hG h0 i_X1_fillRestCosts_X1 rfl 1 (by decide) (by decide +kernel) rfl dX1_fillRestCosts_21 ?_
  refine lv_iload_n S.1 S.2.1 dX1_fillRestCosts_24 rfl (lv_at hl 1 rfl) ?_
  refine gx_aldq (x := (N0 + 36)) S hG 4 rfl h1 rfl (fin_l (by decide)) (rfl) dX1_fillRestCosts_25 ?_
  refine lv_iload S.1 S.2.1 dX1_fillRestCosts_26 (lv_at hl 0 rfl) ?_
  refine lv_aload_n S.1 S.2.1 dX1_fillRestCosts_28 rfl (lv_at hl 2 rfl) ?_
  refine lv_aload_n S.1 S.2.1 dX1_fillRestCosts_29 rfl (lv_at hl 3 rfl) ?_
  refine lv_aload_n S.1 S.2.1 dX1_fillRestCosts_30 rfl (lv_at hl 4 rfl) ?_
  refine lv_iload_n S.1 S.2.1 dX1_fillRestCosts_31 rfl (lv_at hl 1 rfl) ?_
  refine lv_iload S.1 S.2.1 dX1_fillRestCosts_32 (lv_at hl 0 rfl) ?_
  refine fx_cVi (As := [.ref (N0 + 150), .ref (N0 + 157), .int 0, .int 0]) (rest := [.int 0, .ref (N0 + 36)]) S hG (k1243_X1_restCost (by omega) h0) h0 rfl (cwV 4 S.2.2.2.2 gX1_fillRestCosts_X1_restCost rfl rfl rfl (by decide +kernel) ⟨Nat.le_of_ble_eq_true rfl, Nat.le_of_ble_eq_true rfl⟩) rfl hl.1 rfl (Nat.le_of_ble_eq_true rfl) dX1_fillRestCosts_34 ⟨Nat.le_of_ble_eq_true rfl, Nat.le_of_ble_eq_true rfl⟩ (fun rv_1 _ H locs hp hG => ?_)
  subst rv_1
  refine gx_iast (f' := upd (fun _ => 0) 0 0) S hG 0 h2 rfl (fin_l (by decide)) dX1_fillRestCosts_37 (rfl) (fun H locs hG => ?_)
  refine lv_iinc (v := (-1)) (lv' := [(4, .int (-1)), (3, .int 0), (0, .ref (N0 + 13)), (1, .ref (N0 + 150)), (2, .ref (N0 + 157))]) S.1 S.2.1 dX1_fillRestCosts_38 hl (k := 0) rfl (by decide) (by decide) rfl (fun ls hl => ?_)
  refine lv_goto (tgt := 15) S.1 S.2.1 dX1_fillRestCosts_41 (by decide) ?_
  refine lv_iload S.1 S.2.1 dX1_fillRestCosts_15 (lv_at hl 0 rfl) ?_
  refine lv_if_lt (tgt := 44) S.1 S.2.1 dX1_fillRestCosts_17 (by decide) (fun _ => ?_) (fun c => absurd (by decide) c)
  refine lv_iinc (v := (-1)) (lv' := [(3, .int (-1)), (4, .int (-1)), (0, .ref (N0 + 13)), (1, .ref (N0 + 150)), (2, .ref (N0 + 157))]) S.1 S.2.1 dX1_fillRestCosts_44 hl (k := 1) rfl (by decide) (by decide) rfl (fun ls hl => ?_)
  refine lv_goto (tgt := 5) S.1 S.2.1 dX1_fillRestCosts_47 (by decide) ?_
  refine lv_iload_n S.1 S.2.1 dX1_fillRestCosts_5 rfl (lv_at hl 0 rfl) ?_
  refine lv_if_lt (tgt := 50) S.1 S.2.1 dX1_fillRestCosts_6 (by decide) (fun _ => ?_) (fun c => absurd (by decide) c)
  exact fx_vret S hr hlocks () hG trivial dX1_fillRestCosts_50
theorem k1245_X7_changeCost {n : Nat} (hn : N0 + 231 ≤ n) (h0 : F (N0 + 150) = some (.inr (7, [.ref (N0 + 151), .ref (N0 + 152), .ref (N0 + 153), .ref (N0 + 154), .ref (N0 + 155), .ref (N0 + 156), .int 1]))) (h1 : F (N0 + 151) = some (.inl (cC, 20, .inl (upd (fun _ => 0) 0 97)))) (h2 : F (N0 + 157) = some (.inr (7, [.ref (N0 + 158), .ref (N0 + 159), .ref (N0 + 160), .ref (N0 + 161), .ref (N0 + 162), .ref (N0 + 163), .int 1]))) (h3 : F (N0 + 158) = some (.inl (cC, 20, .inl (upd (fun _ => 0) 0 97)))) (h4 : F (N0 + 153) = some (.inl (cI, 20, .inl (fun _ => 0)))) (h5 : F (N0 + 160) = some (.inl (cI, 20, .inl (fun _ => 0)))) : Met l yX7_changeCost wsX7_changeCost ({ frames := 0, cells := 0, slots := 0, locals := 0 }) (va_Pc [.ref (N0 + 150), .int 0, .ref (N0 + 157), .int 0] (fP N0 D vwCl (fty cI cC cL cD cII cTr cTm cIt cB) (fen ql) F n)) (fQi N0 D vwCl (fty cI cC cL cD cII cTr cTm cIt cB) (fun (r : Int32) (_ : Unit) => r = 0) (fun _ => F) (fun _ => n)) 0 0 (fA N0) := by
  refine fx_start 5 rfl rfl (Nat.le_of_ble_eq_true rfl) ?_ rfl
  intro p e s m below meth c ls S hr hlocks hin hG hl
  have hl : lv_has ls 5 [(0, .ref (N0 + 150)), (1, .int 0), (2, .ref (N0 + 157)), (3, .int 0)] := hl
  have lt_h0 := hG.1.lt h0
  have lt_h1 := hG.1.lt h1
  have lt_h2 := hG.1.lt h2
  have lt_h3 := hG.1.lt h3
  have lt_h4 := hG.1.lt h4
  have lt_h5 := hG.1.lt h5
  refine lv_iconst (v := 0) S.1 S.2.1 dX7_changeCost_0 (by decide) ?_
  refine lv_istore (lv' := [(4, .int 0), (0, .ref (N0 + 150)), (1, .int 0), (2, .ref (N0 + 157)), (3, .int 0)]) S.1 S.2.1 dX7_changeCost_1 hl (by decide) rfl (fun ls hl => ?_)
  refine lv_aload_n S.1 S.2.1 dX7_changeCost_3 rfl (lv_at hl 1 rfl) ?_
  refine gx_get (C := RX5) (T := TX5) (N := 7) S hG h0 i_X7_changeCost_X5 rfl 0 (by decide) (by decide +kernel) rfl dX7_changeCost_4 ?_
  refine lv_iload_n S.1 S.2.1 dX7_changeCost_7 rfl (lv_at hl 2 rfl) ?_
  refine gx_cald (v := 97) S hG 1 h1 rfl (fin_l (by decide)) (by decide) dX7_changeCost_8 ?_
  refine lv_aload_n S.1 S.2.1 dX7_changeCost_9 rfl (lv_at hl 3 rfl) ?_
  refine gx_get (C := RX5) (T := TX5) (N := 7) S hG h2 i_X7_changeCost_X5 rfl 0 (by decide) (by decide +kernel) rfl dX7_changeCost_10 ?_
  refine lv_iload_n S.1 S.2.1 dX7_changeCost_13 rfl (lv_at hl 4 rfl) ?_
  refine gx_cald (v := 97) S hG 1 h3 rfl (fin_l (by decide)) (by decide) dX7_changeCost_14 ?_
  refine lv_icmp_eq (tgt := 21) S.1 S.2.1 dX7_changeCost_15 (by decide) (fun _ => ?_) (fun c => absurd (by decide) c)
  refine lv_aload_n S.1 S.2.1 dX7_changeCost_21 rfl (lv_at hl 1 rfl) ?_
  refine gx_get (C := RX5) (T := TX5) (N := 7) S hG h0 i_X7_changeCost_X5 rfl 2 (by decide) (by decide +kernel) rfl dX7_changeCost_22 ?_
  refine lv_iload_n S.1 S.2.1 dX7_changeCost_25 rfl (lv_at hl 2 rfl) ?_
  refine gx_iald (v := 0) S hG 0 h4 rfl (fin_l (by decide)) (by decide) dX7_changeCost_26 ?_
  refine lv_aload_n S.1 S.2.1 dX7_changeCost_27 rfl (lv_at hl 3 rfl) ?_
  refine gx_get (C := RX5) (T := TX5) (N := 7) S hG h2 i_X7_changeCost_X5 rfl 2 (by decide) (by decide +kernel) rfl dX7_changeCost_28 ?_
  refine lv_iload_n S.1 S.2.1 dX7_changeCost_31 rfl (lv_at hl 4 rfl) ?_
  refine gx_iald (v := 0) S hG 0 h5 rfl (fin_l (by decide)) (by decide) dX7_changeCost_32 ?_
  refine lv_icmp_eq (tgt := 39) S.1 S.2.1 dX7_changeCost_33 (by decide) (fun _ => ?_) (fun c => absurd (by decide) c)
  refine lv_iload S.1 S.2.1 dX7_changeCost_39 (lv_at hl 0 rfl) ?_
  exact fx_iret S hr hlocks () hG (rfl) dX7_changeCost_41
set_option maxHeartbeats 16000000 in
theorem k1246_X1_leastCost {n : Nat} (hn : N0 + 231 ≤ n) (h0 : F (N0 + 13) = some (.inr (3, [.ref (N0 + 14), .ref (N0 + 35), .ref (N0 + 57), .ref (N0 + 58), .ref (N0 + 59), .ref (N0 + 60), .int 0, .int 0, .ref (N0 + 61), .ref (N0 + 62)]))) (h1 : F (N0 + 150) = some (.inr (7, [.ref (N0 + 151), .ref (N0 + 152), .ref (N0 + 153), .ref (N0 + 154), .ref (N0 + 155), .ref (N0 + 156), .int 1]))) (h2 : F (N0 + 57) = some (.inl (cI, 20, .inl (fun _ => 0)))) (h3 : F (N0 + 157) = some (.inr (7, [.ref (N0 + 158), .ref (N0 + 159), .ref (N0 + 160), .ref (N0 + 161), .ref (N0 + 162), .ref (N0 + 163), .int 1]))) (h4 : F (N0 + 58) = some (.inl (cI, 20, .inl (fun _ => 0)))) (h5 : F (N0 + 35) = some (.inl (cII, 21, .inr (.inr (.inr (.inr (fun j => if j < 21 then some ((N0 + 36) + j) else none))))))) (h6 : F (N0 + 36) = some (.inl (cI, 21, .inl (fun _ => 0)))) (h7 : F (N0 + 14) = some (.inl (cII, 20, .inr (.inr (.inr (.inr (fun j => if j < 20 then some ((N0 + 15) + j) else none))))))) (h8 : F (N0 + 151) = some (.inl (cC, 20, .inl (upd (fun _ => 0) 0 97)))) (h9 : F (N0 + 158) = some (.inl (cC, 20, .inl (upd (fun _ => 0) 0 97)))) (h10 : F (N0 + 153) = some (.inl (cI, 20, .inl (fun _ => 0)))) (h11 : F (N0 + 160) = some (.inl (cI, 20, .inl (fun _ => 0)))) (h12 : F (N0 + 15) = some (.inl (cI, 20, .inl (fun _ => 0)))) : Met l yX1_leastCost wsX1_leastCost ({ frames := 2, cells := 0, slots := 0, locals := 49 }) (va_Pc [.ref (N0 + 13), .ref (N0 + 150), .ref (N0 + 157)] (fP N0 D vwCl (fty cI cC cL cD cII cTr cTm cIt cB) (fen ql) F n)) (fQi N0 D vwCl (fty cI cC cL cD cII cTr cTm cIt cB) (fun (r : Int32) (_ : Unit) => r = 0) (fun _ => (fu (fu (fu (fu (fu F (N0 + 57) (.inl (cI, 20, .inl (upd (fun _ => 0) 0 1)))) (N0 + 58) (.inl (cI, 20, .inl (upd (fun _ => 0) 0 1)))) (N0 + 13) (.inr (3, [.ref (N0 + 14), .ref (N0 + 35), .ref (N0 + 57), .ref (N0 + 58), .ref (N0 + 59), .ref (N0 + 60), .int 0, .int 0, .ref (N0 + 61), .ref (N0 + 62)]))) (N0 + 36) (.inl (cI, 21, .inl (upd (fun _ => 0) 0 0)))) (N0 + 15) (.inl (cI, 20, .inl (upd (fun _ => 0) 0 0))))) (fun _ => n)) 0 0 (fA N0) := by
  refine fx_start 5 rfl rfl (Nat.le_of_ble_eq_true rfl) ?_ rfl
  intro p e s m below meth c ls S hr hlocks hin hG hl
  have hl : lv_has ls 5 [(0, .ref (N0 + 13)), (1, .ref (N0 + 150)), (2, .ref (N0 + 157))] := hl
  have lt_h0 := hG.1.lt h0
  have lt_h1 := hG.1.lt h1
  have lt_h2 := hG.1.lt h2
  have lt_h3 := hG.1.lt h3
  have lt_h4 := hG.1.lt h4
  have lt_h5 := hG.1.lt h5
  have lt_h6 := hG.1.lt h6
  have lt_h7 := hG.1.lt h7
  have lt_h8 := hG.1.lt h8
  have lt_h9 := hG.1.lt h9
  have lt_h10 := hG.1.lt h10
  have lt_h11 := hG.1.lt h11
  have lt_h12 := hG.1.lt h12
  refine lv_aload_n S.1 S.2.1 dX1_leastCost_0 rfl (lv_at hl 1 rfl) ?_
  refine lv_aload_n S.1 S.2.1 dX1_leastCost_1 rfl (lv_at hl 0 rfl) ?_
  refine gx_get (C := RX1) (T := TX1) (N := 10) S hG h0 i_X1_leastCost_X1 rfl 2 (by decide) (by decide +kernel) rfl dX1_leastCost_2 ?_
  refine fx_cVv (As := [.ref (N0 + 57)]) (rest := []) S hG (k1223_X5_listWidths (by omega) h1 h2) h1 rfl (cwV 1 S.2.2.2.2 gX1_leastCost_X5_listWidths rfl rfl rfl (by decide +kernel) ⟨Nat.le_of_ble_eq_true rfl, Nat.le_of_ble_eq_true rfl⟩) rfl hl.1 rfl (Nat.le_of_ble_eq_true rfl) dX1_leastCost_5 ⟨Nat.le_of_ble_eq_true rfl, Nat.le_of_ble_eq_true rfl⟩ (fun _ H locs hp hG => ?_)
  refine lv_aload_n S.1 S.2.1 dX1_leastCost_8 rfl (lv_at hl 2 rfl) ?_
  refine lv_aload_n S.1 S.2.1 dX1_leastCost_9 rfl (lv_at hl 0 rfl) ?_
  refine gx_get (C := RX1) (T := TX1) (N := 10) S hG (fu_at (by omega) h0) i_X1_leastCost_X1 rfl 3 (by decide) (by decide +kernel) rfl dX1_leastCost_10 ?_
  refine fx_cVv (As := [.ref (N0 + 58)]) (rest := []) S hG (k1206_X5_listWidths (by omega) (fu_at (by omega) h3) (fu_at (by omega) h4)) (fu_at (by omega) h3) rfl (cwV 1 S.2.2.2.2 gX1_leastCost_X5_listWidths rfl rfl rfl (by decide +kernel) ⟨Nat.le_of_ble_eq_true rfl, Nat.le_of_ble_eq_true rfl⟩) rfl hl.1 rfl (Nat.le_of_ble_eq_true rfl) dX1_leastCost_13 ⟨Nat.le_of_ble_eq_true rfl, Nat.le_of_ble_eq_true rfl⟩ (fun _ H locs hp hG => ?_)
  refine lv_aload_n S.1 S.2.1 dX1_leastCost_16 rfl (lv_at hl 1 rfl) ?_
  refine gx_get (C := RX5) (T := TX5) (N := 7) S hG (fu_at (by omega) (fu_at (by omega) h1)) i_X1_leastCost_X5 rfl 6 (by decide) (by decide +kernel) rfl dX1_leastCost_17 ?_
  refine lv_iconst (v := 1) S.1 S.2.1 dX1_leastCost_20 (by decide) ?_
  refine lv_isub S.1 S.2.1 dX1_leastCost_21 ?_
  refine fx_topi (y := 0) (by decide) ?_
  refine lv_istore_n (lv' := [(3, .int 0), (0, .ref (N0 + 13)), (1, .ref (N0 + 150)), (2, .ref (N0 + 157))]) S.1 S.2.1 dX1_leastCost_22 rfl hl (by decide) rfl (fun ls hl => ?_)
  refine lv_iload_n S.1 S.2.1 dX1_leastCost_23 rfl (lv_at hl 0 rfl) ?_
  refine lv_if_lt (tgt := 111) S.1 S.2.1 dX1_leastCost_24 (by decide) (fun c => absurd c (by decide)) (fun _ => ?_)
  refine lv_aload_n S.1 S.2.1 dX1_leastCost_27 rfl (lv_at hl 1 rfl) ?_
  refine lv_aload_n S.1 S.2.1 dX1_leastCost_28 rfl (lv_at hl 2 rfl) ?_
  refine lv_iload_n S.1 S.2.1 dX1_leastCost_29 rfl (lv_at hl 0 rfl) ?_
  refine lv_aload_n S.1 S.2.1 dX1_leastCost_30 rfl (lv_at hl 1 rfl) ?_
  refine gx_get (C := RX1) (T := TX1) (N := 10) S hG (fu_at (by omega) (fu_at (by omega) h0)) i_X1_leastCost_X1 rfl 4 (by decide) (by decide +kernel) rfl dX1_leastCost_31 ?_
  refine fx_cVi (As := [.int 0, .ref (N0 + 59)]) (rest := [.ref (N0 + 13)]) S hG (k1224_X5_listChildren (by omega) (fu_at (by omega) (fu_at (by omega) h1))) (fu_at (by omega) (fu_at (by omega) h1)) rfl (cwV 2 S.2.2.2.2 gX1_leastCost_X5_listChildren rfl rfl rfl (by decide +kernel) ⟨Nat.le_of_ble_eq_true rfl, Nat.le_of_ble_eq_true rfl⟩) rfl hl.1 rfl (Nat.le_of_ble_eq_true rfl) dX1_leastCost_34 ⟨Nat.le_of_ble_eq_true rfl, Nat.le_of_ble_eq_true rfl⟩ (fun rv_3 _ H locs hp hG => ?_)
  subst rv_3
  refine gx_put (C := RX1) (T := TX1) (N := 10) (ty := .int) (v := .int 0) (fs' := [.ref (N0 + 14), .ref (N0 + 35), .ref (N0 + 57), .ref (N0 + 58), .ref (N0 + 59), .ref (N0 + 60), .int 0, .int 0, .ref (N0 + 61), .ref (N0 + 62)]) S hG (fu_at (by omega) (fu_at (by omega) h0)) i_X1_leastCost_X1 rfl 6 (by decide) tyX1 tyX1_ok nmX1 (by decide +kernel) rfl (by decide +kernel) rfl rfl (Nat.le_of_ble_eq_true rfl) rfl dX1_leastCost_37 (fun H locs hG => ?_)
  refine lv_aload_n S.1 S.2.1 dX1_leastCost_40 rfl (lv_at hl 3 rfl) ?_
  refine gx_get (C := RX5) (T := TX5) (N := 7) S hG (fu_at (by omega) (fu_at (by omega) (fu_at (by omega) h3))) i_X1_leastCost_X5 rfl 6 (by decide) (by decide +kernel) rfl dX1_leastCost_41 ?_
  refine lv_iconst (v := 1) S.1 S.2.1 dX1_leastCost_44 (by decide) ?_
  refine lv_isub S.1 S.2.1 dX1_leastCost_45 ?_
  refine fx_topi (y := 0) (by decide) ?_
  refine lv_istore (lv' := [(4, .int 0), (3, .int 0), (0, .ref (N0 + 13)), (1, .ref (N0 + 150)), (2, .ref (N0 + 157))]) S.1 S.2.1 dX1_leastCost_46 hl (by decide) rfl (fun ls hl => ?_)
  refine lv_iload S.1 S.2.1 dX1_leastCost_48 (lv_at hl 0 rfl) ?_
  refine lv_if_lt (tgt := 105) S.1 S.2.1 dX1_leastCost_50 (by decide) (fun c => absurd c (by decide)) (fun _ => ?_)
  refine lv_aload_n S.1 S.2.1 dX1_leastCost_53 rfl (lv_at hl 2 rfl) ?_
  refine lv_aload_n S.1 S.2.1 dX1_leastCost_54 rfl (lv_at hl 4 rfl) ?_
  refine lv_iload S.1 S.2.1 dX1_leastCost_55 (lv_at hl 0 rfl) ?_
  refine lv_aload_n S.1 S.2.1 dX1_leastCost_57 rfl (lv_at hl 2 rfl) ?_
  refine gx_get (C := RX1) (T := TX1) (N := 10) S hG fu_s i_X1_leastCost_X1 rfl 5 (by decide) (by decide +kernel) rfl dX1_leastCost_58 ?_
  refine fx_cVi (As := [.int 0, .ref (N0 + 60)]) (rest := [.ref (N0 + 13)]) S hG (k1207_X5_listChildren (by omega) (fu_at (by omega) (fu_at (by omega) (fu_at (by omega) h3)))) (fu_at (by omega) (fu_at (by omega) (fu_at (by omega) h3))) rfl (cwV 2 S.2.2.2.2 gX1_leastCost_X5_listChildren rfl rfl rfl (by decide +kernel) ⟨Nat.le_of_ble_eq_true rfl, Nat.le_of_ble_eq_true rfl⟩) rfl hl.1 rfl (Nat.le_of_ble_eq_true rfl) dX1_leastCost_61 ⟨Nat.le_of_ble_eq_true rfl, Nat.le_of_ble_eq_true rfl⟩ (fun rv_4 _ H locs hp hG => ?_)
  subst rv_4
  refine gx_put (C := RX1) (T := TX1) (N := 10) (ty := .int) (v := .int 0) (fs' := [.ref (N0 + 14), .ref (N0 + 35), .ref (N0 + 57), .ref (N0 + 58), .ref (N0 + 59), .ref (N0 + 60), .int 0, .int 0, .ref (N0 + 61), .ref (N0 + 62)]) S hG fu_s i_X1_leastCost_X1 rfl 7 (by decide) tyX1 tyX1_ok nmX1 (by decide +kernel) rfl (by decide +kernel) rfl rfl (Nat.le_of_ble_eq_true rfl) rfl dX1_leastCost_64 (fun H locs hG => ?_)
  refine lv_aload_n S.1 S.2.1 dX1_leastCost_67 rfl (lv_at hl 2 rfl) ?_
  refine lv_aload_n S.1 S.2.1 dX1_leastCost_68 rfl (lv_at hl 3 rfl) ?_
  refine lv_aload_n S.1 S.2.1 dX1_leastCost_69 rfl (lv_at hl 4 rfl) ?_
  refine fx_cVv (As := [.ref (N0 + 150), .ref (N0 + 157)]) (rest := []) S hG (k1244_X1_fillRestCosts (by omega) fu_s (fu_at (by omega) (fu_at (by omega) (fu_at (by omega) (fu_at (by omega) h5)))) (fu_at (by omega) (fu_at (by omega) (fu_at (by omega) (fu_at (by omega) h6))))) fu_s rfl (cwV 2 S.2.2.2.2 gX1_leastCost_X1_fillRestCosts rfl rfl rfl (by decide +kernel) ⟨Nat.le_of_ble_eq_true rfl, Nat.le_of_ble_eq_true rfl⟩) rfl hl.1 rfl (Nat.le_of_ble_eq_true rfl) dX1_leastCost_70 ⟨Nat.le_of_ble_eq_true rfl, Nat.le_of_ble_eq_true rfl⟩ (fun _ H locs hp hG => ?_)
  refine lv_aload_n S.1 S.2.1 dX1_leastCost_73 rfl (lv_at hl 2 rfl) ?_
  refine gx_get (C := RX1) (T := TX1) (N := 10) S hG (fu_at (by omega) fu_s) i_X1_leastCost_X1 rfl 0 (by decide) (by decide +kernel) rfl dX1_leastCost_74 ?_
  refine lv_iload_n S.1 S.2.1 dX1_leastCost_77 rfl (lv_at hl 1 rfl) ?_
  refine gx_aldq (x := (N0 + 15)) S hG 4 rfl (fu_at (by omega) (fu_at (by omega) (fu_at (by omega) (fu_at (by omega) (fu_at (by omega) h7))))) rfl (fin_l (by decide)) (rfl) dX1_leastCost_78 ?_
  refine lv_iload S.1 S.2.1 dX1_leastCost_79 (lv_at hl 0 rfl) ?_
  refine lv_aload_n S.1 S.2.1 dX1_leastCost_81 rfl (lv_at hl 3 rfl) ?_
  refine lv_iload_n S.1 S.2.1 dX1_leastCost_82 rfl (lv_at hl 1 rfl) ?_
  refine lv_aload_n S.1 S.2.1 dX1_leastCost_83 rfl (lv_at hl 4 rfl) ?_
  refine lv_iload S.1 S.2.1 dX1_leastCost_84 (lv_at hl 0 rfl) ?_
  refine fx_cSNi (host := "TreeDiffer") (As := [.ref (N0 + 150), .int 0, .ref (N0 + 157), .int 0]) (rest := [.int 0, .ref (N0 + 15)]) S hG (k1245_X7_changeCost (by omega) (fu_at (by omega) (fu_at (by omega) (fu_at (by omega) (fu_at (by omega) (fu_at (by omega) h1))))) (fu_at (by omega) (fu_at (by omega) (fu_at (by omega) (fu_at (by omega) (fu_at (by omega) h8))))) (fu_at (by omega) (fu_at (by omega) (fu_at (by omega) (fu_at (by omega) (fu_at (by omega) h3))))) (fu_at (by omega) (fu_at (by omega) (fu_at (by omega) (fu_at (by omega) (fu_at (by omega) h9))))) (fu_at (by omega) (fu_at (by omega) (fu_at (by omega) (fu_at (by omega) (fu_at (by omega) h10))))) (fu_at (by omega) (fu_at (by omega) (fu_at (by omega) (fu_at (by omega) (fu_at (by omega) h11)))))) ⟨(va_cnB 4 S.2.2.2.2 gX1_leastCost_X7_changeCost_n62 rfl rfl rfl (hG.nest (show _ ∈ fen2.2.2.1 from by decide)) (S.2.2.2.2 (.initialized RX7) (by decide +kernel)) (by decide +kernel) ⟨Nat.le_of_ble_eq_true rfl, Nat.le_of_ble_eq_true rfl⟩), S.2.2.2.2 (.static yX7_changeCost) (by decide +kernel), trivial⟩ rfl hl.1 rfl (Nat.le_of_ble_eq_true rfl) dX1_leastCost_86 ⟨Nat.le_of_ble_eq_true rfl, Nat.le_of_ble_eq_true rfl⟩ (fun rv_6 _ H locs hp hG => ?_)
  subst rv_6
  refine lv_aload_n S.1 S.2.1 dX1_leastCost_89 rfl (lv_at hl 2 rfl) ?_
  refine gx_get (C := RX1) (T := TX1) (N := 10) S hG (fu_at (by omega) fu_s) i_X1_leastCost_X1 rfl 1 (by decide) (by decide +kernel) rfl dX1_leastCost_90 ?_
  refine lv_iconst (v := 0) S.1 S.2.1 dX1_leastCost_93 (by decide) ?_
  refine gx_aldq (x := (N0 + 36)) S hG 4 rfl (fu_at (by omega) (fu_at (by omega) (fu_at (by omega) (fu_at (by omega) (fu_at (by omega) h5))))) rfl (fin_l (by decide)) (rfl) dX1_leastCost_94 ?_
  refine lv_iconst (v := 0) S.1 S.2.1 dX1_leastCost_95 (by decide) ?_
  refine gx_iald (v := 0) S hG 0 fu_s rfl (fin_l (by decide)) (by decide) dX1_leastCost_96 ?_
  refine lv_iadd S.1 S.2.1 dX1_leastCost_97 ?_
  refine fx_topi (y := 0) (by decide) ?_
  refine gx_iast (f' := upd (fun _ => 0) 0 0) S hG 0 (fu_at (by omega) (fu_at (by omega) (fu_at (by omega) (fu_at (by omega) (fu_at (by omega) h12))))) rfl (fin_l (by decide)) dX1_leastCost_98 (rfl) (fun H locs hG => ?_)
  refine lv_iinc (v := (-1)) (lv' := [(4, .int (-1)), (3, .int 0), (0, .ref (N0 + 13)), (1, .ref (N0 + 150)), (2, .ref (N0 + 157))]) S.1 S.2.1 dX1_leastCost_99 hl (k := 0) rfl (by decide) (by decide) rfl (fun ls hl => ?_)
  refine lv_goto (tgt := 48) S.1 S.2.1 dX1_leastCost_102 (by decide) ?_
  refine lv_iload S.1 S.2.1 dX1_leastCost_48 (lv_at hl 0 rfl) ?_
  refine lv_if_lt (tgt := 105) S.1 S.2.1 dX1_leastCost_50 (by decide) (fun _ => ?_) (fun c => absurd (by decide) c)
  refine lv_iinc (v := (-1)) (lv' := [(3, .int (-1)), (4, .int (-1)), (0, .ref (N0 + 13)), (1, .ref (N0 + 150)), (2, .ref (N0 + 157))]) S.1 S.2.1 dX1_leastCost_105 hl (k := 1) rfl (by decide) (by decide) rfl (fun ls hl => ?_)
  refine lv_goto (tgt := 23) S.1 S.2.1 dX1_leastCost_108 (by decide) ?_
  refine lv_iload_n S.1 S.2.1 dX1_leastCost_23 rfl (lv_at hl 0 rfl) ?_
  refine lv_if_lt (tgt := 111) S.1 S.2.1 dX1_leastCost_24 (by decide) (fun _ => ?_) (fun c => absurd (by decide) c)
  refine lv_aload_n S.1 S.2.1 dX1_leastCost_111 rfl (lv_at hl 2 rfl) ?_
  refine gx_get (C := RX1) (T := TX1) (N := 10) S hG (fu_at (by omega) (fu_at (by omega) fu_s)) i_X1_leastCost_X1 rfl 0 (by decide) (by decide +kernel) rfl dX1_leastCost_112 ?_
  refine lv_iconst (v := 0) S.1 S.2.1 dX1_leastCost_115 (by decide) ?_
  refine gx_aldq (x := (N0 + 15)) S hG 4 rfl (fu_at (by omega) (fu_at (by omega) (fu_at (by omega) (fu_at (by omega) (fu_at (by omega) (fu_at (by omega) h7)))))) rfl (fin_l (by decide)) (rfl) dX1_leastCost_116 ?_
  refine lv_iconst (v := 0) S.1 S.2.1 dX1_leastCost_117 (by decide) ?_
  refine gx_iald (v := 0) S hG 0 fu_s rfl (fin_l (by decide)) (by decide) dX1_leastCost_118 ?_
  have hG : fG N0 D vwCl (fty cI cC cL cD cII cTr cTm cIt cB) (fen ql) s (fu (fu (fu (fu (fu F (N0 + 57) (.inl (cI, 20, .inl (upd (fun _ => 0) 0 1)))) (N0 + 58) (.inl (cI, 20, .inl (upd (fun _ => 0) 0 1)))) (N0 + 13) (.inr (3, [.ref (N0 + 14), .ref (N0 + 35), .ref (N0 + 57), .ref (N0 + 58), .ref (N0 + 59), .ref (N0 + 60), .int 0, .int 0, .ref (N0 + 61), .ref (N0 + 62)]))) (N0 + 36) (.inl (cI, 21, .inl (upd (fun _ => 0) 0 0)))) (N0 + 15) (.inl (cI, 20, .inl (upd (fun _ => 0) 0 0)))) n H locs := hG.weak (fun a e h => by
    rcases fu_cases h with ⟨rfl, he⟩ | ⟨hne0, h⟩
    · cases he; exact fu_s
    · skip
      rcases fu_cases h with ⟨rfl, he⟩ | ⟨hne1, h⟩
      · cases he; exact (fu_at (by omega) fu_s)
      · skip
        rcases fu_cases h with ⟨rfl, he⟩ | ⟨hne2, h⟩
        · cases he; exact (fu_at (by omega) (fu_at (by omega) fu_s))
        · skip
          rcases fu_cases h with ⟨rfl, he⟩ | ⟨hne3, h⟩
          · cases he; exact (fu_at (by omega) (fu_at (by omega) (fu_at (by omega) (fu_at (by omega) fu_s))))
          · skip
            rcases fu_cases h with ⟨rfl, he⟩ | ⟨hne4, h⟩
            · cases he; exact (fu_at (by omega) (fu_at (by omega) (fu_at (by omega) (fu_at (by omega) (fu_at (by omega) fu_s)))))
            · exact (fu_at (by omega) (fu_at (by omega) (fu_at (by omega) (fu_at (by omega) (fu_at (by omega) (fu_at (by omega) h)))))))
  exact fx_iret S hr hlocks () hG (rfl) dX1_leastCost_119
theorem k1247_X7_distance {n : Nat} (hn : N0 + 231 ≤ n) (h0 : F N0 = some (.inr (9, [.ref (N0 + 1), .ref (N0 + 2), .ref (N0 + 11), .ref (N0 + 13), .ref (N0 + 63), .ref (N0 + 65), .ref (N0 + 85), .int (-1), .int (-1), .int 32]))) (h1 : F (N0 + 1) = some (.inl (cTr, 3, .inr (.inr (.inr (.inr (va_up (va_up (va_up (fun _ => none) 0 (some (N0 + 143))) 1 (some (N0 + 150))) 2 (some (N0 + 157))))))))) (h2 : F (N0 + 13) = some (.inr (3, [.ref (N0 + 14), .ref (N0 + 35), .ref (N0 + 57), .ref (N0 + 58), .ref (N0 + 59), .ref (N0 + 60), .int 0, .int 0, .ref (N0 + 61), .ref (N0 + 62)]))) (h3 : F (N0 + 150) = some (.inr (7, [.ref (N0 + 151), .ref (N0 + 152), .ref (N0 + 153), .ref (N0 + 154), .ref (N0 + 155), .ref (N0 + 156), .int 1]))) (h4 : F (N0 + 57) = some (.inl (cI, 20, .inl (fun _ => 0)))) (h5 : F (N0 + 157) = some (.inr (7, [.ref (N0 + 158), .ref (N0 + 159), .ref (N0 + 160), .ref (N0 + 161), .ref (N0 + 162), .ref (N0 + 163), .int 1]))) (h6 : F (N0 + 58) = some (.inl (cI, 20, .inl (fun _ => 0)))) (h7 : F (N0 + 35) = some (.inl (cII, 21, .inr (.inr (.inr (.inr (fun j => if j < 21 then some ((N0 + 36) + j) else none))))))) (h8 : F (N0 + 36) = some (.inl (cI, 21, .inl (fun _ => 0)))) (h9 : F (N0 + 14) = some (.inl (cII, 20, .inr (.inr (.inr (.inr (fun j => if j < 20 then some ((N0 + 15) + j) else none))))))) (h10 : F (N0 + 151) = some (.inl (cC, 20, .inl (upd (fun _ => 0) 0 97)))) (h11 : F (N0 + 158) = some (.inl (cC, 20, .inl (upd (fun _ => 0) 0 97)))) (h12 : F (N0 + 153) = some (.inl (cI, 20, .inl (fun _ => 0)))) (h13 : F (N0 + 160) = some (.inl (cI, 20, .inl (fun _ => 0)))) (h14 : F (N0 + 15) = some (.inl (cI, 20, .inl (fun _ => 0)))) : Met l yX7_distance wsX7_distance ({ frames := 3, cells := 0, slots := 0, locals := 73 }) (va_Pc [.ref N0, .int 1, .int 2] (fP N0 D vwCl (fty cI cC cL cD cII cTr cTm cIt cB) (fen ql) F n)) (fQi N0 D vwCl (fty cI cC cL cD cII cTr cTm cIt cB) (fun (r : Int32) (_ : Unit) => r = 0) (fun _ => (fu (fu (fu (fu (fu F (N0 + 57) (.inl (cI, 20, .inl (upd (fun _ => 0) 0 1)))) (N0 + 58) (.inl (cI, 20, .inl (upd (fun _ => 0) 0 1)))) (N0 + 13) (.inr (3, [.ref (N0 + 14), .ref (N0 + 35), .ref (N0 + 57), .ref (N0 + 58), .ref (N0 + 59), .ref (N0 + 60), .int 0, .int 0, .ref (N0 + 61), .ref (N0 + 62)]))) (N0 + 36) (.inl (cI, 21, .inl (upd (fun _ => 0) 0 0)))) (N0 + 15) (.inl (cI, 20, .inl (upd (fun _ => 0) 0 0))))) (fun _ => n)) 0 0 (fA N0) := by
  refine fx_start 5 rfl rfl (Nat.le_of_ble_eq_true rfl) ?_ rfl
  intro p e s m below meth c ls S hr hlocks hin hG hl
  have hl : lv_has ls 5 [(0, .ref N0), (1, .int 1), (2, .int 2)] := hl
  have lt_h0 := hG.1.lt h0
  have lt_h1 := hG.1.lt h1
  have lt_h2 := hG.1.lt h2
  have lt_h3 := hG.1.lt h3
  have lt_h4 := hG.1.lt h4
  have lt_h5 := hG.1.lt h5
  have lt_h6 := hG.1.lt h6
  have lt_h7 := hG.1.lt h7
  have lt_h8 := hG.1.lt h8
  have lt_h9 := hG.1.lt h9
  have lt_h10 := hG.1.lt h10
  have lt_h11 := hG.1.lt h11
  have lt_h12 := hG.1.lt h12
  have lt_h13 := hG.1.lt h13
  have lt_h14 := hG.1.lt h14
  refine lv_aload_n S.1 S.2.1 dX7_distance_0 rfl (lv_at hl 0 rfl) ?_
  refine lv_iload_n S.1 S.2.1 dX7_distance_1 rfl (lv_at hl 1 rfl) ?_
  refine fx_cVr (As := [.int 1]) (rest := []) S hG (k42_X7_treeAt (by omega) h0 h1) h0 rfl (cwV 1 S.2.2.2.2 gX7_distance_X7_treeAt rfl rfl rfl (by decide +kernel) ⟨Nat.le_of_ble_eq_true rfl, Nat.le_of_ble_eq_true rfl⟩) rfl hl.1 rfl (Nat.le_of_ble_eq_true rfl) dX7_distance_2 ⟨Nat.le_of_ble_eq_true rfl, Nat.le_of_ble_eq_true rfl⟩ (fun rv_1 _ H locs hp hG => ?_)
  subst rv_1
  refine lv_astore_n (lv' := [(3, .ref (N0 + 150)), (0, .ref N0), (1, .int 1), (2, .int 2)]) S.1 S.2.1 dX7_distance_5 rfl hl (by decide) rfl (fun ls hl => ?_)
  refine lv_aload_n S.1 S.2.1 dX7_distance_6 rfl (lv_at hl 1 rfl) ?_
  refine lv_iload_n S.1 S.2.1 dX7_distance_7 rfl (lv_at hl 3 rfl) ?_
  refine fx_cVr (As := [.int 2]) (rest := []) S hG (k48_X7_treeAt (by omega) h0 h1) h0 rfl (cwV 1 S.2.2.2.2 gX7_distance_X7_treeAt rfl rfl rfl (by decide +kernel) ⟨Nat.le_of_ble_eq_true rfl, Nat.le_of_ble_eq_true rfl⟩) rfl hl.1 rfl (Nat.le_of_ble_eq_true rfl) dX7_distance_8 ⟨Nat.le_of_ble_eq_true rfl, Nat.le_of_ble_eq_true rfl⟩ (fun rv_2 _ H locs hp hG => ?_)
  subst rv_2
  refine lv_astore (lv' := [(4, .ref (N0 + 157)), (3, .ref (N0 + 150)), (0, .ref N0), (1, .int 1), (2, .int 2)]) S.1 S.2.1 dX7_distance_11 hl (by decide) rfl (fun ls hl => ?_)
  refine lv_aload_n S.1 S.2.1 dX7_distance_13 rfl (lv_at hl 2 rfl) ?_
  refine gx_get (C := RX7) (T := TX7) (N := 10) S hG h0 i_X7_distance_X7 rfl 3 (by decide) (by decide +kernel) rfl dX7_distance_14 ?_
  refine lv_aload_n S.1 S.2.1 dX7_distance_17 rfl (lv_at hl 1 rfl) ?_
  refine lv_aload S.1 S.2.1 dX7_distance_18 (lv_at hl 0 rfl) ?_
  refine fx_cVi (As := [.ref (N0 + 150), .ref (N0 + 157)]) (rest := []) S hG (k1246_X1_leastCost (by omega) h2 h3 h4 h5 h6 h7 h8 h9 h10 h11 h12 h13 h14) h2 rfl (cwV 2 S.2.2.2.2 gX7_distance_X1_leastCost rfl rfl rfl (by decide +kernel) ⟨Nat.le_of_ble_eq_true rfl, Nat.le_of_ble_eq_true rfl⟩) rfl hl.1 rfl (Nat.le_of_ble_eq_true rfl) dX7_distance_20 ⟨Nat.le_of_ble_eq_true rfl, Nat.le_of_ble_eq_true rfl⟩ (fun rv_3 _ H locs hp hG => ?_)
  subst rv_3
  exact fx_iret S hr hlocks () hG (rfl) dX7_distance_23
theorem k1248_L_distance {n : Nat} (hn : N0 + 231 ≤ n) (h0 : F N0 = some (.inr (9, [.ref (N0 + 1), .ref (N0 + 2), .ref (N0 + 11), .ref (N0 + 13), .ref (N0 + 63), .ref (N0 + 65), .ref (N0 + 85), .int (-1), .int (-1), .int 32]))) (h1 : F (N0 + 1) = some (.inl (cTr, 3, .inr (.inr (.inr (.inr (va_up (va_up (va_up (fun _ => none) 0 (some (N0 + 143))) 1 (some (N0 + 150))) 2 (some (N0 + 157))))))))) (h2 : F (N0 + 13) = some (.inr (3, [.ref (N0 + 14), .ref (N0 + 35), .ref (N0 + 57), .ref (N0 + 58), .ref (N0 + 59), .ref (N0 + 60), .int 0, .int 0, .ref (N0 + 61), .ref (N0 + 62)]))) (h3 : F (N0 + 150) = some (.inr (7, [.ref (N0 + 151), .ref (N0 + 152), .ref (N0 + 153), .ref (N0 + 154), .ref (N0 + 155), .ref (N0 + 156), .int 1]))) (h4 : F (N0 + 57) = some (.inl (cI, 20, .inl (fun _ => 0)))) (h5 : F (N0 + 157) = some (.inr (7, [.ref (N0 + 158), .ref (N0 + 159), .ref (N0 + 160), .ref (N0 + 161), .ref (N0 + 162), .ref (N0 + 163), .int 1]))) (h6 : F (N0 + 58) = some (.inl (cI, 20, .inl (fun _ => 0)))) (h7 : F (N0 + 35) = some (.inl (cII, 21, .inr (.inr (.inr (.inr (fun j => if j < 21 then some ((N0 + 36) + j) else none))))))) (h8 : F (N0 + 36) = some (.inl (cI, 21, .inl (fun _ => 0)))) (h9 : F (N0 + 14) = some (.inl (cII, 20, .inr (.inr (.inr (.inr (fun j => if j < 20 then some ((N0 + 15) + j) else none))))))) (h10 : F (N0 + 151) = some (.inl (cC, 20, .inl (upd (fun _ => 0) 0 97)))) (h11 : F (N0 + 158) = some (.inl (cC, 20, .inl (upd (fun _ => 0) 0 97)))) (h12 : F (N0 + 153) = some (.inl (cI, 20, .inl (fun _ => 0)))) (h13 : F (N0 + 160) = some (.inl (cI, 20, .inl (fun _ => 0)))) (h14 : F (N0 + 15) = some (.inl (cI, 20, .inl (fun _ => 0)))) (h15 : F (N0 + 229) = some (.inl (cL, 1, .inr (.inl (fun _ => 0))))) : Met l yL_distance wsL_distance ({ frames := 4, cells := 0, slots := 0, locals := 97 }) (va_Pc [.ref N0, .int 1, .int 2, .ref (N0 + 229)] (fP N0 D vwCl (fty cI cC cL cD cII cTr cTm cIt cB) (fen ql) F n)) (fQi N0 D vwCl (fty cI cC cL cD cII cTr cTm cIt cB) (fun (r : Int32) (_ : Unit) => r = 0) (fun _ => (fu (fu (fu (fu (fu (fu F (N0 + 57) (.inl (cI, 20, .inl (upd (fun _ => 0) 0 1)))) (N0 + 58) (.inl (cI, 20, .inl (upd (fun _ => 0) 0 1)))) (N0 + 13) (.inr (3, [.ref (N0 + 14), .ref (N0 + 35), .ref (N0 + 57), .ref (N0 + 58), .ref (N0 + 59), .ref (N0 + 60), .int 0, .int 0, .ref (N0 + 61), .ref (N0 + 62)]))) (N0 + 36) (.inl (cI, 21, .inl (upd (fun _ => 0) 0 0)))) (N0 + 15) (.inl (cI, 20, .inl (upd (fun _ => 0) 0 0)))) (N0 + 229) (.inl (cL, 1, .inr (.inl (vp_updL (fun _ => 0) 0 0)))))) (fun _ => n)) 0 0 (fA N0) := by
  refine fx_startW (hh := [(0, 10, 13, 19)]) 5 rfl rfl (Nat.le_of_ble_eq_true rfl) ?_ rfl
  intro p e s m below meth c ls S htab hr hlocks hG hl
  have hl : lv_has ls 5 [(0, .ref N0), (1, .int 1), (2, .int 2), (3, .ref (N0 + 229))] := hl
  have lt_h0 := hG.1.lt h0
  have lt_h1 := hG.1.lt h1
  have lt_h2 := hG.1.lt h2
  have lt_h3 := hG.1.lt h3
  have lt_h4 := hG.1.lt h4
  have lt_h5 := hG.1.lt h5
  have lt_h6 := hG.1.lt h6
  have lt_h7 := hG.1.lt h7
  have lt_h8 := hG.1.lt h8
  have lt_h9 := hG.1.lt h9
  have lt_h10 := hG.1.lt h10
  have lt_h11 := hG.1.lt h11
  have lt_h12 := hG.1.lt h12
  have lt_h13 := hG.1.lt h13
  have lt_h14 := hG.1.lt h14
  have lt_h15 := hG.1.lt h15
  refine lv_aload_n S.1 S.2.1 dL_distance_0 rfl (lv_at hl 3 rfl) ?_
  refine lv_iconst (v := 0) S.1 S.2.1 dL_distance_1 (by decide) ?_
  refine lv_aload_n S.1 S.2.1 dL_distance_2 rfl (lv_at hl 0 rfl) ?_
  refine lv_iload_n S.1 S.2.1 dL_distance_3 rfl (lv_at hl 1 rfl) ?_
  refine lv_iload_n S.1 S.2.1 dL_distance_4 rfl (lv_at hl 2 rfl) ?_
  refine fx_cVi (As := [.int 1, .int 2]) (rest := [.int 0, .ref (N0 + 229)]) S hG (k1247_X7_distance (by omega) h0 h1 h2 h3 h4 h5 h6 h7 h8 h9 h10 h11 h12 h13 h14) h0 rfl (cwV 2 S.2.2.2.2 gL_distance_X7_distance rfl rfl rfl (by decide +kernel) ⟨Nat.le_of_ble_eq_true rfl, Nat.le_of_ble_eq_true rfl⟩) rfl hl.1 rfl (Nat.le_of_ble_eq_true rfl) dL_distance_5 ⟨Nat.le_of_ble_eq_true rfl, Nat.le_of_ble_eq_true rfl⟩ (fun rv_1 _ H locs hp hG => ?_)
  subst rv_1
  refine lv_i2l (v := 0) S.1 S.2.1 dL_distance_8 (by decide) ?_
  refine gx_last (f' := vp_updL (fun _ => 0) 0 0) S hG 2 (fu_at (by omega) (fu_at (by omega) (fu_at (by omega) (fu_at (by omega) (fu_at (by omega) h15))))) rfl (fin_l (by decide)) dL_distance_9 rfl (fun H locs hG => ?_)
  refine lv_goto (tgt := 17) S.1 S.2.1 dL_distance_10 (by decide) ?_
  refine lv_iconst (v := 0) S.1 S.2.1 dL_distance_17 (by decide) ?_
  exact fx_iret S hr hlocks () hG (rfl) dL_distance_18
theorem k1249_X10_left {n b1 : Nat} (hn : N0 + 231 ≤ n) (hb1 : N0 + 231 ≤ b1) (h0 : F b1 = some (.inl (cI, 0, .inl (fun _ => 0)))) (h1 : F (b1 + 1) = some (.inl (cI, 0, .inl (fun _ => 0)))) : Met l yX10_left wsX10_left ({ frames := 0, cells := 2, slots := 2, locals := 0 }) (va_Pc [.ref (N0 + 164), .ref (N0 + 171), .ref b1, .ref (N0 + 176), .ref (b1 + 1)] (fP N0 D vwCl (fty cI cC cL cD cII cTr cTm cIt cB) (fen ql) F n)) (fQr N0 D vwCl (fty cI cC cL cD cII cTr cTm cIt cB) (fun (r : Nat) (_ : Unit) => r = n) (fun _ => (fblk F n [.inl (cII, 1, .inr (.inr (.inr (.inr (fun j => if j < 1 then some ((n + 1) + j) else none))))), .inl (cI, 1, .inl (fun _ => 0))])) (fun _ => (n + 2))) 2 2 (fA N0) := by
  refine fx_start 9 rfl rfl (Nat.le_of_ble_eq_true rfl) ?_ rfl
  intro p e s m below meth c ls S hr hlocks hin hG hl
  have hl : lv_has ls 9 [(0, .ref (N0 + 164)), (1, .ref (N0 + 171)), (2, .ref b1), (3, .ref (N0 + 176)), (4, .ref (b1 + 1))] := hl
  have lt_h0 := hG.1.lt h0
  have lt_h1 := hG.1.lt h1
  refine lv_aload_n S.1 S.2.1 dX10_left_0 rfl (lv_at hl 2 rfl) ?_
  refine gx_alen (v := 0) S hG 0 h0 rfl (rfl) dX10_left_1 ?_
  refine lv_iconst (v := 1) S.1 S.2.1 dX10_left_2 (by decide) ?_
  refine lv_iadd S.1 S.2.1 dX10_left_3 ?_
  refine fx_topi (y := 1) (by decide) ?_
  refine lv_aload S.1 S.2.1 dX10_left_4 (lv_at hl 4 rfl) ?_
  refine gx_alen (v := 0) S hG 0 h1 rfl (rfl) dX10_left_6 ?_
  refine lv_iconst (v := 1) S.1 S.2.1 dX10_left_7 (by decide) ?_
  refine lv_iadd S.1 S.2.1 dX10_left_8 ?_
  refine fx_topi (y := 1) (by decide) ?_
  refine gx_mna (N' := 1) (K' := 1) S hG (by decide +kernel) (by decide +kernel) 0 4 rfl rfl (by decide) (by decide) (by decide) (by decide) (by decide) (by decide) (by decide) (by decide) dX10_left_9 (fun H hG => ?_)
  refine W.widen (k := 2) (n := 2) (by decide) (by decide) ?_
  refine lv_astore (lv' := [(5, .ref n), (0, .ref (N0 + 164)), (1, .ref (N0 + 171)), (2, .ref b1), (3, .ref (N0 + 176)), (4, .ref (b1 + 1))]) S.1 S.2.1 dX10_left_13 hl (by decide) rfl (fun ls hl => ?_)
  refine lv_aload_n S.1 S.2.1 dX10_left_15 rfl (lv_at hl 3 rfl) ?_
  refine gx_alen (v := 0) S hG 0 (fblk_sk 1 rfl (by omega) (fu_at (by omega) h0)) rfl (rfl) dX10_left_16 ?_
  refine lv_istore (lv' := [(6, .int 0), (5, .ref n), (0, .ref (N0 + 164)), (1, .ref (N0 + 171)), (2, .ref b1), (3, .ref (N0 + 176)), (4, .ref (b1 + 1))]) S.1 S.2.1 dX10_left_17 hl (by decide) rfl (fun ls hl => ?_)
  refine lv_iload S.1 S.2.1 dX10_left_19 (lv_at hl 0 rfl) ?_
  refine lv_if_lt (tgt := 228) S.1 S.2.1 dX10_left_21 (by decide) (fun c => absurd c (by decide)) (fun _ => ?_)
  refine lv_aload S.1 S.2.1 dX10_left_24 (lv_at hl 6 rfl) ?_
  refine gx_alen (v := 0) S hG 0 (fblk_sk 1 rfl (by omega) (fu_at (by omega) h1)) rfl (rfl) dX10_left_26 ?_
  refine lv_istore (lv' := [(7, .int 0), (6, .int 0), (5, .ref n), (0, .ref (N0 + 164)), (1, .ref (N0 + 171)), (2, .ref b1), (3, .ref (N0 + 176)), (4, .ref (b1 + 1))]) S.1 S.2.1 dX10_left_27 hl (by decide) rfl (fun ls hl => ?_)
  refine lv_iload S.1 S.2.1 dX10_left_29 (lv_at hl 0 rfl) ?_
  refine lv_if_lt (tgt := 222) S.1 S.2.1 dX10_left_31 (by decide) (fun c => absurd c (by decide)) (fun _ => ?_)
  refine lv_iload S.1 S.2.1 dX10_left_34 (lv_at hl 1 rfl) ?_
  refine lv_aload_n S.1 S.2.1 dX10_left_36 rfl (lv_at hl 5 rfl) ?_
  refine gx_alen (v := 0) S hG 0 (fblk_sk 1 rfl (by omega) (fu_at (by omega) h0)) rfl (rfl) dX10_left_37 ?_
  refine lv_icmp_ne (tgt := 52) S.1 S.2.1 dX10_left_38 (by decide) (fun c => absurd (by decide) c) (fun _ => ?_)
  refine lv_iload S.1 S.2.1 dX10_left_41 (lv_at hl 0 rfl) ?_
  refine lv_aload S.1 S.2.1 dX10_left_43 (lv_at hl 7 rfl) ?_
  refine gx_alen (v := 0) S hG 0 (fblk_sk 1 rfl (by omega) (fu_at (by omega) h1)) rfl (rfl) dX10_left_45 ?_
  refine lv_icmp_ne (tgt := 52) S.1 S.2.1 dX10_left_46 (by decide) (fun c => absurd (by decide) c) (fun _ => ?_)
  refine lv_goto (tgt := 216) S.1 S.2.1 dX10_left_49 (by decide) ?_
  refine lv_iinc (v := (-1)) (lv' := [(7, .int (-1)), (6, .int 0), (5, .ref n), (0, .ref (N0 + 164)), (1, .ref (N0 + 171)), (2, .ref b1), (3, .ref (N0 + 176)), (4, .ref (b1 + 1))]) S.1 S.2.1 dX10_left_216 hl (k := 0) rfl (by decide) (by decide) rfl (fun ls hl => ?_)
  refine lv_goto (tgt := 29) S.1 S.2.1 dX10_left_219 (by decide) ?_
  refine lv_iload S.1 S.2.1 dX10_left_29 (lv_at hl 0 rfl) ?_
  refine lv_if_lt (tgt := 222) S.1 S.2.1 dX10_left_31 (by decide) (fun _ => ?_) (fun c => absurd (by decide) c)
  refine lv_iinc (v := (-1)) (lv' := [(6, .int (-1)), (7, .int (-1)), (5, .ref n), (0, .ref (N0 + 164)), (1, .ref (N0 + 171)), (2, .ref b1), (3, .ref (N0 + 176)), (4, .ref (b1 + 1))]) S.1 S.2.1 dX10_left_222 hl (k := 1) rfl (by decide) (by decide) rfl (fun ls hl => ?_)
  refine lv_goto (tgt := 19) S.1 S.2.1 dX10_left_225 (by decide) ?_
  refine lv_iload S.1 S.2.1 dX10_left_19 (lv_at hl 0 rfl) ?_
  refine lv_if_lt (tgt := 228) S.1 S.2.1 dX10_left_21 (by decide) (fun _ => ?_) (fun c => absurd (by decide) c)
  refine lv_aload S.1 S.2.1 dX10_left_228 (lv_at hl 2 rfl) ?_
  have hG : fG N0 D vwCl (fty cI cC cL cD cII cTr cTm cIt cB) (fen ql) s (fblk F n [.inl (cII, 1, .inr (.inr (.inr (.inr (fun j => if j < 1 then some ((n + 1) + j) else none))))), .inl (cI, 1, .inl (fun _ => 0))]) (n + 2) H _ := hG.weak (fun a e h => by
    rcases fblk_cases 2 rfl h with ⟨k, rfl, hlt, hk⟩ | ⟨hout, h⟩
    · rcases (show k = 0 ∨ k = 1 by omega) with rfl | rfl
      · cases (show some (.inl (cII, 1, .inr (.inr (.inr (.inr (fun j => if j < 1 then some ((n + 1) + j) else none)))))) = some e from hk); exact (fblk_sk 1 rfl (by omega) fu_s)
      · cases (show some (.inl (cI, 1, .inl (fun _ => 0))) = some e from hk); exact (fblk_at 0 (by omega) rfl)
    · exact (fblk_sk 1 rfl (by omega) (fu_at (by omega) h)))
  exact fx_aret S hr (Or.inr ⟨_, rfl⟩) hlocks () hG (rfl) dX10_left_230
set_option maxHeartbeats 16000000 in
theorem k1250_X10_fills {n : Nat} (hn : N0 + 231 ≤ n) (h0 : F (N0 + 171) = some (.inr (11, [.ref (N0 + 172), .ref (N0 + 173), .ref (N0 + 174), .ref (N0 + 175), .int 1]))) (h1 : F (N0 + 176) = some (.inr (11, [.ref (N0 + 177), .ref (N0 + 178), .ref (N0 + 179), .ref (N0 + 180), .int 1]))) (h2 : F (N0 + 172) = some (.inl (cI, 20, .inl (upd (fun _ => 0) 0 97)))) (h3 : F (N0 + 177) = some (.inl (cI, 20, .inl (upd (fun _ => 0) 0 97)))) (h4 : F (N0 + 174) = some (.inl (cI, 20, .inl (upd (fun _ => 0) 0 0)))) (h5 : F (N0 + 179) = some (.inl (cI, 20, .inl (upd (fun _ => 0) 0 0)))) (h6 : F (N0 + 164) = some (.inr (12, [.ref (N0 + 165), .int 0, .ref (N0 + 181), .int 0, .int 0, .int 0, .int (-1), .ref (ql 24), .ref (N0 + 182), .ref (N0 + 187), .ref (N0 + 208), .ref (N0 + 209), .ref (N0 + 210), .ref (N0 + 211), .ref (N0 + 212), .int 0, .ref (N0 + 213), .ref (N0 + 218), .ref (N0 + 223), .ref (N0 + 224), .ref (N0 + 225), .ref (N0 + 226), .ref (N0 + 227), .int 0, .int 0, .ref (N0 + 228), .null, .int (-1), .int 0, .int 0, .int 0]))) (h7 : F (N0 + 187) = some (.inl (cII, 20, .inr (.inr (.inr (.inr (fun j => if j < 20 then some ((N0 + 188) + j) else none))))))) (h8 : F (N0 + 188) = some (.inl (cI, 20, .inl (fun _ => 0)))) : Met l yX10_fills wsX10_fills ({ frames := 2, cells := 4, slots := 2, locals := 47 }) (va_Pc [.ref (N0 + 164), .ref (N0 + 171), .ref (N0 + 176)] (fP N0 D vwCl (fty cI cC cL cD cII cTr cTm cIt cB) (fen ql) F n)) (fQi N0 D vwCl (fty cI cC cL cD cII cTr cTm cIt cB) (fun (r : Int32) (_ : Unit) => r = 0) (fun _ => (fblk (fu F (N0 + 188) (.inl (cI, 20, .inl (upd (fun _ => 0) 0 0)))) n [.inl (cI, 0, .inl (fun _ => 0)), .inl (cI, 0, .inl (fun _ => 0)), .inl (cII, 1, .inr (.inr (.inr (.inr (fun j => if j < 1 then some ((n + 3) + j) else none))))), .inl (cI, 1, .inl (fun _ => 0))])) (fun _ => (n + 4))) 4 2 (fA N0) := by
  refine fx_start 6 rfl rfl (Nat.le_of_ble_eq_true rfl) ?_ rfl
  intro p e s m below meth c ls S hr hlocks hin hG hl
  have hl : lv_has ls 6 [(0, .ref (N0 + 164)), (1, .ref (N0 + 171)), (2, .ref (N0 + 176))] := hl
  have lt_h0 := hG.1.lt h0
  have lt_h1 := hG.1.lt h1
  have lt_h2 := hG.1.lt h2
  have lt_h3 := hG.1.lt h3
  have lt_h4 := hG.1.lt h4
  have lt_h5 := hG.1.lt h5
  have lt_h6 := hG.1.lt h6
  have lt_h7 := hG.1.lt h7
  have lt_h8 := hG.1.lt h8
  refine lv_aload_n S.1 S.2.1 dX10_fills_0 rfl (lv_at hl 1 rfl) ?_
  refine gx_getN (C := RX9) (T := TX9) (N := 5) S hG h0 i_X10_fills_X9 rfl 4 (by decide) (List.mem_of_getElem? (i := 4) rfl) rfl dX10_fills_1 ?_
  refine lv_iconst (v := 1) S.1 S.2.1 dX10_fills_4 (by decide) ?_
  refine lv_isub S.1 S.2.1 dX10_fills_5 ?_
  refine fx_topi (y := 0) (by decide) ?_
  refine lv_istore_n (lv' := [(3, .int 0), (0, .ref (N0 + 164)), (1, .ref (N0 + 171)), (2, .ref (N0 + 176))]) S.1 S.2.1 dX10_fills_6 rfl hl (by decide) rfl (fun ls hl => ?_)
  refine lv_iload_n S.1 S.2.1 dX10_fills_7 rfl (lv_at hl 0 rfl) ?_
  refine lv_if_lt (tgt := 114) S.1 S.2.1 dX10_fills_8 (by decide) (fun c => absurd c (by decide)) (fun _ => ?_)
  refine lv_aload_n S.1 S.2.1 dX10_fills_11 rfl (lv_at hl 3 rfl) ?_
  refine gx_getN (C := RX9) (T := TX9) (N := 5) S hG h1 i_X10_fills_X9 rfl 4 (by decide) (List.mem_of_getElem? (i := 4) rfl) rfl dX10_fills_12 ?_
  refine lv_iconst (v := 1) S.1 S.2.1 dX10_fills_15 (by decide) ?_
  refine lv_isub S.1 S.2.1 dX10_fills_16 ?_
  refine fx_topi (y := 0) (by decide) ?_
  refine lv_istore (lv' := [(4, .int 0), (3, .int 0), (0, .ref (N0 + 164)), (1, .ref (N0 + 171)), (2, .ref (N0 + 176))]) S.1 S.2.1 dX10_fills_17 hl (by decide) rfl (fun ls hl => ?_)
  refine lv_iload S.1 S.2.1 dX10_fills_19 (lv_at hl 0 rfl) ?_
  refine lv_if_lt (tgt := 108) S.1 S.2.1 dX10_fills_21 (by decide) (fun c => absurd c (by decide)) (fun _ => ?_)
  refine lv_aload_n S.1 S.2.1 dX10_fills_24 rfl (lv_at hl 3 rfl) ?_
  refine gx_getN (C := RX9) (T := TX9) (N := 5) S hG h0 i_X10_fills_X9 rfl 0 (by decide) (List.mem_of_getElem? (i := 1) rfl) rfl dX10_fills_25 ?_
  refine lv_iload_n S.1 S.2.1 dX10_fills_28 rfl (lv_at hl 1 rfl) ?_
  refine gx_iald (v := 97) S hG 0 h2 rfl (fin_l (by decide)) (by decide) dX10_fills_29 ?_
  refine lv_aload_n S.1 S.2.1 dX10_fills_30 rfl (lv_at hl 4 rfl) ?_
  refine gx_getN (C := RX9) (T := TX9) (N := 5) S hG h1 i_X10_fills_X9 rfl 0 (by decide) (List.mem_of_getElem? (i := 1) rfl) rfl dX10_fills_31 ?_
  refine lv_iload S.1 S.2.1 dX10_fills_34 (lv_at hl 0 rfl) ?_
  refine gx_iald (v := 97) S hG 0 h3 rfl (fin_l (by decide)) (by decide) dX10_fills_36 ?_
  refine lv_icmp_ne (tgt := 44) S.1 S.2.1 dX10_fills_37 (by decide) (fun c => absurd (by decide) c) (fun _ => ?_)
  refine lv_iconst (v := 0) S.1 S.2.1 dX10_fills_40 (by decide) ?_
  refine lv_goto (tgt := 45) S.1 S.2.1 dX10_fills_41 (by decide) ?_
  refine lv_aload_n S.1 S.2.1 dX10_fills_45 rfl (lv_at hl 3 rfl) ?_
  refine gx_getN (C := RX9) (T := TX9) (N := 5) S hG h0 i_X10_fills_X9 rfl 2 (by decide) (List.mem_of_getElem? (i := 3) rfl) rfl dX10_fills_46 ?_
  refine lv_iload_n S.1 S.2.1 dX10_fills_49 rfl (lv_at hl 1 rfl) ?_
  refine gx_iald (v := 0) S hG 0 h4 rfl (fin_l (by decide)) (by decide) dX10_fills_50 ?_
  refine lv_aload_n S.1 S.2.1 dX10_fills_51 rfl (lv_at hl 4 rfl) ?_
  refine gx_getN (C := RX9) (T := TX9) (N := 5) S hG h1 i_X10_fills_X9 rfl 2 (by decide) (List.mem_of_getElem? (i := 3) rfl) rfl dX10_fills_52 ?_
  refine lv_iload S.1 S.2.1 dX10_fills_55 (lv_at hl 0 rfl) ?_
  refine gx_iald (v := 0) S hG 0 h5 rfl (fin_l (by decide)) (by decide) dX10_fills_57 ?_
  refine lv_icmp_ne (tgt := 65) S.1 S.2.1 dX10_fills_58 (by decide) (fun c => absurd (by decide) c) (fun _ => ?_)
  refine lv_iconst (v := 0) S.1 S.2.1 dX10_fills_61 (by decide) ?_
  refine lv_goto (tgt := 66) S.1 S.2.1 dX10_fills_62 (by decide) ?_
  refine lv_iadd S.1 S.2.1 dX10_fills_66 ?_
  refine fx_topi (y := 0) (by decide) ?_
  refine lv_istore (lv' := [(5, .int 0), (4, .int 0), (3, .int 0), (0, .ref (N0 + 164)), (1, .ref (N0 + 171)), (2, .ref (N0 + 176))]) S.1 S.2.1 dX10_fills_67 hl (by decide) rfl (fun ls hl => ?_)
  refine lv_aload_n S.1 S.2.1 dX10_fills_69 rfl (lv_at hl 3 rfl) ?_
  refine gx_get (C := RX10) (T := TX10) (N := 31) S hG h6 i_X10_fills_X10 rfl 9 (by decide) (by decide +kernel) rfl dX10_fills_70 ?_
  refine lv_iload_n S.1 S.2.1 dX10_fills_73 rfl (lv_at hl 2 rfl) ?_
  refine gx_aldq (x := (N0 + 188)) S hG 4 rfl h7 rfl (fin_l (by decide)) (rfl) dX10_fills_74 ?_
  refine lv_iload S.1 S.2.1 dX10_fills_75 (lv_at hl 1 rfl) ?_
  refine lv_iload S.1 S.2.1 dX10_fills_77 (lv_at hl 0 rfl) ?_
  refine lv_aload_n S.1 S.2.1 dX10_fills_79 rfl (lv_at hl 3 rfl) ?_
  refine lv_aload_n S.1 S.2.1 dX10_fills_80 rfl (lv_at hl 4 rfl) ?_
  refine lv_aload_n S.1 S.2.1 dX10_fills_81 rfl (lv_at hl 4 rfl) ?_
  refine lv_iload_n S.1 S.2.1 dX10_fills_82 rfl (lv_at hl 2 rfl) ?_
  refine fx_cVNr (host := "TreeDifferModel") (As := [.int 0]) (rest := [.ref (N0 + 171), .ref (N0 + 164), .int 0, .int 0, .ref (N0 + 188)]) S hG (k151_X9_kids (by omega) h0) h0 rfl ⟨(va_cnB 1 S.2.2.2.2 gX10_fills_X9_kids_n173 rfl rfl rfl (hG.nest (show _ ∈ fen2.2.2.1 from by decide)) (S.2.2.2.2 (.initialized RX9) (by decide +kernel)) (by decide +kernel) ⟨Nat.le_of_ble_eq_true rfl, Nat.le_of_ble_eq_true rfl⟩), S.2.2.2.2 (.instanceMethod yX9_kids) (by decide +kernel), S.2.2.2.2 (.selects RX9 yX9_kids yX9_kids) (by decide +kernel)⟩ rfl hl.1 rfl (Nat.le_of_ble_eq_true rfl) dX10_fills_83 ⟨Nat.le_of_ble_eq_true rfl, Nat.le_of_ble_eq_true rfl⟩ (fun rv_1 _ H locs hp hG => ?_)
  subst rv_1
  refine W.widen (k := 1) (n := 0) (by decide) (by decide) ?_
  refine lv_aload_n S.1 S.2.1 dX10_fills_86 rfl (lv_at hl 5 rfl) ?_
  refine lv_aload_n S.1 S.2.1 dX10_fills_87 rfl (lv_at hl 5 rfl) ?_
  refine lv_iload S.1 S.2.1 dX10_fills_88 (lv_at hl 1 rfl) ?_
  refine fx_cVNr (host := "TreeDifferModel") (As := [.int 0]) (rest := [.ref (N0 + 176), .ref n, .ref (N0 + 171), .ref (N0 + 164), .int 0, .int 0, .ref (N0 + 188)]) S hG (k195_X9_kids (by omega) (fblk_sk 1 rfl (by omega) h1)) (fblk_sk 1 rfl (by omega) h1) rfl ⟨(va_cnB 1 S.2.2.2.2 gX10_fills_X9_kids_n173 rfl rfl rfl (hG.nest (show _ ∈ fen2.2.2.1 from by decide)) (S.2.2.2.2 (.initialized RX9) (by decide +kernel)) (by decide +kernel) ⟨Nat.le_of_ble_eq_true rfl, Nat.le_of_ble_eq_true rfl⟩), S.2.2.2.2 (.instanceMethod yX9_kids) (by decide +kernel), S.2.2.2.2 (.selects RX9 yX9_kids yX9_kids) (by decide +kernel)⟩ rfl hl.1 rfl (Nat.le_of_ble_eq_true rfl) dX10_fills_90 ⟨Nat.le_of_ble_eq_true rfl, Nat.le_of_ble_eq_true rfl⟩ (fun rv_2 _ H locs hp hG => ?_)
  subst rv_2
  refine W.widen (k := 2) (n := 0) (by decide) (by decide) ?_
  refine fx_cVr (As := [.ref (N0 + 171), .ref n, .ref (N0 + 176), .ref (n + 1)]) (rest := [.int 0, .int 0, .ref (N0 + 188)]) S hG (k1249_X10_left (by omega) (by omega) (fblk_sk 1 rfl (by omega) (fblk_at 0 (by omega) rfl)) (fblk_at 0 (by omega) rfl)) (fblk_sk 1 rfl (by omega) (fblk_sk 1 rfl (by omega) h6)) rfl (cwV 4 S.2.2.2.2 gX10_fills_X10_left rfl rfl rfl (by decide +kernel) ⟨Nat.le_of_ble_eq_true rfl, Nat.le_of_ble_eq_true rfl⟩) rfl hl.1 rfl (Nat.le_of_ble_eq_true rfl) dX10_fills_93 ⟨Nat.le_of_ble_eq_true rfl, Nat.le_of_ble_eq_true rfl⟩ (fun rv_3 _ H locs hp hG => ?_)
  subst rv_3
  refine W.widen (k := 4) (n := 2) (by decide) (by decide) ?_
  refine lv_iconst (v := 0) S.1 S.2.1 dX10_fills_96 (by decide) ?_
  refine gx_aldq (x := (n + 3)) S hG 4 rfl (fblk_at 0 (by omega) rfl) rfl (fin_l (by decide)) (rfl) dX10_fills_97 ?_
  refine lv_iconst (v := 0) S.1 S.2.1 dX10_fills_98 (by decide) ?_
  refine gx_iald (v := 0) S hG 0 (fblk_at 1 (by omega) rfl) rfl (fin_l (by decide)) (by decide) dX10_fills_99 ?_
  refine lv_iadd S.1 S.2.1 dX10_fills_100 ?_
  refine fx_topi (y := 0) (by decide) ?_
  refine gx_iast (f' := upd (fun _ => 0) 0 0) S hG 0 (fblk_sk 2 rfl (by omega) (fblk_sk 1 rfl (by omega) (fblk_sk 1 rfl (by omega) h8))) rfl (fin_l (by decide)) dX10_fills_101 (rfl) (fun H locs hG => ?_)
  refine lv_iinc (v := (-1)) (lv' := [(4, .int (-1)), (5, .int 0), (3, .int 0), (0, .ref (N0 + 164)), (1, .ref (N0 + 171)), (2, .ref (N0 + 176))]) S.1 S.2.1 dX10_fills_102 hl (k := 1) rfl (by decide) (by decide) rfl (fun ls hl => ?_)
  refine lv_goto (tgt := 19) S.1 S.2.1 dX10_fills_105 (by decide) ?_
  refine lv_iload S.1 S.2.1 dX10_fills_19 (lv_at hl 0 rfl) ?_
  refine lv_if_lt (tgt := 108) S.1 S.2.1 dX10_fills_21 (by decide) (fun _ => ?_) (fun c => absurd (by decide) c)
  refine lv_iinc (v := (-1)) (lv' := [(3, .int (-1)), (4, .int (-1)), (5, .int 0), (0, .ref (N0 + 164)), (1, .ref (N0 + 171)), (2, .ref (N0 + 176))]) S.1 S.2.1 dX10_fills_108 hl (k := 2) rfl (by decide) (by decide) rfl (fun ls hl => ?_)
  refine lv_goto (tgt := 7) S.1 S.2.1 dX10_fills_111 (by decide) ?_
  refine lv_iload_n S.1 S.2.1 dX10_fills_7 rfl (lv_at hl 0 rfl) ?_
  refine lv_if_lt (tgt := 114) S.1 S.2.1 dX10_fills_8 (by decide) (fun _ => ?_) (fun c => absurd (by decide) c)
  refine lv_aload_n S.1 S.2.1 dX10_fills_114 rfl (lv_at hl 3 rfl) ?_
  refine gx_get (C := RX10) (T := TX10) (N := 31) S hG (fu_at (by omega) (fblk_sk 2 rfl (by omega) (fblk_sk 1 rfl (by omega) (fblk_sk 1 rfl (by omega) h6)))) i_X10_fills_X10 rfl 9 (by decide) (by decide +kernel) rfl dX10_fills_115 ?_
  refine lv_iconst (v := 0) S.1 S.2.1 dX10_fills_118 (by decide) ?_
  refine gx_aldq (x := (N0 + 188)) S hG 4 rfl (fu_at (by omega) (fblk_sk 2 rfl (by omega) (fblk_sk 1 rfl (by omega) (fblk_sk 1 rfl (by omega) h7)))) rfl (fin_l (by decide)) (rfl) dX10_fills_119 ?_
  refine lv_iconst (v := 0) S.1 S.2.1 dX10_fills_120 (by decide) ?_
  refine gx_iald (v := 0) S hG 0 fu_s rfl (fin_l (by decide)) (by decide) dX10_fills_121 ?_
  have hG : fG N0 D vwCl (fty cI cC cL cD cII cTr cTm cIt cB) (fen ql) s (fblk (fu F (N0 + 188) (.inl (cI, 20, .inl (upd (fun _ => 0) 0 0)))) n [.inl (cI, 0, .inl (fun _ => 0)), .inl (cI, 0, .inl (fun _ => 0)), .inl (cII, 1, .inr (.inr (.inr (.inr (fun j => if j < 1 then some ((n + 3) + j) else none))))), .inl (cI, 1, .inl (fun _ => 0))]) (n + 4) H locs := hG.weak (fun a e h => by
    rcases fblk_cases 4 rfl h with ⟨k, rfl, hlt, hk⟩ | ⟨hout, h⟩
    · rcases (show k = 0 ∨ k = 1 ∨ k = 2 ∨ k = 3 by omega) with rfl | rfl | rfl | rfl
      · cases (show some (.inl (cI, 0, .inl (fun _ => 0))) = some e from hk); exact (fu_at (by omega) (fblk_sk 2 rfl (by omega) (fblk_sk 1 rfl (by omega) (fblk_at 0 (by omega) rfl))))
      · cases (show some (.inl (cI, 0, .inl (fun _ => 0))) = some e from hk); exact (fu_at (by omega) (fblk_sk 2 rfl (by omega) (fblk_at 0 (by omega) rfl)))
      · cases (show some (.inl (cII, 1, .inr (.inr (.inr (.inr (fun j => if j < 1 then some ((n + 3) + j) else none)))))) = some e from hk); exact (fu_at (by omega) (fblk_at 0 (by omega) rfl))
      · cases (show some (.inl (cI, 1, .inl (fun _ => 0))) = some e from hk); exact (fu_at (by omega) (fblk_at 1 (by omega) rfl))
    · rcases fu_cases h with ⟨rfl, he⟩ | ⟨hne0, h⟩
      · cases he; exact fu_s
      · exact (fu_at (by omega) (fblk_sk 2 rfl (by omega) (fblk_sk 1 rfl (by omega) (fblk_sk 1 rfl (by omega) h)))))
  exact fx_iret S hr hlocks () hG (rfl) dX10_fills_122
theorem k1251_X10_distance {n : Nat} (hn : N0 + 231 ≤ n) (h0 : F (N0 + 164) = some (.inr (12, [.ref (N0 + 165), .int 0, .ref (N0 + 181), .int 0, .int 0, .int 0, .int (-1), .ref (ql 24), .ref (N0 + 182), .ref (N0 + 187), .ref (N0 + 208), .ref (N0 + 209), .ref (N0 + 210), .ref (N0 + 211), .ref (N0 + 212), .int 0, .ref (N0 + 213), .ref (N0 + 218), .ref (N0 + 223), .ref (N0 + 224), .ref (N0 + 225), .ref (N0 + 226), .ref (N0 + 227), .int 0, .int 0, .ref (N0 + 228), .null, .int (-1), .int 0, .int 0, .int 0]))) (h1 : F (N0 + 165) = some (.inl (cTm, 3, .inr (.inr (.inr (.inr (va_up (va_up (va_up (fun _ => none) 0 (some (N0 + 166))) 1 (some (N0 + 171))) 2 (some (N0 + 176))))))))) (h2 : F (N0 + 171) = some (.inr (11, [.ref (N0 + 172), .ref (N0 + 173), .ref (N0 + 174), .ref (N0 + 175), .int 1]))) (h3 : F (N0 + 176) = some (.inr (11, [.ref (N0 + 177), .ref (N0 + 178), .ref (N0 + 179), .ref (N0 + 180), .int 1]))) (h4 : F (N0 + 172) = some (.inl (cI, 20, .inl (upd (fun _ => 0) 0 97)))) (h5 : F (N0 + 177) = some (.inl (cI, 20, .inl (upd (fun _ => 0) 0 97)))) (h6 : F (N0 + 174) = some (.inl (cI, 20, .inl (upd (fun _ => 0) 0 0)))) (h7 : F (N0 + 179) = some (.inl (cI, 20, .inl (upd (fun _ => 0) 0 0)))) (h8 : F (N0 + 187) = some (.inl (cII, 20, .inr (.inr (.inr (.inr (fun j => if j < 20 then some ((N0 + 188) + j) else none))))))) (h9 : F (N0 + 188) = some (.inl (cI, 20, .inl (fun _ => 0)))) : Met l yX10_distance wsX10_distance ({ frames := 3, cells := 4, slots := 2, locals := 72 }) (va_Pc [.ref (N0 + 164), .int 1, .int 2] (fP N0 D vwCl (fty cI cC cL cD cII cTr cTm cIt cB) (fen ql) F n)) (fQi N0 D vwCl (fty cI cC cL cD cII cTr cTm cIt cB) (fun (r : Int32) (_ : Unit) => r = 0) (fun _ => (fblk (fu (fu F (N0 + 164) (.inr (12, [.ref (N0 + 165), .int 0, .ref (N0 + 181), .int 0, .int 0, .int 0, .int (-1), .ref (ql 24), .ref (N0 + 182), .ref (N0 + 187), .ref (N0 + 208), .ref (N0 + 209), .ref (N0 + 210), .ref (N0 + 211), .ref (N0 + 212), .int 0, .ref (N0 + 213), .ref (N0 + 218), .ref (N0 + 223), .ref (N0 + 224), .ref (N0 + 225), .ref (N0 + 226), .ref (N0 + 227), .int 0, .int 0, .ref (N0 + 228), .null, .int (-1), .int 0, .int 0, .int 0]))) (N0 + 188) (.inl (cI, 20, .inl (upd (fun _ => 0) 0 0)))) n [.inl (cI, 0, .inl (fun _ => 0)), .inl (cI, 0, .inl (fun _ => 0)), .inl (cII, 1, .inr (.inr (.inr (.inr (fun j => if j < 1 then some ((n + 3) + j) else none))))), .inl (cI, 1, .inl (fun _ => 0))])) (fun _ => (n + 4))) 4 2 (fA N0) := by
  refine fx_start 3 rfl rfl (Nat.le_of_ble_eq_true rfl) ?_ rfl
  intro p e s m below meth c ls S hr hlocks hin hG hl
  have hl : lv_has ls 3 [(0, .ref (N0 + 164)), (1, .int 1), (2, .int 2)] := hl
  have lt_h0 := hG.1.lt h0
  have lt_h1 := hG.1.lt h1
  have lt_h2 := hG.1.lt h2
  have lt_h3 := hG.1.lt h3
  have lt_h4 := hG.1.lt h4
  have lt_h5 := hG.1.lt h5
  have lt_h6 := hG.1.lt h6
  have lt_h7 := hG.1.lt h7
  have lt_h8 := hG.1.lt h8
  have lt_h9 := hG.1.lt h9
  refine lv_aload_n S.1 S.2.1 dX10_distance_0 rfl (lv_at hl 0 rfl) ?_
  refine lv_iload_n S.1 S.2.1 dX10_distance_1 rfl (lv_at hl 1 rfl) ?_
  refine lv_iload_n S.1 S.2.1 dX10_distance_2 rfl (lv_at hl 2 rfl) ?_
  refine fx_cVi (As := [.int 1, .int 2]) (rest := []) S hG (k504_X10_areNone (by omega) h0) h0 rfl (cwV 2 S.2.2.2.2 gX10_distance_X10_areNone rfl rfl rfl (by decide +kernel) ⟨Nat.le_of_ble_eq_true rfl, Nat.le_of_ble_eq_true rfl⟩) rfl hl.1 rfl (Nat.le_of_ble_eq_true rfl) dX10_distance_3 ⟨Nat.le_of_ble_eq_true rfl, Nat.le_of_ble_eq_true rfl⟩ (fun rv_1 _ H locs hp hG => ?_)
  subst rv_1
  refine lv_if_eq (tgt := 13) S.1 S.2.1 dX10_distance_6 (by decide) (fun _ => ?_) (fun c => absurd (by decide) c)
  refine lv_aload_n S.1 S.2.1 dX10_distance_13 rfl (lv_at hl 0 rfl) ?_
  refine lv_aload_n S.1 S.2.1 dX10_distance_14 rfl (lv_at hl 0 rfl) ?_
  refine gx_get (C := RX10) (T := TX10) (N := 31) S hG fu_s i_X10_distance_X10 rfl 0 (by decide) (by decide +kernel) rfl dX10_distance_15 ?_
  refine lv_iload_n S.1 S.2.1 dX10_distance_18 rfl (lv_at hl 1 rfl) ?_
  refine gx_aldq (x := (N0 + 171)) S hG 6 rfl (fu_at (by omega) h1) rfl (fin_l (by decide)) (rfl) dX10_distance_19 ?_
  refine lv_aload_n S.1 S.2.1 dX10_distance_20 rfl (lv_at hl 0 rfl) ?_
  refine gx_get (C := RX10) (T := TX10) (N := 31) S hG fu_s i_X10_distance_X10 rfl 0 (by decide) (by decide +kernel) rfl dX10_distance_21 ?_
  refine lv_iload_n S.1 S.2.1 dX10_distance_24 rfl (lv_at hl 2 rfl) ?_
  refine gx_aldq (x := (N0 + 176)) S hG 6 rfl (fu_at (by omega) h1) rfl (fin_l (by decide)) (rfl) dX10_distance_25 ?_
  refine fx_cVi (As := [.ref (N0 + 171), .ref (N0 + 176)]) (rest := []) S hG (k1250_X10_fills (by omega) (fu_at (by omega) h2) (fu_at (by omega) h3) (fu_at (by omega) h4) (fu_at (by omega) h5) (fu_at (by omega) h6) (fu_at (by omega) h7) fu_s (fu_at (by omega) h8) (fu_at (by omega) h9)) fu_s rfl (cwV 2 S.2.2.2.2 gX10_distance_X10_fills rfl rfl rfl (by decide +kernel) ⟨Nat.le_of_ble_eq_true rfl, Nat.le_of_ble_eq_true rfl⟩) rfl hl.1 rfl (Nat.le_of_ble_eq_true rfl) dX10_distance_26 ⟨Nat.le_of_ble_eq_true rfl, Nat.le_of_ble_eq_true rfl⟩ (fun rv_2 _ H locs hp hG => ?_)
  subst rv_2
  refine W.widen (k := 4) (n := 2) (by decide) (by decide) ?_
  have hG : fG N0 D vwCl (fty cI cC cL cD cII cTr cTm cIt cB) (fen ql) s (fblk (fu (fu F (N0 + 164) (.inr (12, [.ref (N0 + 165), .int 0, .ref (N0 + 181), .int 0, .int 0, .int 0, .int (-1), .ref (ql 24), .ref (N0 + 182), .ref (N0 + 187), .ref (N0 + 208), .ref (N0 + 209), .ref (N0 + 210), .ref (N0 + 211), .ref (N0 + 212), .int 0, .ref (N0 + 213), .ref (N0 + 218), .ref (N0 + 223), .ref (N0 + 224), .ref (N0 + 225), .ref (N0 + 226), .ref (N0 + 227), .int 0, .int 0, .ref (N0 + 228), .null, .int (-1), .int 0, .int 0, .int 0]))) (N0 + 188) (.inl (cI, 20, .inl (upd (fun _ => 0) 0 0)))) n [.inl (cI, 0, .inl (fun _ => 0)), .inl (cI, 0, .inl (fun _ => 0)), .inl (cII, 1, .inr (.inr (.inr (.inr (fun j => if j < 1 then some ((n + 3) + j) else none))))), .inl (cI, 1, .inl (fun _ => 0))]) (n + 4) H locs := hG.weak (fun a e h => by
    rcases fblk_cases 4 rfl h with ⟨k, rfl, hlt, hk⟩ | ⟨hout, h⟩
    · rcases (show k = 0 ∨ k = 1 ∨ k = 2 ∨ k = 3 by omega) with rfl | rfl | rfl | rfl
      · cases (show some (.inl (cI, 0, .inl (fun _ => 0))) = some e from hk); exact (fblk_at 0 (by omega) rfl)
      · cases (show some (.inl (cI, 0, .inl (fun _ => 0))) = some e from hk); exact (fblk_at 1 (by omega) rfl)
      · cases (show some (.inl (cII, 1, .inr (.inr (.inr (.inr (fun j => if j < 1 then some ((n + 3) + j) else none)))))) = some e from hk); exact (fblk_at 2 (by omega) rfl)
      · cases (show some (.inl (cI, 1, .inl (fun _ => 0))) = some e from hk); exact (fblk_at 3 (by omega) rfl)
    · rcases fu_cases h with ⟨rfl, he⟩ | ⟨hne0, h⟩
      · cases he; exact (fblk_sk 4 rfl (by omega) fu_s)
      · skip
        rcases fu_cases h with ⟨rfl, he⟩ | ⟨hne1, h⟩
        · cases he; exact (fblk_sk 4 rfl (by omega) (fu_at (by omega) fu_s))
        · exact (fblk_sk 4 rfl (by omega) (fu_at (by omega) (fu_at (by omega) h))))
  exact fx_iret S hr hlocks () hG (rfl) dX10_distance_29
theorem k1252_X7_distance {n : Nat} {a2 : Int32} (g_a2_ge_3 : 3 ≤ a2) (hst : l.stackTraces = false) (hn : N0 + 231 ≤ n) (h0 : F N0 = some (.inr (9, [.ref (N0 + 1), .ref (N0 + 2), .ref (N0 + 11), .ref (N0 + 13), .ref (N0 + 63), .ref (N0 + 65), .ref (N0 + 85), .int (-1), .int (-1), .int 32]))) (h1 : F (N0 + 1) = some (.inl (cTr, 3, .inr (.inr (.inr (.inr (va_up (va_up (va_up (fun _ => none) 0 (some (N0 + 143))) 1 (some (N0 + 150))) 2 (some (N0 + 157))))))))) : vx_Met l yX7_distance wsX7_distance ({ frames := 7, cells := 1, slots := 6, locals := 103 }) (va_Pc [.ref N0, .int 1, .int a2] (fP N0 D vwCl (fty cI cC cL cD cII cTr cTm cIt cB) (fen ql) F n)) (fNo N0 D vwCl (fty cI cC cL cD cII cTr cTm cIt cB) F n) (fXC N0 D vwCl (fty cI cC cL cD cII cTr cTm cIt cB) "java/lang/IndexOutOfBoundsException" F n) 1 6 (fA N0) := by
  refine fx_startX 5 rfl rfl (Nat.le_of_ble_eq_true rfl) ?_ rfl
  intro p e s m below meth c ls S htab hlocks hG hl
  have hl : lv_has ls 5 [(0, .ref N0), (1, .int 1), (2, .int a2)] := hl
  have lt_h0 := hG.1.lt h0
  have lt_h1 := hG.1.lt h1
  refine lv_aload_n S.1 S.2.1 dX7_distance_0 rfl (lv_at hl 0 rfl) ?_
  refine lv_iload_n S.1 S.2.1 dX7_distance_1 rfl (lv_at hl 1 rfl) ?_
  refine fx_cVr (As := [.int 1]) (rest := []) S hG (k42_X7_treeAt (by omega) h0 h1) h0 rfl (cwV 1 S.2.2.2.2 gX7_distance_X7_treeAt rfl rfl rfl (by decide +kernel) ⟨Nat.le_of_ble_eq_true rfl, Nat.le_of_ble_eq_true rfl⟩) rfl hl.1 rfl (Nat.le_of_ble_eq_true rfl) dX7_distance_2 ⟨Nat.le_of_ble_eq_true rfl, Nat.le_of_ble_eq_true rfl⟩ (fun rv_1 _ H locs hp hG => ?_)
  subst rv_1
  refine lv_astore_n (lv' := [(3, .ref (N0 + 150)), (0, .ref N0), (1, .int 1), (2, .int a2)]) S.1 S.2.1 dX7_distance_5 rfl hl (by decide) rfl (fun ls hl => ?_)
  refine lv_aload_n S.1 S.2.1 dX7_distance_6 rfl (lv_at hl 1 rfl) ?_
  refine lv_iload_n S.1 S.2.1 dX7_distance_7 rfl (lv_at hl 3 rfl) ?_
  refine fx_xV (As := [.int a2]) (rest := []) S hG (k478_X7_treeAt g_a2_ge_3 hst (by omega)) h0 rfl (cwV 1 S.2.2.2.2 gX7_distance_X7_treeAt rfl rfl rfl (by decide +kernel) ⟨Nat.le_of_ble_eq_true rfl, Nat.le_of_ble_eq_true rfl⟩) rfl hl.1 rfl (Nat.le_of_ble_eq_true rfl) dX7_distance_8 ⟨Nat.le_of_ble_eq_true rfl, Nat.le_of_ble_eq_true rfl⟩ (fun ceq_2 q_2 H locs n_3 hn_3 hG h1q_2 h2q_2 h3q_2 => ?_)
  exact fx_out htab hlocks hG (by omega) h1q_2 h2q_2 h3q_2 (by decide) (by decide)
theorem k1253_L_distance {n : Nat} {a2 : Int32} (g_a2_ge_3 : 3 ≤ a2) (hst : l.stackTraces = false) (hn : N0 + 231 ≤ n) (h0 : F N0 = some (.inr (9, [.ref (N0 + 1), .ref (N0 + 2), .ref (N0 + 11), .ref (N0 + 13), .ref (N0 + 63), .ref (N0 + 65), .ref (N0 + 85), .int (-1), .int (-1), .int 32]))) (h1 : F (N0 + 1) = some (.inl (cTr, 3, .inr (.inr (.inr (.inr (va_up (va_up (va_up (fun _ => none) 0 (some (N0 + 143))) 1 (some (N0 + 150))) 2 (some (N0 + 157))))))))) : Met l yL_distance wsL_distance ({ frames := 8, cells := 1, slots := 6, locals := 127 }) (va_Pc [.ref N0, .int 1, .int a2, .ref (N0 + 229)] (fP N0 D vwCl (fty cI cC cL cD cII cTr cTm cIt cB) (fen ql) F n)) (fQi N0 D vwCl (fty cI cC cL cD cII cTr cTm cIt cB) (fun (r : Int32) (u : Nat) => r = 1 ∧ n ≤ u) (fun _ => F) (fun u => u)) 1 6 (fA N0) := by
  refine fx_startW (hh := [(0, 10, 13, 19)]) 5 rfl rfl (Nat.le_of_ble_eq_true rfl) ?_ rfl
  intro p e s m below meth c ls S htab hr hlocks hG hl
  have hl : lv_has ls 5 [(0, .ref N0), (1, .int 1), (2, .int a2), (3, .ref (N0 + 229))] := hl
  have lt_h0 := hG.1.lt h0
  have lt_h1 := hG.1.lt h1
  refine lv_aload_n S.1 S.2.1 dL_distance_0 rfl (lv_at hl 3 rfl) ?_
  refine lv_iconst (v := 0) S.1 S.2.1 dL_distance_1 (by decide) ?_
  refine lv_aload_n S.1 S.2.1 dL_distance_2 rfl (lv_at hl 0 rfl) ?_
  refine lv_iload_n S.1 S.2.1 dL_distance_3 rfl (lv_at hl 1 rfl) ?_
  refine lv_iload_n S.1 S.2.1 dL_distance_4 rfl (lv_at hl 2 rfl) ?_
  refine fx_xV (As := [.int 1, .int a2]) (rest := [.int 0, .ref (N0 + 229)]) S hG (k1252_X7_distance g_a2_ge_3 hst (by omega) h0 h1) h0 rfl (cwV 2 S.2.2.2.2 gL_distance_X7_distance rfl rfl rfl (by decide +kernel) ⟨Nat.le_of_ble_eq_true rfl, Nat.le_of_ble_eq_true rfl⟩) rfl hl.1 rfl (Nat.le_of_ble_eq_true rfl) dL_distance_5 ⟨Nat.le_of_ble_eq_true rfl, Nat.le_of_ble_eq_true rfl⟩ (fun ceq_1 q_1 H locs n_2 hn_2 hG h1q_1 h2q_1 h3q_1 => ?_)
  refine fx_catch (hh := [(0, 10, 13, 19)]) S htab hG h1q_1 h2q_1 h3q_1 [] ⟨0, 10, 13, 19⟩ [] rfl [] (fun z hz => absurd hz List.not_mem_nil) (by decide) (by decide) (by decide +kernel) (List.mem_of_getElem? (i := 2) rfl) ?_
  refine lv_astore (lv' := [(4, .ref q_1), (0, .ref N0), (1, .int 1), (2, .int a2), (3, .ref (N0 + 229))]) S.1 S.2.1 dL_distance_13 hl (by decide) rfl (fun ls hl => ?_)
  refine lv_iconst (v := 1) S.1 S.2.1 dL_distance_15 (by decide) ?_
  exact fx_iret S hr hlocks n_2 hG (⟨rfl, hn_2⟩) dL_distance_16
theorem k1254_X10_distance {n : Nat} {a2 : Int32} (g_a2_ge_3 : 3 ≤ a2) (hn : N0 + 231 ≤ n) (h0 : F (N0 + 164) = some (.inr (12, [.ref (N0 + 165), .int 0, .ref (N0 + 181), .int 0, .int 0, .int 0, .int (-1), .ref (ql 24), .ref (N0 + 182), .ref (N0 + 187), .ref (N0 + 208), .ref (N0 + 209), .ref (N0 + 210), .ref (N0 + 211), .ref (N0 + 212), .int 0, .ref (N0 + 213), .ref (N0 + 218), .ref (N0 + 223), .ref (N0 + 224), .ref (N0 + 225), .ref (N0 + 226), .ref (N0 + 227), .int 0, .int 0, .ref (N0 + 228), .null, .int (-1), .int 0, .int 0, .int 0]))) : Met l yX10_distance wsX10_distance ({ frames := 3, cells := 0, slots := 0, locals := 64 }) (va_Pc [.ref (N0 + 164), .int 1, .int a2] (fP N0 D vwCl (fty cI cC cL cD cII cTr cTm cIt cB) (fen ql) F n)) (fQi N0 D vwCl (fty cI cC cL cD cII cTr cTm cIt cB) (fun (r : Int32) (_ : Unit) => r = 0) (fun _ => (fu F (N0 + 164) (.inr (12, [.ref (N0 + 165), .int 1, .ref (N0 + 181), .int 0, .int 0, .int 0, .int (-1), .ref (ql 24), .ref (N0 + 182), .ref (N0 + 187), .ref (N0 + 208), .ref (N0 + 209), .ref (N0 + 210), .ref (N0 + 211), .ref (N0 + 212), .int 0, .ref (N0 + 213), .ref (N0 + 218), .ref (N0 + 223), .ref (N0 + 224), .ref (N0 + 225), .ref (N0 + 226), .ref (N0 + 227), .int 0, .int 0, .ref (N0 + 228), .null, .int (-1), .int 0, .int 0, .int 0])))) (fun _ => n)) 0 0 (fA N0) := by
  refine fx_start 3 rfl rfl (Nat.le_of_ble_eq_true rfl) ?_ rfl
  intro p e s m below meth c ls S hr hlocks hin hG hl
  have hl : lv_has ls 3 [(0, .ref (N0 + 164)), (1, .int 1), (2, .int a2)] := hl
  have lt_h0 := hG.1.lt h0
  refine lv_aload_n S.1 S.2.1 dX10_distance_0 rfl (lv_at hl 0 rfl) ?_
  refine lv_iload_n S.1 S.2.1 dX10_distance_1 rfl (lv_at hl 1 rfl) ?_
  refine lv_iload_n S.1 S.2.1 dX10_distance_2 rfl (lv_at hl 2 rfl) ?_
  refine fx_cVi (As := [.int 1, .int a2]) (rest := []) S hG (k509_X10_areNone g_a2_ge_3 (by omega) h0) h0 rfl (cwV 2 S.2.2.2.2 gX10_distance_X10_areNone rfl rfl rfl (by decide +kernel) ⟨Nat.le_of_ble_eq_true rfl, Nat.le_of_ble_eq_true rfl⟩) rfl hl.1 rfl (Nat.le_of_ble_eq_true rfl) dX10_distance_3 ⟨Nat.le_of_ble_eq_true rfl, Nat.le_of_ble_eq_true rfl⟩ (fun rv_1 _ H locs hp hG => ?_)
  subst rv_1
  refine lv_if_eq (tgt := 13) S.1 S.2.1 dX10_distance_6 (by decide) (fun c => absurd c (by decide)) (fun _ => ?_)
  refine lv_iconst (v := 0) S.1 S.2.1 dX10_distance_9 (by decide) ?_
  refine lv_goto (tgt := 29) S.1 S.2.1 dX10_distance_10 (by decide) ?_
  exact fx_iret S hr hlocks () hG (rfl) dX10_distance_29
theorem k1255_X7_distance {n : Nat} {a2 : Int32} (g_a2_le_m1 : a2 ≤ (-1)) (hst : l.stackTraces = false) (hn : N0 + 231 ≤ n) (h0 : F N0 = some (.inr (9, [.ref (N0 + 1), .ref (N0 + 2), .ref (N0 + 11), .ref (N0 + 13), .ref (N0 + 63), .ref (N0 + 65), .ref (N0 + 85), .int (-1), .int (-1), .int 32]))) (h1 : F (N0 + 1) = some (.inl (cTr, 3, .inr (.inr (.inr (.inr (va_up (va_up (va_up (fun _ => none) 0 (some (N0 + 143))) 1 (some (N0 + 150))) 2 (some (N0 + 157))))))))) : vx_Met l yX7_distance wsX7_distance ({ frames := 7, cells := 1, slots := 6, locals := 103 }) (va_Pc [.ref N0, .int 2, .int a2] (fP N0 D vwCl (fty cI cC cL cD cII cTr cTm cIt cB) (fen ql) F n)) (fNo N0 D vwCl (fty cI cC cL cD cII cTr cTm cIt cB) F n) (fXC N0 D vwCl (fty cI cC cL cD cII cTr cTm cIt cB) "java/lang/IndexOutOfBoundsException" F n) 1 6 (fA N0) := by
  refine fx_startX 5 rfl rfl (Nat.le_of_ble_eq_true rfl) ?_ rfl
  intro p e s m below meth c ls S htab hlocks hG hl
  have hl : lv_has ls 5 [(0, .ref N0), (1, .int 2), (2, .int a2)] := hl
  have lt_h0 := hG.1.lt h0
  have lt_h1 := hG.1.lt h1
  refine lv_aload_n S.1 S.2.1 dX7_distance_0 rfl (lv_at hl 0 rfl) ?_
  refine lv_iload_n S.1 S.2.1 dX7_distance_1 rfl (lv_at hl 1 rfl) ?_
  refine fx_cVr (As := [.int 2]) (rest := []) S hG (k48_X7_treeAt (by omega) h0 h1) h0 rfl (cwV 1 S.2.2.2.2 gX7_distance_X7_treeAt rfl rfl rfl (by decide +kernel) ⟨Nat.le_of_ble_eq_true rfl, Nat.le_of_ble_eq_true rfl⟩) rfl hl.1 rfl (Nat.le_of_ble_eq_true rfl) dX7_distance_2 ⟨Nat.le_of_ble_eq_true rfl, Nat.le_of_ble_eq_true rfl⟩ (fun rv_1 _ H locs hp hG => ?_)
  subst rv_1
  refine lv_astore_n (lv' := [(3, .ref (N0 + 157)), (0, .ref N0), (1, .int 2), (2, .int a2)]) S.1 S.2.1 dX7_distance_5 rfl hl (by decide) rfl (fun ls hl => ?_)
  refine lv_aload_n S.1 S.2.1 dX7_distance_6 rfl (lv_at hl 1 rfl) ?_
  refine lv_iload_n S.1 S.2.1 dX7_distance_7 rfl (lv_at hl 3 rfl) ?_
  refine fx_xV (As := [.int a2]) (rest := []) S hG (k450_X7_treeAt g_a2_le_m1 hst (by omega)) h0 rfl (cwV 1 S.2.2.2.2 gX7_distance_X7_treeAt rfl rfl rfl (by decide +kernel) ⟨Nat.le_of_ble_eq_true rfl, Nat.le_of_ble_eq_true rfl⟩) rfl hl.1 rfl (Nat.le_of_ble_eq_true rfl) dX7_distance_8 ⟨Nat.le_of_ble_eq_true rfl, Nat.le_of_ble_eq_true rfl⟩ (fun ceq_2 q_2 H locs n_3 hn_3 hG h1q_2 h2q_2 h3q_2 => ?_)
  exact fx_out htab hlocks hG (by omega) h1q_2 h2q_2 h3q_2 (by decide) (by decide)
theorem k1256_L_distance {n : Nat} {a2 : Int32} (g_a2_le_m1 : a2 ≤ (-1)) (hst : l.stackTraces = false) (hn : N0 + 231 ≤ n) (h0 : F N0 = some (.inr (9, [.ref (N0 + 1), .ref (N0 + 2), .ref (N0 + 11), .ref (N0 + 13), .ref (N0 + 63), .ref (N0 + 65), .ref (N0 + 85), .int (-1), .int (-1), .int 32]))) (h1 : F (N0 + 1) = some (.inl (cTr, 3, .inr (.inr (.inr (.inr (va_up (va_up (va_up (fun _ => none) 0 (some (N0 + 143))) 1 (some (N0 + 150))) 2 (some (N0 + 157))))))))) : Met l yL_distance wsL_distance ({ frames := 8, cells := 1, slots := 6, locals := 127 }) (va_Pc [.ref N0, .int 2, .int a2, .ref (N0 + 229)] (fP N0 D vwCl (fty cI cC cL cD cII cTr cTm cIt cB) (fen ql) F n)) (fQi N0 D vwCl (fty cI cC cL cD cII cTr cTm cIt cB) (fun (r : Int32) (u : Nat) => r = 1 ∧ n ≤ u) (fun _ => F) (fun u => u)) 1 6 (fA N0) := by
  refine fx_startW (hh := [(0, 10, 13, 19)]) 5 rfl rfl (Nat.le_of_ble_eq_true rfl) ?_ rfl
  intro p e s m below meth c ls S htab hr hlocks hG hl
  have hl : lv_has ls 5 [(0, .ref N0), (1, .int 2), (2, .int a2), (3, .ref (N0 + 229))] := hl
  have lt_h0 := hG.1.lt h0
  have lt_h1 := hG.1.lt h1
  refine lv_aload_n S.1 S.2.1 dL_distance_0 rfl (lv_at hl 3 rfl) ?_
  refine lv_iconst (v := 0) S.1 S.2.1 dL_distance_1 (by decide) ?_
  refine lv_aload_n S.1 S.2.1 dL_distance_2 rfl (lv_at hl 0 rfl) ?_
  refine lv_iload_n S.1 S.2.1 dL_distance_3 rfl (lv_at hl 1 rfl) ?_
  refine lv_iload_n S.1 S.2.1 dL_distance_4 rfl (lv_at hl 2 rfl) ?_
  refine fx_xV (As := [.int 2, .int a2]) (rest := [.int 0, .ref (N0 + 229)]) S hG (k1255_X7_distance g_a2_le_m1 hst (by omega) h0 h1) h0 rfl (cwV 2 S.2.2.2.2 gL_distance_X7_distance rfl rfl rfl (by decide +kernel) ⟨Nat.le_of_ble_eq_true rfl, Nat.le_of_ble_eq_true rfl⟩) rfl hl.1 rfl (Nat.le_of_ble_eq_true rfl) dL_distance_5 ⟨Nat.le_of_ble_eq_true rfl, Nat.le_of_ble_eq_true rfl⟩ (fun ceq_1 q_1 H locs n_2 hn_2 hG h1q_1 h2q_1 h3q_1 => ?_)
  refine fx_catch (hh := [(0, 10, 13, 19)]) S htab hG h1q_1 h2q_1 h3q_1 [] ⟨0, 10, 13, 19⟩ [] rfl [] (fun z hz => absurd hz List.not_mem_nil) (by decide) (by decide) (by decide +kernel) (List.mem_of_getElem? (i := 2) rfl) ?_
  refine lv_astore (lv' := [(4, .ref q_1), (0, .ref N0), (1, .int 2), (2, .int a2), (3, .ref (N0 + 229))]) S.1 S.2.1 dL_distance_13 hl (by decide) rfl (fun ls hl => ?_)
  refine lv_iconst (v := 1) S.1 S.2.1 dL_distance_15 (by decide) ?_
  exact fx_iret S hr hlocks n_2 hG (⟨rfl, hn_2⟩) dL_distance_16
theorem k1257_X10_distance {n : Nat} {a2 : Int32} (g_a2_le_m1 : a2 ≤ (-1)) (hn : N0 + 231 ≤ n) (h0 : F (N0 + 164) = some (.inr (12, [.ref (N0 + 165), .int 0, .ref (N0 + 181), .int 0, .int 0, .int 0, .int (-1), .ref (ql 24), .ref (N0 + 182), .ref (N0 + 187), .ref (N0 + 208), .ref (N0 + 209), .ref (N0 + 210), .ref (N0 + 211), .ref (N0 + 212), .int 0, .ref (N0 + 213), .ref (N0 + 218), .ref (N0 + 223), .ref (N0 + 224), .ref (N0 + 225), .ref (N0 + 226), .ref (N0 + 227), .int 0, .int 0, .ref (N0 + 228), .null, .int (-1), .int 0, .int 0, .int 0]))) : Met l yX10_distance wsX10_distance ({ frames := 3, cells := 0, slots := 0, locals := 64 }) (va_Pc [.ref (N0 + 164), .int 2, .int a2] (fP N0 D vwCl (fty cI cC cL cD cII cTr cTm cIt cB) (fen ql) F n)) (fQi N0 D vwCl (fty cI cC cL cD cII cTr cTm cIt cB) (fun (r : Int32) (_ : Unit) => r = 0) (fun _ => (fu F (N0 + 164) (.inr (12, [.ref (N0 + 165), .int 1, .ref (N0 + 181), .int 0, .int 0, .int 0, .int (-1), .ref (ql 24), .ref (N0 + 182), .ref (N0 + 187), .ref (N0 + 208), .ref (N0 + 209), .ref (N0 + 210), .ref (N0 + 211), .ref (N0 + 212), .int 0, .ref (N0 + 213), .ref (N0 + 218), .ref (N0 + 223), .ref (N0 + 224), .ref (N0 + 225), .ref (N0 + 226), .ref (N0 + 227), .int 0, .int 0, .ref (N0 + 228), .null, .int (-1), .int 0, .int 0, .int 0])))) (fun _ => n)) 0 0 (fA N0) := by
  refine fx_start 3 rfl rfl (Nat.le_of_ble_eq_true rfl) ?_ rfl
  intro p e s m below meth c ls S hr hlocks hin hG hl
  have hl : lv_has ls 3 [(0, .ref (N0 + 164)), (1, .int 2), (2, .int a2)] := hl
  have lt_h0 := hG.1.lt h0
  refine lv_aload_n S.1 S.2.1 dX10_distance_0 rfl (lv_at hl 0 rfl) ?_
  refine lv_iload_n S.1 S.2.1 dX10_distance_1 rfl (lv_at hl 1 rfl) ?_
  refine lv_iload_n S.1 S.2.1 dX10_distance_2 rfl (lv_at hl 2 rfl) ?_
  refine fx_cVi (As := [.int 2, .int a2]) (rest := []) S hG (k513_X10_areNone g_a2_le_m1 (by omega) h0) h0 rfl (cwV 2 S.2.2.2.2 gX10_distance_X10_areNone rfl rfl rfl (by decide +kernel) ⟨Nat.le_of_ble_eq_true rfl, Nat.le_of_ble_eq_true rfl⟩) rfl hl.1 rfl (Nat.le_of_ble_eq_true rfl) dX10_distance_3 ⟨Nat.le_of_ble_eq_true rfl, Nat.le_of_ble_eq_true rfl⟩ (fun rv_1 _ H locs hp hG => ?_)
  subst rv_1
  refine lv_if_eq (tgt := 13) S.1 S.2.1 dX10_distance_6 (by decide) (fun c => absurd c (by decide)) (fun _ => ?_)
  refine lv_iconst (v := 0) S.1 S.2.1 dX10_distance_9 (by decide) ?_
  refine lv_goto (tgt := 29) S.1 S.2.1 dX10_distance_10 (by decide) ?_
  exact fx_iret S hr hlocks () hG (rfl) dX10_distance_29
theorem k1258_X5_listWidths {n : Nat} (hn : N0 + 231 ≤ n) (h0 : F (N0 + 157) = some (.inr (7, [.ref (N0 + 158), .ref (N0 + 159), .ref (N0 + 160), .ref (N0 + 161), .ref (N0 + 162), .ref (N0 + 163), .int 1]))) (h1 : F (N0 + 57) = some (.inl (cI, 20, .inl (fun _ => 0)))) : Met l yX5_listWidths wsX5_listWidths ({ frames := 1, cells := 0, slots := 0, locals := 22 }) (va_Pc [.ref (N0 + 157), .ref (N0 + 57)] (fP N0 D vwCl (fty cI cC cL cD cII cTr cTm cIt cB) (fen ql) F n)) (fQv N0 D vwCl (fty cI cC cL cD cII cTr cTm cIt cB) (fun (_ : Unit) => True) (fun _ => (fu F (N0 + 57) (.inl (cI, 20, .inl (upd (fun _ => 0) 0 1))))) (fun _ => n)) 0 0 (fA N0) := by
  refine fx_start 3 rfl rfl (Nat.le_of_ble_eq_true rfl) ?_ rfl
  intro p e s m below meth c ls S hr hlocks hin hG hl
  have hl : lv_has ls 3 [(0, .ref (N0 + 157)), (1, .ref (N0 + 57))] := hl
  have lt_h0 := hG.1.lt h0
  have lt_h1 := hG.1.lt h1
  refine lv_iconst (v := 0) S.1 S.2.1 dX5_listWidths_0 (by decide) ?_
  refine lv_istore_n (lv' := [(2, .int 0), (0, .ref (N0 + 157)), (1, .ref (N0 + 57))]) S.1 S.2.1 dX5_listWidths_1 rfl hl (by decide) rfl (fun ls hl => ?_)
  refine lv_iload_n S.1 S.2.1 dX5_listWidths_2 rfl (lv_at hl 0 rfl) ?_
  refine lv_aload_n S.1 S.2.1 dX5_listWidths_3 rfl (lv_at hl 1 rfl) ?_
  refine gx_get (C := RX5) (T := TX5) (N := 7) S hG h0 i_X5_listWidths_X5 rfl 6 (by decide) (by decide +kernel) rfl dX5_listWidths_4 ?_
  refine lv_icmp_ge (tgt := 30) S.1 S.2.1 dX5_listWidths_7 (by decide) (fun c => absurd c (by decide)) (fun _ => ?_)
  refine lv_iload_n S.1 S.2.1 dX5_listWidths_10 rfl (lv_at hl 0 rfl) ?_
  refine lv_aload_n S.1 S.2.1 dX5_listWidths_11 rfl (lv_at hl 2 rfl) ?_
  refine gx_alen (v := 20) S hG 0 h1 rfl (rfl) dX5_listWidths_12 ?_
  refine lv_icmp_ge (tgt := 30) S.1 S.2.1 dX5_listWidths_13 (by decide) (fun c => absurd c (by decide)) (fun _ => ?_)
  refine lv_aload_n S.1 S.2.1 dX5_listWidths_16 rfl (lv_at hl 2 rfl) ?_
  refine lv_iload_n S.1 S.2.1 dX5_listWidths_17 rfl (lv_at hl 0 rfl) ?_
  refine lv_aload_n S.1 S.2.1 dX5_listWidths_18 rfl (lv_at hl 1 rfl) ?_
  refine lv_iload_n S.1 S.2.1 dX5_listWidths_19 rfl (lv_at hl 0 rfl) ?_
  refine fx_cVi (As := [.int 0]) (rest := [.int 0, .ref (N0 + 57)]) S hG (k201_X5_widthOf (by omega) h0) h0 rfl (cwV 1 S.2.2.2.2 gX5_listWidths_X5_widthOf rfl rfl rfl (by decide +kernel) ⟨Nat.le_of_ble_eq_true rfl, Nat.le_of_ble_eq_true rfl⟩) rfl hl.1 rfl (Nat.le_of_ble_eq_true rfl) dX5_listWidths_20 ⟨Nat.le_of_ble_eq_true rfl, Nat.le_of_ble_eq_true rfl⟩ (fun rv_1 _ H locs hp hG => ?_)
  subst rv_1
  refine gx_iast (f' := upd (fun _ => 0) 0 1) S hG 0 h1 rfl (fin_l (by decide)) dX5_listWidths_23 (rfl) (fun H locs hG => ?_)
  refine lv_iinc (v := 1) (lv' := [(2, .int 1), (0, .ref (N0 + 157)), (1, .ref (N0 + 57))]) S.1 S.2.1 dX5_listWidths_24 hl (k := 0) rfl (by decide) (by decide) rfl (fun ls hl => ?_)
  refine lv_goto (tgt := 2) S.1 S.2.1 dX5_listWidths_27 (by decide) ?_
  refine lv_iload_n S.1 S.2.1 dX5_listWidths_2 rfl (lv_at hl 0 rfl) ?_
  refine lv_aload_n S.1 S.2.1 dX5_listWidths_3 rfl (lv_at hl 1 rfl) ?_
  refine gx_get (C := RX5) (T := TX5) (N := 7) S hG (fu_at (by omega) h0) i_X5_listWidths_X5 rfl 6 (by decide) (by decide +kernel) rfl dX5_listWidths_4 ?_
  refine lv_icmp_ge (tgt := 30) S.1 S.2.1 dX5_listWidths_7 (by decide) (fun _ => ?_) (fun c => absurd (by decide) c)
  exact fx_vret S hr hlocks () hG trivial dX5_listWidths_30
theorem k1259_X5_listChildren {n : Nat} (hn : N0 + 231 ≤ n) (h0 : F (N0 + 157) = some (.inr (7, [.ref (N0 + 158), .ref (N0 + 159), .ref (N0 + 160), .ref (N0 + 161), .ref (N0 + 162), .ref (N0 + 163), .int 1]))) : Met l yX5_listChildren wsX5_listChildren ({ frames := 0, cells := 0, slots := 0, locals := 0 }) (va_Pc [.ref (N0 + 157), .int 0, .ref (N0 + 59)] (fP N0 D vwCl (fty cI cC cL cD cII cTr cTm cIt cB) (fen ql) F n)) (fQi N0 D vwCl (fty cI cC cL cD cII cTr cTm cIt cB) (fun (r : Int32) (_ : Unit) => r = 0) (fun _ => F) (fun _ => n)) 0 0 (fA N0) := by
  refine fx_start 5 rfl rfl (Nat.le_of_ble_eq_true rfl) ?_ rfl
  intro p e s m below meth c ls S hr hlocks hin hG hl
  have hl : lv_has ls 5 [(0, .ref (N0 + 157)), (1, .int 0), (2, .ref (N0 + 59))] := hl
  have lt_h0 := hG.1.lt h0
  refine lv_iconst (v := 0) S.1 S.2.1 dX5_listChildren_0 (by decide) ?_
  refine lv_istore_n (lv' := [(3, .int 0), (0, .ref (N0 + 157)), (1, .int 0), (2, .ref (N0 + 59))]) S.1 S.2.1 dX5_listChildren_1 rfl hl (by decide) rfl (fun ls hl => ?_)
  refine lv_iload_n S.1 S.2.1 dX5_listChildren_2 rfl (lv_at hl 2 rfl) ?_
  refine lv_iconst (v := 1) S.1 S.2.1 dX5_listChildren_3 (by decide) ?_
  refine lv_iadd S.1 S.2.1 dX5_listChildren_4 ?_
  refine fx_topi (y := 1) (by decide) ?_
  refine lv_istore (lv' := [(4, .int 1), (3, .int 0), (0, .ref (N0 + 157)), (1, .int 0), (2, .ref (N0 + 59))]) S.1 S.2.1 dX5_listChildren_5 hl (by decide) rfl (fun ls hl => ?_)
  refine lv_iload S.1 S.2.1 dX5_listChildren_7 (lv_at hl 0 rfl) ?_
  refine lv_aload_n S.1 S.2.1 dX5_listChildren_9 rfl (lv_at hl 2 rfl) ?_
  refine gx_get (C := RX5) (T := TX5) (N := 7) S hG h0 i_X5_listChildren_X5 rfl 6 (by decide) (by decide +kernel) rfl dX5_listChildren_10 ?_
  refine lv_icmp_ge (tgt := 47) S.1 S.2.1 dX5_listChildren_13 (by decide) (fun _ => ?_) (fun c => absurd (by decide) c)
  refine lv_iload_n S.1 S.2.1 dX5_listChildren_47 rfl (lv_at hl 1 rfl) ?_
  exact fx_iret S hr hlocks () hG (rfl) dX5_listChildren_48
theorem k1260_X1_restCost {n : Nat} (hn : N0 + 231 ≤ n) (h0 : F (N0 + 13) = some (.inr (3, [.ref (N0 + 14), .ref (N0 + 35), .ref (N0 + 57), .ref (N0 + 58), .ref (N0 + 59), .ref (N0 + 60), .int 0, .int 0, .ref (N0 + 61), .ref (N0 + 62)]))) : Met l yX1_restCost wsX1_restCost ({ frames := 0, cells := 0, slots := 0, locals := 0 }) (va_Pc [.ref (N0 + 13), .ref (N0 + 157), .ref (N0 + 143), .int 0, .int 0] (fP N0 D vwCl (fty cI cC cL cD cII cTr cTm cIt cB) (fen ql) F n)) (fQi N0 D vwCl (fty cI cC cL cD cII cTr cTm cIt cB) (fun (r : Int32) (_ : Unit) => r = 0) (fun _ => F) (fun _ => n)) 0 0 (fA N0) := by
  refine fx_start 6 rfl rfl (Nat.le_of_ble_eq_true rfl) ?_ rfl
  intro p e s m below meth c ls S hr hlocks hin hG hl
  have hl : lv_has ls 6 [(0, .ref (N0 + 13)), (1, .ref (N0 + 157)), (2, .ref (N0 + 143)), (3, .int 0), (4, .int 0)] := hl
  have lt_h0 := hG.1.lt h0
  refine lv_iload_n S.1 S.2.1 dX1_restCost_0 rfl (lv_at hl 3 rfl) ?_
  refine lv_aload_n S.1 S.2.1 dX1_restCost_1 rfl (lv_at hl 0 rfl) ?_
  refine gx_get (C := RX1) (T := TX1) (N := 10) S hG h0 i_X1_restCost_X1 rfl 6 (by decide) (by decide +kernel) rfl dX1_restCost_2 ?_
  refine lv_icmp_ne (tgt := 29) S.1 S.2.1 dX1_restCost_5 (by decide) (fun c => absurd (by decide) c) (fun _ => ?_)
  refine lv_iload S.1 S.2.1 dX1_restCost_8 (lv_at hl 4 rfl) ?_
  refine lv_aload_n S.1 S.2.1 dX1_restCost_10 rfl (lv_at hl 0 rfl) ?_
  refine gx_get (C := RX1) (T := TX1) (N := 10) S hG h0 i_X1_restCost_X1 rfl 7 (by decide) (by decide +kernel) rfl dX1_restCost_11 ?_
  refine lv_icmp_ne (tgt := 21) S.1 S.2.1 dX1_restCost_14 (by decide) (fun c => absurd (by decide) c) (fun _ => ?_)
  refine lv_iconst (v := 0) S.1 S.2.1 dX1_restCost_17 (by decide) ?_
  refine lv_goto (tgt := 28) S.1 S.2.1 dX1_restCost_18 (by decide) ?_
  exact fx_iret S hr hlocks () hG (rfl) dX1_restCost_28
theorem k1261_X1_fillRestCosts {n : Nat} (hn : N0 + 231 ≤ n) (h0 : F (N0 + 13) = some (.inr (3, [.ref (N0 + 14), .ref (N0 + 35), .ref (N0 + 57), .ref (N0 + 58), .ref (N0 + 59), .ref (N0 + 60), .int 0, .int 0, .ref (N0 + 61), .ref (N0 + 62)]))) (h1 : F (N0 + 35) = some (.inl (cII, 21, .inr (.inr (.inr (.inr (fun j => if j < 21 then some ((N0 + 36) + j) else none))))))) (h2 : F (N0 + 36) = some (.inl (cI, 21, .inl (fun _ => 0)))) : Met l yX1_fillRestCosts wsX1_fillRestCosts ({ frames := 1, cells := 0, slots := 0, locals := 25 }) (va_Pc [.ref (N0 + 13), .ref (N0 + 157), .ref (N0 + 143)] (fP N0 D vwCl (fty cI cC cL cD cII cTr cTm cIt cB) (fen ql) F n)) (fQv N0 D vwCl (fty cI cC cL cD cII cTr cTm cIt cB) (fun (_ : Unit) => True) (fun _ => (fu F (N0 + 36) (.inl (cI, 21, .inl (upd (fun _ => 0) 0 0))))) (fun _ => n)) 0 0 (fA N0) := by
  refine fx_start 5 rfl rfl (Nat.le_of_ble_eq_true rfl) ?_ rfl
  intro p e s m below meth c ls S hr hlocks hin hG hl
  have hl : lv_has ls 5 [(0, .ref (N0 + 13)), (1, .ref (N0 + 157)), (2, .ref (N0 + 143))] := hl
  have lt_h0 := hG.1.lt h0
  have lt_h1 := hG.1.lt h1
  have lt_h2 := hG.1.lt h2
  refine lv_aload_n S.1 S.2.1 dX1_fillRestCosts_0 rfl (lv_at hl 0 rfl) ?_
  refine gx_get (C := RX1) (T := TX1) (N := 10) S hG h0 i_X1_fillRestCosts_X1 rfl 6 (by decide) (by decide +kernel) rfl dX1_fillRestCosts_1 ?_
  refine lv_istore_n (lv' := [(3, .int 0), (0, .ref (N0 + 13)), (1, .ref (N0 + 157)), (2, .ref (N0 + 143))]) S.1 S.2.1 dX1_fillRestCosts_4 rfl hl (by decide) rfl (fun ls hl => ?_)
  refine lv_iload_n S.1 S.2.1 dX1_fillRestCosts_5 rfl (lv_at hl 0 rfl) ?_
  refine lv_if_lt (tgt := 50) S.1 S.2.1 dX1_fillRestCosts_6 (by decide) (fun c => absurd c (by decide)) (fun _ => ?_)
  refine lv_aload_n S.1 S.2.1 dX1_fillRestCosts_9 rfl (lv_at hl 1 rfl) ?_
  refine gx_get (C := RX1) (T := TX1) (N := 10) S hG h0 i_X1_fillRestCosts_X1 rfl 7 (by decide) (by decide +kernel) rfl dX1_fillRestCosts_10 ?_
  refine lv_istore (lv' := [(4, .int 0), (3, .int 0), (0, .ref (N0 + 13)), (1, .ref (N0 + 157)), (2, .ref (N0 + 143))]) S.1 S.2.1 dX1_fillRestCosts_13 hl (by decide) rfl (fun ls hl => ?_)
  refine lv_iload S.1 S.2.1 dX1_fillRestCosts_15 (lv_at hl 0 rfl) ?_
  refine lv_if_lt (tgt := 44) S.1 S.2.1 dX1_fillRestCosts_17 (by decide) (fun c => absurd c (by decide)) (fun _ => ?_)
  refine lv_aload_n S.1 S.2.1 dX1_fillRestCosts_20 rfl (lv_at hl 2 rfl) ?_
  refine gx_get (C := RX1) (T := TX1) (N := 10) S hG h0 i_X1_fillRestCosts_X1 rfl 1 (by decide) (by decide +kernel) rfl dX1_fillRestCosts_21 ?_
  refine lv_iload_n S.1 S.2.1 dX1_fillRestCosts_24 rfl (lv_at hl 1 rfl) ?_
  refine gx_aldq (x := (N0 + 36)) S hG 4 rfl h1 rfl (fin_l (by decide)) (rfl) dX1_fillRestCosts_25 ?_
  refine lv_iload S.1 S.2.1 dX1_fillRestCosts_26 (lv_at hl 0 rfl) ?_
  refine lv_aload_n S.1 S.2.1 dX1_fillRestCosts_28 rfl (lv_at hl 2 rfl) ?_
  refine lv_aload_n S.1 S.2.1 dX1_fillRestCosts_29 rfl (lv_at hl 3 rfl) ?_
  refine lv_aload_n S.1 S.2.1 dX1_fillRestCosts_30 rfl (lv_at hl 4 rfl) ?_
  refine lv_iload_n S.1 S.2.1 dX1_fillRestCosts_31 rfl (lv_at hl 1 rfl) ?_
  refine lv_iload S.1 S.2.1 dX1_fillRestCosts_32 (lv_at hl 0 rfl) ?_
  refine fx_cVi (As := [.ref (N0 + 157), .ref (N0 + 143), .int 0, .int 0]) (rest := [.int 0, .ref (N0 + 36)]) S hG (k1260_X1_restCost (by omega) h0) h0 rfl (cwV 4 S.2.2.2.2 gX1_fillRestCosts_X1_restCost rfl rfl rfl (by decide +kernel) ⟨Nat.le_of_ble_eq_true rfl, Nat.le_of_ble_eq_true rfl⟩) rfl hl.1 rfl (Nat.le_of_ble_eq_true rfl) dX1_fillRestCosts_34 ⟨Nat.le_of_ble_eq_true rfl, Nat.le_of_ble_eq_true rfl⟩ (fun rv_1 _ H locs hp hG => ?_)
  subst rv_1
  refine gx_iast (f' := upd (fun _ => 0) 0 0) S hG 0 h2 rfl (fin_l (by decide)) dX1_fillRestCosts_37 (rfl) (fun H locs hG => ?_)
  refine lv_iinc (v := (-1)) (lv' := [(4, .int (-1)), (3, .int 0), (0, .ref (N0 + 13)), (1, .ref (N0 + 157)), (2, .ref (N0 + 143))]) S.1 S.2.1 dX1_fillRestCosts_38 hl (k := 0) rfl (by decide) (by decide) rfl (fun ls hl => ?_)
  refine lv_goto (tgt := 15) S.1 S.2.1 dX1_fillRestCosts_41 (by decide) ?_
  refine lv_iload S.1 S.2.1 dX1_fillRestCosts_15 (lv_at hl 0 rfl) ?_
  refine lv_if_lt (tgt := 44) S.1 S.2.1 dX1_fillRestCosts_17 (by decide) (fun _ => ?_) (fun c => absurd (by decide) c)
  refine lv_iinc (v := (-1)) (lv' := [(3, .int (-1)), (4, .int (-1)), (0, .ref (N0 + 13)), (1, .ref (N0 + 157)), (2, .ref (N0 + 143))]) S.1 S.2.1 dX1_fillRestCosts_44 hl (k := 1) rfl (by decide) (by decide) rfl (fun ls hl => ?_)
  refine lv_goto (tgt := 5) S.1 S.2.1 dX1_fillRestCosts_47 (by decide) ?_
  refine lv_iload_n S.1 S.2.1 dX1_fillRestCosts_5 rfl (lv_at hl 0 rfl) ?_
  refine lv_if_lt (tgt := 50) S.1 S.2.1 dX1_fillRestCosts_6 (by decide) (fun _ => ?_) (fun c => absurd (by decide) c)
  exact fx_vret S hr hlocks () hG trivial dX1_fillRestCosts_50
theorem k1262_X7_changeCost {n : Nat} (hn : N0 + 231 ≤ n) (h0 : F (N0 + 157) = some (.inr (7, [.ref (N0 + 158), .ref (N0 + 159), .ref (N0 + 160), .ref (N0 + 161), .ref (N0 + 162), .ref (N0 + 163), .int 1]))) (h1 : F (N0 + 158) = some (.inl (cC, 20, .inl (upd (fun _ => 0) 0 97)))) (h2 : F (N0 + 143) = some (.inr (7, [.ref (N0 + 144), .ref (N0 + 145), .ref (N0 + 146), .ref (N0 + 147), .ref (N0 + 148), .ref (N0 + 149), .int 1]))) (h3 : F (N0 + 144) = some (.inl (cC, 20, .inl (upd (fun _ => 0) 0 97)))) (h4 : F (N0 + 160) = some (.inl (cI, 20, .inl (fun _ => 0)))) (h5 : F (N0 + 146) = some (.inl (cI, 20, .inl (fun _ => 0)))) : Met l yX7_changeCost wsX7_changeCost ({ frames := 0, cells := 0, slots := 0, locals := 0 }) (va_Pc [.ref (N0 + 157), .int 0, .ref (N0 + 143), .int 0] (fP N0 D vwCl (fty cI cC cL cD cII cTr cTm cIt cB) (fen ql) F n)) (fQi N0 D vwCl (fty cI cC cL cD cII cTr cTm cIt cB) (fun (r : Int32) (_ : Unit) => r = 0) (fun _ => F) (fun _ => n)) 0 0 (fA N0) := by
  refine fx_start 5 rfl rfl (Nat.le_of_ble_eq_true rfl) ?_ rfl
  intro p e s m below meth c ls S hr hlocks hin hG hl
  have hl : lv_has ls 5 [(0, .ref (N0 + 157)), (1, .int 0), (2, .ref (N0 + 143)), (3, .int 0)] := hl
  have lt_h0 := hG.1.lt h0
  have lt_h1 := hG.1.lt h1
  have lt_h2 := hG.1.lt h2
  have lt_h3 := hG.1.lt h3
  have lt_h4 := hG.1.lt h4
  have lt_h5 := hG.1.lt h5
  refine lv_iconst (v := 0) S.1 S.2.1 dX7_changeCost_0 (by decide) ?_
  refine lv_istore (lv' := [(4, .int 0), (0, .ref (N0 + 157)), (1, .int 0), (2, .ref (N0 + 143)), (3, .int 0)]) S.1 S.2.1 dX7_changeCost_1 hl (by decide) rfl (fun ls hl => ?_)
  refine lv_aload_n S.1 S.2.1 dX7_changeCost_3 rfl (lv_at hl 1 rfl) ?_
  refine gx_get (C := RX5) (T := TX5) (N := 7) S hG h0 i_X7_changeCost_X5 rfl 0 (by decide) (by decide +kernel) rfl dX7_changeCost_4 ?_
  refine lv_iload_n S.1 S.2.1 dX7_changeCost_7 rfl (lv_at hl 2 rfl) ?_
  refine gx_cald (v := 97) S hG 1 h1 rfl (fin_l (by decide)) (by decide) dX7_changeCost_8 ?_
  refine lv_aload_n S.1 S.2.1 dX7_changeCost_9 rfl (lv_at hl 3 rfl) ?_
  refine gx_get (C := RX5) (T := TX5) (N := 7) S hG h2 i_X7_changeCost_X5 rfl 0 (by decide) (by decide +kernel) rfl dX7_changeCost_10 ?_
  refine lv_iload_n S.1 S.2.1 dX7_changeCost_13 rfl (lv_at hl 4 rfl) ?_
  refine gx_cald (v := 97) S hG 1 h3 rfl (fin_l (by decide)) (by decide) dX7_changeCost_14 ?_
  refine lv_icmp_eq (tgt := 21) S.1 S.2.1 dX7_changeCost_15 (by decide) (fun _ => ?_) (fun c => absurd (by decide) c)
  refine lv_aload_n S.1 S.2.1 dX7_changeCost_21 rfl (lv_at hl 1 rfl) ?_
  refine gx_get (C := RX5) (T := TX5) (N := 7) S hG h0 i_X7_changeCost_X5 rfl 2 (by decide) (by decide +kernel) rfl dX7_changeCost_22 ?_
  refine lv_iload_n S.1 S.2.1 dX7_changeCost_25 rfl (lv_at hl 2 rfl) ?_
  refine gx_iald (v := 0) S hG 0 h4 rfl (fin_l (by decide)) (by decide) dX7_changeCost_26 ?_
  refine lv_aload_n S.1 S.2.1 dX7_changeCost_27 rfl (lv_at hl 3 rfl) ?_
  refine gx_get (C := RX5) (T := TX5) (N := 7) S hG h2 i_X7_changeCost_X5 rfl 2 (by decide) (by decide +kernel) rfl dX7_changeCost_28 ?_
  refine lv_iload_n S.1 S.2.1 dX7_changeCost_31 rfl (lv_at hl 4 rfl) ?_
  refine gx_iald (v := 0) S hG 0 h5 rfl (fin_l (by decide)) (by decide) dX7_changeCost_32 ?_
  refine lv_icmp_eq (tgt := 39) S.1 S.2.1 dX7_changeCost_33 (by decide) (fun _ => ?_) (fun c => absurd (by decide) c)
  refine lv_iload S.1 S.2.1 dX7_changeCost_39 (lv_at hl 0 rfl) ?_
  exact fx_iret S hr hlocks () hG (rfl) dX7_changeCost_41
set_option maxHeartbeats 16000000 in
theorem k1263_X1_leastCost {n : Nat} (hn : N0 + 231 ≤ n) (h0 : F (N0 + 13) = some (.inr (3, [.ref (N0 + 14), .ref (N0 + 35), .ref (N0 + 57), .ref (N0 + 58), .ref (N0 + 59), .ref (N0 + 60), .int 0, .int 0, .ref (N0 + 61), .ref (N0 + 62)]))) (h1 : F (N0 + 157) = some (.inr (7, [.ref (N0 + 158), .ref (N0 + 159), .ref (N0 + 160), .ref (N0 + 161), .ref (N0 + 162), .ref (N0 + 163), .int 1]))) (h2 : F (N0 + 57) = some (.inl (cI, 20, .inl (fun _ => 0)))) (h3 : F (N0 + 143) = some (.inr (7, [.ref (N0 + 144), .ref (N0 + 145), .ref (N0 + 146), .ref (N0 + 147), .ref (N0 + 148), .ref (N0 + 149), .int 1]))) (h4 : F (N0 + 58) = some (.inl (cI, 20, .inl (fun _ => 0)))) (h5 : F (N0 + 35) = some (.inl (cII, 21, .inr (.inr (.inr (.inr (fun j => if j < 21 then some ((N0 + 36) + j) else none))))))) (h6 : F (N0 + 36) = some (.inl (cI, 21, .inl (fun _ => 0)))) (h7 : F (N0 + 14) = some (.inl (cII, 20, .inr (.inr (.inr (.inr (fun j => if j < 20 then some ((N0 + 15) + j) else none))))))) (h8 : F (N0 + 158) = some (.inl (cC, 20, .inl (upd (fun _ => 0) 0 97)))) (h9 : F (N0 + 144) = some (.inl (cC, 20, .inl (upd (fun _ => 0) 0 97)))) (h10 : F (N0 + 160) = some (.inl (cI, 20, .inl (fun _ => 0)))) (h11 : F (N0 + 146) = some (.inl (cI, 20, .inl (fun _ => 0)))) (h12 : F (N0 + 15) = some (.inl (cI, 20, .inl (fun _ => 0)))) : Met l yX1_leastCost wsX1_leastCost ({ frames := 2, cells := 0, slots := 0, locals := 49 }) (va_Pc [.ref (N0 + 13), .ref (N0 + 157), .ref (N0 + 143)] (fP N0 D vwCl (fty cI cC cL cD cII cTr cTm cIt cB) (fen ql) F n)) (fQi N0 D vwCl (fty cI cC cL cD cII cTr cTm cIt cB) (fun (r : Int32) (_ : Unit) => r = 0) (fun _ => (fu (fu (fu (fu (fu F (N0 + 57) (.inl (cI, 20, .inl (upd (fun _ => 0) 0 1)))) (N0 + 58) (.inl (cI, 20, .inl (upd (fun _ => 0) 0 1)))) (N0 + 13) (.inr (3, [.ref (N0 + 14), .ref (N0 + 35), .ref (N0 + 57), .ref (N0 + 58), .ref (N0 + 59), .ref (N0 + 60), .int 0, .int 0, .ref (N0 + 61), .ref (N0 + 62)]))) (N0 + 36) (.inl (cI, 21, .inl (upd (fun _ => 0) 0 0)))) (N0 + 15) (.inl (cI, 20, .inl (upd (fun _ => 0) 0 0))))) (fun _ => n)) 0 0 (fA N0) := by
  refine fx_start 5 rfl rfl (Nat.le_of_ble_eq_true rfl) ?_ rfl
  intro p e s m below meth c ls S hr hlocks hin hG hl
  have hl : lv_has ls 5 [(0, .ref (N0 + 13)), (1, .ref (N0 + 157)), (2, .ref (N0 + 143))] := hl
  have lt_h0 := hG.1.lt h0
  have lt_h1 := hG.1.lt h1
  have lt_h2 := hG.1.lt h2
  have lt_h3 := hG.1.lt h3
  have lt_h4 := hG.1.lt h4
  have lt_h5 := hG.1.lt h5
  have lt_h6 := hG.1.lt h6
  have lt_h7 := hG.1.lt h7
  have lt_h8 := hG.1.lt h8
  have lt_h9 := hG.1.lt h9
  have lt_h10 := hG.1.lt h10
  have lt_h11 := hG.1.lt h11
  have lt_h12 := hG.1.lt h12
  refine lv_aload_n S.1 S.2.1 dX1_leastCost_0 rfl (lv_at hl 1 rfl) ?_
  refine lv_aload_n S.1 S.2.1 dX1_leastCost_1 rfl (lv_at hl 0 rfl) ?_
  refine gx_get (C := RX1) (T := TX1) (N := 10) S hG h0 i_X1_leastCost_X1 rfl 2 (by decide) (by decide +kernel) rfl dX1_leastCost_2 ?_
  refine fx_cVv (As := [.ref (N0 + 57)]) (rest := []) S hG (k1258_X5_listWidths (by omega) h1 h2) h1 rfl (cwV 1 S.2.2.2.2 gX1_leastCost_X5_listWidths rfl rfl rfl (by decide +kernel) ⟨Nat.le_of_ble_eq_true rfl, Nat.le_of_ble_eq_true rfl⟩) rfl hl.1 rfl (Nat.le_of_ble_eq_true rfl) dX1_leastCost_5 ⟨Nat.le_of_ble_eq_true rfl, Nat.le_of_ble_eq_true rfl⟩ (fun _ H locs hp hG => ?_)
  refine lv_aload_n S.1 S.2.1 dX1_leastCost_8 rfl (lv_at hl 2 rfl) ?_
  refine lv_aload_n S.1 S.2.1 dX1_leastCost_9 rfl (lv_at hl 0 rfl) ?_
  refine gx_get (C := RX1) (T := TX1) (N := 10) S hG (fu_at (by omega) h0) i_X1_leastCost_X1 rfl 3 (by decide) (by decide +kernel) rfl dX1_leastCost_10 ?_
  refine fx_cVv (As := [.ref (N0 + 58)]) (rest := []) S hG (k1183_X5_listWidths (by omega) (fu_at (by omega) h3) (fu_at (by omega) h4)) (fu_at (by omega) h3) rfl (cwV 1 S.2.2.2.2 gX1_leastCost_X5_listWidths rfl rfl rfl (by decide +kernel) ⟨Nat.le_of_ble_eq_true rfl, Nat.le_of_ble_eq_true rfl⟩) rfl hl.1 rfl (Nat.le_of_ble_eq_true rfl) dX1_leastCost_13 ⟨Nat.le_of_ble_eq_true rfl, Nat.le_of_ble_eq_true rfl⟩ (fun _ H locs hp hG => ?_)
  refine lv_aload_n S.1 S.2.1 dX1_leastCost_16 rfl (lv_at hl 1 rfl) ?_
  refine gx_get (C := RX5) (T := TX5) (N := 7) S hG (fu_at (by omega) (fu_at (by omega) h1)) i_X1_leastCost_X5 rfl 6 (by decide) (by decide +kernel) rfl dX1_leastCost_17 ?_
  refine lv_iconst (v := 1) S.1 S.2.1 dX1_leastCost_20 (by decide) ?_
  refine lv_isub S.1 S.2.1 dX1_leastCost_21 ?_
  refine fx_topi (y := 0) (by decide) ?_
  refine lv_istore_n (lv' := [(3, .int 0), (0, .ref (N0 + 13)), (1, .ref (N0 + 157)), (2, .ref (N0 + 143))]) S.1 S.2.1 dX1_leastCost_22 rfl hl (by decide) rfl (fun ls hl => ?_)
  refine lv_iload_n S.1 S.2.1 dX1_leastCost_23 rfl (lv_at hl 0 rfl) ?_
  refine lv_if_lt (tgt := 111) S.1 S.2.1 dX1_leastCost_24 (by decide) (fun c => absurd c (by decide)) (fun _ => ?_)
  refine lv_aload_n S.1 S.2.1 dX1_leastCost_27 rfl (lv_at hl 1 rfl) ?_
  refine lv_aload_n S.1 S.2.1 dX1_leastCost_28 rfl (lv_at hl 2 rfl) ?_
  refine lv_iload_n S.1 S.2.1 dX1_leastCost_29 rfl (lv_at hl 0 rfl) ?_
  refine lv_aload_n S.1 S.2.1 dX1_leastCost_30 rfl (lv_at hl 1 rfl) ?_
  refine gx_get (C := RX1) (T := TX1) (N := 10) S hG (fu_at (by omega) (fu_at (by omega) h0)) i_X1_leastCost_X1 rfl 4 (by decide) (by decide +kernel) rfl dX1_leastCost_31 ?_
  refine fx_cVi (As := [.int 0, .ref (N0 + 59)]) (rest := [.ref (N0 + 13)]) S hG (k1259_X5_listChildren (by omega) (fu_at (by omega) (fu_at (by omega) h1))) (fu_at (by omega) (fu_at (by omega) h1)) rfl (cwV 2 S.2.2.2.2 gX1_leastCost_X5_listChildren rfl rfl rfl (by decide +kernel) ⟨Nat.le_of_ble_eq_true rfl, Nat.le_of_ble_eq_true rfl⟩) rfl hl.1 rfl (Nat.le_of_ble_eq_true rfl) dX1_leastCost_34 ⟨Nat.le_of_ble_eq_true rfl, Nat.le_of_ble_eq_true rfl⟩ (fun rv_3 _ H locs hp hG => ?_)
  subst rv_3
  refine gx_put (C := RX1) (T := TX1) (N := 10) (ty := .int) (v := .int 0) (fs' := [.ref (N0 + 14), .ref (N0 + 35), .ref (N0 + 57), .ref (N0 + 58), .ref (N0 + 59), .ref (N0 + 60), .int 0, .int 0, .ref (N0 + 61), .ref (N0 + 62)]) S hG (fu_at (by omega) (fu_at (by omega) h0)) i_X1_leastCost_X1 rfl 6 (by decide) tyX1 tyX1_ok nmX1 (by decide +kernel) rfl (by decide +kernel) rfl rfl (Nat.le_of_ble_eq_true rfl) rfl dX1_leastCost_37 (fun H locs hG => ?_)
  refine lv_aload_n S.1 S.2.1 dX1_leastCost_40 rfl (lv_at hl 3 rfl) ?_
  refine gx_get (C := RX5) (T := TX5) (N := 7) S hG (fu_at (by omega) (fu_at (by omega) (fu_at (by omega) h3))) i_X1_leastCost_X5 rfl 6 (by decide) (by decide +kernel) rfl dX1_leastCost_41 ?_
  refine lv_iconst (v := 1) S.1 S.2.1 dX1_leastCost_44 (by decide) ?_
  refine lv_isub S.1 S.2.1 dX1_leastCost_45 ?_
  refine fx_topi (y := 0) (by decide) ?_
  refine lv_istore (lv' := [(4, .int 0), (3, .int 0), (0, .ref (N0 + 13)), (1, .ref (N0 + 157)), (2, .ref (N0 + 143))]) S.1 S.2.1 dX1_leastCost_46 hl (by decide) rfl (fun ls hl => ?_)
  refine lv_iload S.1 S.2.1 dX1_leastCost_48 (lv_at hl 0 rfl) ?_
  refine lv_if_lt (tgt := 105) S.1 S.2.1 dX1_leastCost_50 (by decide) (fun c => absurd c (by decide)) (fun _ => ?_)
  refine lv_aload_n S.1 S.2.1 dX1_leastCost_53 rfl (lv_at hl 2 rfl) ?_
  refine lv_aload_n S.1 S.2.1 dX1_leastCost_54 rfl (lv_at hl 4 rfl) ?_
  refine lv_iload S.1 S.2.1 dX1_leastCost_55 (lv_at hl 0 rfl) ?_
  refine lv_aload_n S.1 S.2.1 dX1_leastCost_57 rfl (lv_at hl 2 rfl) ?_
  refine gx_get (C := RX1) (T := TX1) (N := 10) S hG fu_s i_X1_leastCost_X1 rfl 5 (by decide) (by decide +kernel) rfl dX1_leastCost_58 ?_
  refine fx_cVi (As := [.int 0, .ref (N0 + 60)]) (rest := [.ref (N0 + 13)]) S hG (k1185_X5_listChildren (by omega) (fu_at (by omega) (fu_at (by omega) (fu_at (by omega) h3)))) (fu_at (by omega) (fu_at (by omega) (fu_at (by omega) h3))) rfl (cwV 2 S.2.2.2.2 gX1_leastCost_X5_listChildren rfl rfl rfl (by decide +kernel) ⟨Nat.le_of_ble_eq_true rfl, Nat.le_of_ble_eq_true rfl⟩) rfl hl.1 rfl (Nat.le_of_ble_eq_true rfl) dX1_leastCost_61 ⟨Nat.le_of_ble_eq_true rfl, Nat.le_of_ble_eq_true rfl⟩ (fun rv_4 _ H locs hp hG => ?_)
  subst rv_4
  refine gx_put (C := RX1) (T := TX1) (N := 10) (ty := .int) (v := .int 0) (fs' := [.ref (N0 + 14), .ref (N0 + 35), .ref (N0 + 57), .ref (N0 + 58), .ref (N0 + 59), .ref (N0 + 60), .int 0, .int 0, .ref (N0 + 61), .ref (N0 + 62)]) S hG fu_s i_X1_leastCost_X1 rfl 7 (by decide) tyX1 tyX1_ok nmX1 (by decide +kernel) rfl (by decide +kernel) rfl rfl (Nat.le_of_ble_eq_true rfl) rfl dX1_leastCost_64 (fun H locs hG => ?_)
  refine lv_aload_n S.1 S.2.1 dX1_leastCost_67 rfl (lv_at hl 2 rfl) ?_
  refine lv_aload_n S.1 S.2.1 dX1_leastCost_68 rfl (lv_at hl 3 rfl) ?_
  refine lv_aload_n S.1 S.2.1 dX1_leastCost_69 rfl (lv_at hl 4 rfl) ?_
  refine fx_cVv (As := [.ref (N0 + 157), .ref (N0 + 143)]) (rest := []) S hG (k1261_X1_fillRestCosts (by omega) fu_s (fu_at (by omega) (fu_at (by omega) (fu_at (by omega) (fu_at (by omega) h5)))) (fu_at (by omega) (fu_at (by omega) (fu_at (by omega) (fu_at (by omega) h6))))) fu_s rfl (cwV 2 S.2.2.2.2 gX1_leastCost_X1_fillRestCosts rfl rfl rfl (by decide +kernel) ⟨Nat.le_of_ble_eq_true rfl, Nat.le_of_ble_eq_true rfl⟩) rfl hl.1 rfl (Nat.le_of_ble_eq_true rfl) dX1_leastCost_70 ⟨Nat.le_of_ble_eq_true rfl, Nat.le_of_ble_eq_true rfl⟩ (fun _ H locs hp hG => ?_)
  refine lv_aload_n S.1 S.2.1 dX1_leastCost_73 rfl (lv_at hl 2 rfl) ?_
  refine gx_get (C := RX1) (T := TX1) (N := 10) S hG (fu_at (by omega) fu_s) i_X1_leastCost_X1 rfl 0 (by decide) (by decide +kernel) rfl dX1_leastCost_74 ?_
  refine lv_iload_n S.1 S.2.1 dX1_leastCost_77 rfl (lv_at hl 1 rfl) ?_
  refine gx_aldq (x := (N0 + 15)) S hG 4 rfl (fu_at (by omega) (fu_at (by omega) (fu_at (by omega) (fu_at (by omega) (fu_at (by omega) h7))))) rfl (fin_l (by decide)) (rfl) dX1_leastCost_78 ?_
  refine lv_iload S.1 S.2.1 dX1_leastCost_79 (lv_at hl 0 rfl) ?_
  refine lv_aload_n S.1 S.2.1 dX1_leastCost_81 rfl (lv_at hl 3 rfl) ?_
  refine lv_iload_n S.1 S.2.1 dX1_leastCost_82 rfl (lv_at hl 1 rfl) ?_
  refine lv_aload_n S.1 S.2.1 dX1_leastCost_83 rfl (lv_at hl 4 rfl) ?_
  refine lv_iload S.1 S.2.1 dX1_leastCost_84 (lv_at hl 0 rfl) ?_
  refine fx_cSNi (host := "TreeDiffer") (As := [.ref (N0 + 157), .int 0, .ref (N0 + 143), .int 0]) (rest := [.int 0, .ref (N0 + 15)]) S hG (k1262_X7_changeCost (by omega) (fu_at (by omega) (fu_at (by omega) (fu_at (by omega) (fu_at (by omega) (fu_at (by omega) h1))))) (fu_at (by omega) (fu_at (by omega) (fu_at (by omega) (fu_at (by omega) (fu_at (by omega) h8))))) (fu_at (by omega) (fu_at (by omega) (fu_at (by omega) (fu_at (by omega) (fu_at (by omega) h3))))) (fu_at (by omega) (fu_at (by omega) (fu_at (by omega) (fu_at (by omega) (fu_at (by omega) h9))))) (fu_at (by omega) (fu_at (by omega) (fu_at (by omega) (fu_at (by omega) (fu_at (by omega) h10))))) (fu_at (by omega) (fu_at (by omega) (fu_at (by omega) (fu_at (by omega) (fu_at (by omega) h11)))))) ⟨(va_cnB 4 S.2.2.2.2 gX1_leastCost_X7_changeCost_n62 rfl rfl rfl (hG.nest (show _ ∈ fen2.2.2.1 from by decide)) (S.2.2.2.2 (.initialized RX7) (by decide +kernel)) (by decide +kernel) ⟨Nat.le_of_ble_eq_true rfl, Nat.le_of_ble_eq_true rfl⟩), S.2.2.2.2 (.static yX7_changeCost) (by decide +kernel), trivial⟩ rfl hl.1 rfl (Nat.le_of_ble_eq_true rfl) dX1_leastCost_86 ⟨Nat.le_of_ble_eq_true rfl, Nat.le_of_ble_eq_true rfl⟩ (fun rv_6 _ H locs hp hG => ?_)
  subst rv_6
  refine lv_aload_n S.1 S.2.1 dX1_leastCost_89 rfl (lv_at hl 2 rfl) ?_
  refine gx_get (C := RX1) (T := TX1) (N := 10) S hG (fu_at (by omega) fu_s) i_X1_leastCost_X1 rfl 1 (by decide) (by decide +kernel) rfl dX1_leastCost_90 ?_
  refine lv_iconst (v := 0) S.1 S.2.1 dX1_leastCost_93 (by decide) ?_
  refine gx_aldq (x := (N0 + 36)) S hG 4 rfl (fu_at (by omega) (fu_at (by omega) (fu_at (by omega) (fu_at (by omega) (fu_at (by omega) h5))))) rfl (fin_l (by decide)) (rfl) dX1_leastCost_94 ?_
  refine lv_iconst (v := 0) S.1 S.2.1 dX1_leastCost_95 (by decide) ?_
  refine gx_iald (v := 0) S hG 0 fu_s rfl (fin_l (by decide)) (by decide) dX1_leastCost_96 ?_
  refine lv_iadd S.1 S.2.1 dX1_leastCost_97 ?_
  refine fx_topi (y := 0) (by decide) ?_
  refine gx_iast (f' := upd (fun _ => 0) 0 0) S hG 0 (fu_at (by omega) (fu_at (by omega) (fu_at (by omega) (fu_at (by omega) (fu_at (by omega) h12))))) rfl (fin_l (by decide)) dX1_leastCost_98 (rfl) (fun H locs hG => ?_)
  refine lv_iinc (v := (-1)) (lv' := [(4, .int (-1)), (3, .int 0), (0, .ref (N0 + 13)), (1, .ref (N0 + 157)), (2, .ref (N0 + 143))]) S.1 S.2.1 dX1_leastCost_99 hl (k := 0) rfl (by decide) (by decide) rfl (fun ls hl => ?_)
  refine lv_goto (tgt := 48) S.1 S.2.1 dX1_leastCost_102 (by decide) ?_
  refine lv_iload S.1 S.2.1 dX1_leastCost_48 (lv_at hl 0 rfl) ?_
  refine lv_if_lt (tgt := 105) S.1 S.2.1 dX1_leastCost_50 (by decide) (fun _ => ?_) (fun c => absurd (by decide) c)
  refine lv_iinc (v := (-1)) (lv' := [(3, .int (-1)), (4, .int (-1)), (0, .ref (N0 + 13)), (1, .ref (N0 + 157)), (2, .ref (N0 + 143))]) S.1 S.2.1 dX1_leastCost_105 hl (k := 1) rfl (by decide) (by decide) rfl (fun ls hl => ?_)
  refine lv_goto (tgt := 23) S.1 S.2.1 dX1_leastCost_108 (by decide) ?_
  refine lv_iload_n S.1 S.2.1 dX1_leastCost_23 rfl (lv_at hl 0 rfl) ?_
  refine lv_if_lt (tgt := 111) S.1 S.2.1 dX1_leastCost_24 (by decide) (fun _ => ?_) (fun c => absurd (by decide) c)
  refine lv_aload_n S.1 S.2.1 dX1_leastCost_111 rfl (lv_at hl 2 rfl) ?_
  refine gx_get (C := RX1) (T := TX1) (N := 10) S hG (fu_at (by omega) (fu_at (by omega) fu_s)) i_X1_leastCost_X1 rfl 0 (by decide) (by decide +kernel) rfl dX1_leastCost_112 ?_
  refine lv_iconst (v := 0) S.1 S.2.1 dX1_leastCost_115 (by decide) ?_
  refine gx_aldq (x := (N0 + 15)) S hG 4 rfl (fu_at (by omega) (fu_at (by omega) (fu_at (by omega) (fu_at (by omega) (fu_at (by omega) (fu_at (by omega) h7)))))) rfl (fin_l (by decide)) (rfl) dX1_leastCost_116 ?_
  refine lv_iconst (v := 0) S.1 S.2.1 dX1_leastCost_117 (by decide) ?_
  refine gx_iald (v := 0) S hG 0 fu_s rfl (fin_l (by decide)) (by decide) dX1_leastCost_118 ?_
  have hG : fG N0 D vwCl (fty cI cC cL cD cII cTr cTm cIt cB) (fen ql) s (fu (fu (fu (fu (fu F (N0 + 57) (.inl (cI, 20, .inl (upd (fun _ => 0) 0 1)))) (N0 + 58) (.inl (cI, 20, .inl (upd (fun _ => 0) 0 1)))) (N0 + 13) (.inr (3, [.ref (N0 + 14), .ref (N0 + 35), .ref (N0 + 57), .ref (N0 + 58), .ref (N0 + 59), .ref (N0 + 60), .int 0, .int 0, .ref (N0 + 61), .ref (N0 + 62)]))) (N0 + 36) (.inl (cI, 21, .inl (upd (fun _ => 0) 0 0)))) (N0 + 15) (.inl (cI, 20, .inl (upd (fun _ => 0) 0 0)))) n H locs := hG.weak (fun a e h => by
    rcases fu_cases h with ⟨rfl, he⟩ | ⟨hne0, h⟩
    · cases he; exact fu_s
    · skip
      rcases fu_cases h with ⟨rfl, he⟩ | ⟨hne1, h⟩
      · cases he; exact (fu_at (by omega) fu_s)
      · skip
        rcases fu_cases h with ⟨rfl, he⟩ | ⟨hne2, h⟩
        · cases he; exact (fu_at (by omega) (fu_at (by omega) fu_s))
        · skip
          rcases fu_cases h with ⟨rfl, he⟩ | ⟨hne3, h⟩
          · cases he; exact (fu_at (by omega) (fu_at (by omega) (fu_at (by omega) (fu_at (by omega) fu_s))))
          · skip
            rcases fu_cases h with ⟨rfl, he⟩ | ⟨hne4, h⟩
            · cases he; exact (fu_at (by omega) (fu_at (by omega) (fu_at (by omega) (fu_at (by omega) (fu_at (by omega) fu_s)))))
            · exact (fu_at (by omega) (fu_at (by omega) (fu_at (by omega) (fu_at (by omega) (fu_at (by omega) (fu_at (by omega) h)))))))
  exact fx_iret S hr hlocks () hG (rfl) dX1_leastCost_119
theorem k1264_X7_distance {n : Nat} (hn : N0 + 231 ≤ n) (h0 : F N0 = some (.inr (9, [.ref (N0 + 1), .ref (N0 + 2), .ref (N0 + 11), .ref (N0 + 13), .ref (N0 + 63), .ref (N0 + 65), .ref (N0 + 85), .int (-1), .int (-1), .int 32]))) (h1 : F (N0 + 1) = some (.inl (cTr, 3, .inr (.inr (.inr (.inr (va_up (va_up (va_up (fun _ => none) 0 (some (N0 + 143))) 1 (some (N0 + 150))) 2 (some (N0 + 157))))))))) (h2 : F (N0 + 13) = some (.inr (3, [.ref (N0 + 14), .ref (N0 + 35), .ref (N0 + 57), .ref (N0 + 58), .ref (N0 + 59), .ref (N0 + 60), .int 0, .int 0, .ref (N0 + 61), .ref (N0 + 62)]))) (h3 : F (N0 + 157) = some (.inr (7, [.ref (N0 + 158), .ref (N0 + 159), .ref (N0 + 160), .ref (N0 + 161), .ref (N0 + 162), .ref (N0 + 163), .int 1]))) (h4 : F (N0 + 57) = some (.inl (cI, 20, .inl (fun _ => 0)))) (h5 : F (N0 + 143) = some (.inr (7, [.ref (N0 + 144), .ref (N0 + 145), .ref (N0 + 146), .ref (N0 + 147), .ref (N0 + 148), .ref (N0 + 149), .int 1]))) (h6 : F (N0 + 58) = some (.inl (cI, 20, .inl (fun _ => 0)))) (h7 : F (N0 + 35) = some (.inl (cII, 21, .inr (.inr (.inr (.inr (fun j => if j < 21 then some ((N0 + 36) + j) else none))))))) (h8 : F (N0 + 36) = some (.inl (cI, 21, .inl (fun _ => 0)))) (h9 : F (N0 + 14) = some (.inl (cII, 20, .inr (.inr (.inr (.inr (fun j => if j < 20 then some ((N0 + 15) + j) else none))))))) (h10 : F (N0 + 158) = some (.inl (cC, 20, .inl (upd (fun _ => 0) 0 97)))) (h11 : F (N0 + 144) = some (.inl (cC, 20, .inl (upd (fun _ => 0) 0 97)))) (h12 : F (N0 + 160) = some (.inl (cI, 20, .inl (fun _ => 0)))) (h13 : F (N0 + 146) = some (.inl (cI, 20, .inl (fun _ => 0)))) (h14 : F (N0 + 15) = some (.inl (cI, 20, .inl (fun _ => 0)))) : Met l yX7_distance wsX7_distance ({ frames := 3, cells := 0, slots := 0, locals := 73 }) (va_Pc [.ref N0, .int 2, .int 0] (fP N0 D vwCl (fty cI cC cL cD cII cTr cTm cIt cB) (fen ql) F n)) (fQi N0 D vwCl (fty cI cC cL cD cII cTr cTm cIt cB) (fun (r : Int32) (_ : Unit) => r = 0) (fun _ => (fu (fu (fu (fu (fu F (N0 + 57) (.inl (cI, 20, .inl (upd (fun _ => 0) 0 1)))) (N0 + 58) (.inl (cI, 20, .inl (upd (fun _ => 0) 0 1)))) (N0 + 13) (.inr (3, [.ref (N0 + 14), .ref (N0 + 35), .ref (N0 + 57), .ref (N0 + 58), .ref (N0 + 59), .ref (N0 + 60), .int 0, .int 0, .ref (N0 + 61), .ref (N0 + 62)]))) (N0 + 36) (.inl (cI, 21, .inl (upd (fun _ => 0) 0 0)))) (N0 + 15) (.inl (cI, 20, .inl (upd (fun _ => 0) 0 0))))) (fun _ => n)) 0 0 (fA N0) := by
  refine fx_start 5 rfl rfl (Nat.le_of_ble_eq_true rfl) ?_ rfl
  intro p e s m below meth c ls S hr hlocks hin hG hl
  have hl : lv_has ls 5 [(0, .ref N0), (1, .int 2), (2, .int 0)] := hl
  have lt_h0 := hG.1.lt h0
  have lt_h1 := hG.1.lt h1
  have lt_h2 := hG.1.lt h2
  have lt_h3 := hG.1.lt h3
  have lt_h4 := hG.1.lt h4
  have lt_h5 := hG.1.lt h5
  have lt_h6 := hG.1.lt h6
  have lt_h7 := hG.1.lt h7
  have lt_h8 := hG.1.lt h8
  have lt_h9 := hG.1.lt h9
  have lt_h10 := hG.1.lt h10
  have lt_h11 := hG.1.lt h11
  have lt_h12 := hG.1.lt h12
  have lt_h13 := hG.1.lt h13
  have lt_h14 := hG.1.lt h14
  refine lv_aload_n S.1 S.2.1 dX7_distance_0 rfl (lv_at hl 0 rfl) ?_
  refine lv_iload_n S.1 S.2.1 dX7_distance_1 rfl (lv_at hl 1 rfl) ?_
  refine fx_cVr (As := [.int 2]) (rest := []) S hG (k48_X7_treeAt (by omega) h0 h1) h0 rfl (cwV 1 S.2.2.2.2 gX7_distance_X7_treeAt rfl rfl rfl (by decide +kernel) ⟨Nat.le_of_ble_eq_true rfl, Nat.le_of_ble_eq_true rfl⟩) rfl hl.1 rfl (Nat.le_of_ble_eq_true rfl) dX7_distance_2 ⟨Nat.le_of_ble_eq_true rfl, Nat.le_of_ble_eq_true rfl⟩ (fun rv_1 _ H locs hp hG => ?_)
  subst rv_1
  refine lv_astore_n (lv' := [(3, .ref (N0 + 157)), (0, .ref N0), (1, .int 2), (2, .int 0)]) S.1 S.2.1 dX7_distance_5 rfl hl (by decide) rfl (fun ls hl => ?_)
  refine lv_aload_n S.1 S.2.1 dX7_distance_6 rfl (lv_at hl 1 rfl) ?_
  refine lv_iload_n S.1 S.2.1 dX7_distance_7 rfl (lv_at hl 3 rfl) ?_
  refine fx_cVr (As := [.int 0]) (rest := []) S hG (k26_X7_treeAt (by omega) h0 h1) h0 rfl (cwV 1 S.2.2.2.2 gX7_distance_X7_treeAt rfl rfl rfl (by decide +kernel) ⟨Nat.le_of_ble_eq_true rfl, Nat.le_of_ble_eq_true rfl⟩) rfl hl.1 rfl (Nat.le_of_ble_eq_true rfl) dX7_distance_8 ⟨Nat.le_of_ble_eq_true rfl, Nat.le_of_ble_eq_true rfl⟩ (fun rv_2 _ H locs hp hG => ?_)
  subst rv_2
  refine lv_astore (lv' := [(4, .ref (N0 + 143)), (3, .ref (N0 + 157)), (0, .ref N0), (1, .int 2), (2, .int 0)]) S.1 S.2.1 dX7_distance_11 hl (by decide) rfl (fun ls hl => ?_)
  refine lv_aload_n S.1 S.2.1 dX7_distance_13 rfl (lv_at hl 2 rfl) ?_
  refine gx_get (C := RX7) (T := TX7) (N := 10) S hG h0 i_X7_distance_X7 rfl 3 (by decide) (by decide +kernel) rfl dX7_distance_14 ?_
  refine lv_aload_n S.1 S.2.1 dX7_distance_17 rfl (lv_at hl 1 rfl) ?_
  refine lv_aload S.1 S.2.1 dX7_distance_18 (lv_at hl 0 rfl) ?_
  refine fx_cVi (As := [.ref (N0 + 157), .ref (N0 + 143)]) (rest := []) S hG (k1263_X1_leastCost (by omega) h2 h3 h4 h5 h6 h7 h8 h9 h10 h11 h12 h13 h14) h2 rfl (cwV 2 S.2.2.2.2 gX7_distance_X1_leastCost rfl rfl rfl (by decide +kernel) ⟨Nat.le_of_ble_eq_true rfl, Nat.le_of_ble_eq_true rfl⟩) rfl hl.1 rfl (Nat.le_of_ble_eq_true rfl) dX7_distance_20 ⟨Nat.le_of_ble_eq_true rfl, Nat.le_of_ble_eq_true rfl⟩ (fun rv_3 _ H locs hp hG => ?_)
  subst rv_3
  exact fx_iret S hr hlocks () hG (rfl) dX7_distance_23
theorem k1265_L_distance {n : Nat} (hn : N0 + 231 ≤ n) (h0 : F N0 = some (.inr (9, [.ref (N0 + 1), .ref (N0 + 2), .ref (N0 + 11), .ref (N0 + 13), .ref (N0 + 63), .ref (N0 + 65), .ref (N0 + 85), .int (-1), .int (-1), .int 32]))) (h1 : F (N0 + 1) = some (.inl (cTr, 3, .inr (.inr (.inr (.inr (va_up (va_up (va_up (fun _ => none) 0 (some (N0 + 143))) 1 (some (N0 + 150))) 2 (some (N0 + 157))))))))) (h2 : F (N0 + 13) = some (.inr (3, [.ref (N0 + 14), .ref (N0 + 35), .ref (N0 + 57), .ref (N0 + 58), .ref (N0 + 59), .ref (N0 + 60), .int 0, .int 0, .ref (N0 + 61), .ref (N0 + 62)]))) (h3 : F (N0 + 157) = some (.inr (7, [.ref (N0 + 158), .ref (N0 + 159), .ref (N0 + 160), .ref (N0 + 161), .ref (N0 + 162), .ref (N0 + 163), .int 1]))) (h4 : F (N0 + 57) = some (.inl (cI, 20, .inl (fun _ => 0)))) (h5 : F (N0 + 143) = some (.inr (7, [.ref (N0 + 144), .ref (N0 + 145), .ref (N0 + 146), .ref (N0 + 147), .ref (N0 + 148), .ref (N0 + 149), .int 1]))) (h6 : F (N0 + 58) = some (.inl (cI, 20, .inl (fun _ => 0)))) (h7 : F (N0 + 35) = some (.inl (cII, 21, .inr (.inr (.inr (.inr (fun j => if j < 21 then some ((N0 + 36) + j) else none))))))) (h8 : F (N0 + 36) = some (.inl (cI, 21, .inl (fun _ => 0)))) (h9 : F (N0 + 14) = some (.inl (cII, 20, .inr (.inr (.inr (.inr (fun j => if j < 20 then some ((N0 + 15) + j) else none))))))) (h10 : F (N0 + 158) = some (.inl (cC, 20, .inl (upd (fun _ => 0) 0 97)))) (h11 : F (N0 + 144) = some (.inl (cC, 20, .inl (upd (fun _ => 0) 0 97)))) (h12 : F (N0 + 160) = some (.inl (cI, 20, .inl (fun _ => 0)))) (h13 : F (N0 + 146) = some (.inl (cI, 20, .inl (fun _ => 0)))) (h14 : F (N0 + 15) = some (.inl (cI, 20, .inl (fun _ => 0)))) (h15 : F (N0 + 229) = some (.inl (cL, 1, .inr (.inl (fun _ => 0))))) : Met l yL_distance wsL_distance ({ frames := 4, cells := 0, slots := 0, locals := 97 }) (va_Pc [.ref N0, .int 2, .int 0, .ref (N0 + 229)] (fP N0 D vwCl (fty cI cC cL cD cII cTr cTm cIt cB) (fen ql) F n)) (fQi N0 D vwCl (fty cI cC cL cD cII cTr cTm cIt cB) (fun (r : Int32) (_ : Unit) => r = 0) (fun _ => (fu (fu (fu (fu (fu (fu F (N0 + 57) (.inl (cI, 20, .inl (upd (fun _ => 0) 0 1)))) (N0 + 58) (.inl (cI, 20, .inl (upd (fun _ => 0) 0 1)))) (N0 + 13) (.inr (3, [.ref (N0 + 14), .ref (N0 + 35), .ref (N0 + 57), .ref (N0 + 58), .ref (N0 + 59), .ref (N0 + 60), .int 0, .int 0, .ref (N0 + 61), .ref (N0 + 62)]))) (N0 + 36) (.inl (cI, 21, .inl (upd (fun _ => 0) 0 0)))) (N0 + 15) (.inl (cI, 20, .inl (upd (fun _ => 0) 0 0)))) (N0 + 229) (.inl (cL, 1, .inr (.inl (vp_updL (fun _ => 0) 0 0)))))) (fun _ => n)) 0 0 (fA N0) := by
  refine fx_startW (hh := [(0, 10, 13, 19)]) 5 rfl rfl (Nat.le_of_ble_eq_true rfl) ?_ rfl
  intro p e s m below meth c ls S htab hr hlocks hG hl
  have hl : lv_has ls 5 [(0, .ref N0), (1, .int 2), (2, .int 0), (3, .ref (N0 + 229))] := hl
  have lt_h0 := hG.1.lt h0
  have lt_h1 := hG.1.lt h1
  have lt_h2 := hG.1.lt h2
  have lt_h3 := hG.1.lt h3
  have lt_h4 := hG.1.lt h4
  have lt_h5 := hG.1.lt h5
  have lt_h6 := hG.1.lt h6
  have lt_h7 := hG.1.lt h7
  have lt_h8 := hG.1.lt h8
  have lt_h9 := hG.1.lt h9
  have lt_h10 := hG.1.lt h10
  have lt_h11 := hG.1.lt h11
  have lt_h12 := hG.1.lt h12
  have lt_h13 := hG.1.lt h13
  have lt_h14 := hG.1.lt h14
  have lt_h15 := hG.1.lt h15
  refine lv_aload_n S.1 S.2.1 dL_distance_0 rfl (lv_at hl 3 rfl) ?_
  refine lv_iconst (v := 0) S.1 S.2.1 dL_distance_1 (by decide) ?_
  refine lv_aload_n S.1 S.2.1 dL_distance_2 rfl (lv_at hl 0 rfl) ?_
  refine lv_iload_n S.1 S.2.1 dL_distance_3 rfl (lv_at hl 1 rfl) ?_
  refine lv_iload_n S.1 S.2.1 dL_distance_4 rfl (lv_at hl 2 rfl) ?_
  refine fx_cVi (As := [.int 2, .int 0]) (rest := [.int 0, .ref (N0 + 229)]) S hG (k1264_X7_distance (by omega) h0 h1 h2 h3 h4 h5 h6 h7 h8 h9 h10 h11 h12 h13 h14) h0 rfl (cwV 2 S.2.2.2.2 gL_distance_X7_distance rfl rfl rfl (by decide +kernel) ⟨Nat.le_of_ble_eq_true rfl, Nat.le_of_ble_eq_true rfl⟩) rfl hl.1 rfl (Nat.le_of_ble_eq_true rfl) dL_distance_5 ⟨Nat.le_of_ble_eq_true rfl, Nat.le_of_ble_eq_true rfl⟩ (fun rv_1 _ H locs hp hG => ?_)
  subst rv_1
  refine lv_i2l (v := 0) S.1 S.2.1 dL_distance_8 (by decide) ?_
  refine gx_last (f' := vp_updL (fun _ => 0) 0 0) S hG 2 (fu_at (by omega) (fu_at (by omega) (fu_at (by omega) (fu_at (by omega) (fu_at (by omega) h15))))) rfl (fin_l (by decide)) dL_distance_9 rfl (fun H locs hG => ?_)
  refine lv_goto (tgt := 17) S.1 S.2.1 dL_distance_10 (by decide) ?_
  refine lv_iconst (v := 0) S.1 S.2.1 dL_distance_17 (by decide) ?_
  exact fx_iret S hr hlocks () hG (rfl) dL_distance_18
theorem k1266_X10_left {n b1 : Nat} (hn : N0 + 231 ≤ n) (hb1 : N0 + 231 ≤ b1) (h0 : F b1 = some (.inl (cI, 0, .inl (fun _ => 0)))) (h1 : F (b1 + 1) = some (.inl (cI, 0, .inl (fun _ => 0)))) : Met l yX10_left wsX10_left ({ frames := 0, cells := 2, slots := 2, locals := 0 }) (va_Pc [.ref (N0 + 164), .ref (N0 + 176), .ref b1, .ref (N0 + 166), .ref (b1 + 1)] (fP N0 D vwCl (fty cI cC cL cD cII cTr cTm cIt cB) (fen ql) F n)) (fQr N0 D vwCl (fty cI cC cL cD cII cTr cTm cIt cB) (fun (r : Nat) (_ : Unit) => r = n) (fun _ => (fblk F n [.inl (cII, 1, .inr (.inr (.inr (.inr (fun j => if j < 1 then some ((n + 1) + j) else none))))), .inl (cI, 1, .inl (fun _ => 0))])) (fun _ => (n + 2))) 2 2 (fA N0) := by
  refine fx_start 9 rfl rfl (Nat.le_of_ble_eq_true rfl) ?_ rfl
  intro p e s m below meth c ls S hr hlocks hin hG hl
  have hl : lv_has ls 9 [(0, .ref (N0 + 164)), (1, .ref (N0 + 176)), (2, .ref b1), (3, .ref (N0 + 166)), (4, .ref (b1 + 1))] := hl
  have lt_h0 := hG.1.lt h0
  have lt_h1 := hG.1.lt h1
  refine lv_aload_n S.1 S.2.1 dX10_left_0 rfl (lv_at hl 2 rfl) ?_
  refine gx_alen (v := 0) S hG 0 h0 rfl (rfl) dX10_left_1 ?_
  refine lv_iconst (v := 1) S.1 S.2.1 dX10_left_2 (by decide) ?_
  refine lv_iadd S.1 S.2.1 dX10_left_3 ?_
  refine fx_topi (y := 1) (by decide) ?_
  refine lv_aload S.1 S.2.1 dX10_left_4 (lv_at hl 4 rfl) ?_
  refine gx_alen (v := 0) S hG 0 h1 rfl (rfl) dX10_left_6 ?_
  refine lv_iconst (v := 1) S.1 S.2.1 dX10_left_7 (by decide) ?_
  refine lv_iadd S.1 S.2.1 dX10_left_8 ?_
  refine fx_topi (y := 1) (by decide) ?_
  refine gx_mna (N' := 1) (K' := 1) S hG (by decide +kernel) (by decide +kernel) 0 4 rfl rfl (by decide) (by decide) (by decide) (by decide) (by decide) (by decide) (by decide) (by decide) dX10_left_9 (fun H hG => ?_)
  refine W.widen (k := 2) (n := 2) (by decide) (by decide) ?_
  refine lv_astore (lv' := [(5, .ref n), (0, .ref (N0 + 164)), (1, .ref (N0 + 176)), (2, .ref b1), (3, .ref (N0 + 166)), (4, .ref (b1 + 1))]) S.1 S.2.1 dX10_left_13 hl (by decide) rfl (fun ls hl => ?_)
  refine lv_aload_n S.1 S.2.1 dX10_left_15 rfl (lv_at hl 3 rfl) ?_
  refine gx_alen (v := 0) S hG 0 (fblk_sk 1 rfl (by omega) (fu_at (by omega) h0)) rfl (rfl) dX10_left_16 ?_
  refine lv_istore (lv' := [(6, .int 0), (5, .ref n), (0, .ref (N0 + 164)), (1, .ref (N0 + 176)), (2, .ref b1), (3, .ref (N0 + 166)), (4, .ref (b1 + 1))]) S.1 S.2.1 dX10_left_17 hl (by decide) rfl (fun ls hl => ?_)
  refine lv_iload S.1 S.2.1 dX10_left_19 (lv_at hl 0 rfl) ?_
  refine lv_if_lt (tgt := 228) S.1 S.2.1 dX10_left_21 (by decide) (fun c => absurd c (by decide)) (fun _ => ?_)
  refine lv_aload S.1 S.2.1 dX10_left_24 (lv_at hl 6 rfl) ?_
  refine gx_alen (v := 0) S hG 0 (fblk_sk 1 rfl (by omega) (fu_at (by omega) h1)) rfl (rfl) dX10_left_26 ?_
  refine lv_istore (lv' := [(7, .int 0), (6, .int 0), (5, .ref n), (0, .ref (N0 + 164)), (1, .ref (N0 + 176)), (2, .ref b1), (3, .ref (N0 + 166)), (4, .ref (b1 + 1))]) S.1 S.2.1 dX10_left_27 hl (by decide) rfl (fun ls hl => ?_)
  refine lv_iload S.1 S.2.1 dX10_left_29 (lv_at hl 0 rfl) ?_
  refine lv_if_lt (tgt := 222) S.1 S.2.1 dX10_left_31 (by decide) (fun c => absurd c (by decide)) (fun _ => ?_)
  refine lv_iload S.1 S.2.1 dX10_left_34 (lv_at hl 1 rfl) ?_
  refine lv_aload_n S.1 S.2.1 dX10_left_36 rfl (lv_at hl 5 rfl) ?_
  refine gx_alen (v := 0) S hG 0 (fblk_sk 1 rfl (by omega) (fu_at (by omega) h0)) rfl (rfl) dX10_left_37 ?_
  refine lv_icmp_ne (tgt := 52) S.1 S.2.1 dX10_left_38 (by decide) (fun c => absurd (by decide) c) (fun _ => ?_)
  refine lv_iload S.1 S.2.1 dX10_left_41 (lv_at hl 0 rfl) ?_
  refine lv_aload S.1 S.2.1 dX10_left_43 (lv_at hl 7 rfl) ?_
  refine gx_alen (v := 0) S hG 0 (fblk_sk 1 rfl (by omega) (fu_at (by omega) h1)) rfl (rfl) dX10_left_45 ?_
  refine lv_icmp_ne (tgt := 52) S.1 S.2.1 dX10_left_46 (by decide) (fun c => absurd (by decide) c) (fun _ => ?_)
  refine lv_goto (tgt := 216) S.1 S.2.1 dX10_left_49 (by decide) ?_
  refine lv_iinc (v := (-1)) (lv' := [(7, .int (-1)), (6, .int 0), (5, .ref n), (0, .ref (N0 + 164)), (1, .ref (N0 + 176)), (2, .ref b1), (3, .ref (N0 + 166)), (4, .ref (b1 + 1))]) S.1 S.2.1 dX10_left_216 hl (k := 0) rfl (by decide) (by decide) rfl (fun ls hl => ?_)
  refine lv_goto (tgt := 29) S.1 S.2.1 dX10_left_219 (by decide) ?_
  refine lv_iload S.1 S.2.1 dX10_left_29 (lv_at hl 0 rfl) ?_
  refine lv_if_lt (tgt := 222) S.1 S.2.1 dX10_left_31 (by decide) (fun _ => ?_) (fun c => absurd (by decide) c)
  refine lv_iinc (v := (-1)) (lv' := [(6, .int (-1)), (7, .int (-1)), (5, .ref n), (0, .ref (N0 + 164)), (1, .ref (N0 + 176)), (2, .ref b1), (3, .ref (N0 + 166)), (4, .ref (b1 + 1))]) S.1 S.2.1 dX10_left_222 hl (k := 1) rfl (by decide) (by decide) rfl (fun ls hl => ?_)
  refine lv_goto (tgt := 19) S.1 S.2.1 dX10_left_225 (by decide) ?_
  refine lv_iload S.1 S.2.1 dX10_left_19 (lv_at hl 0 rfl) ?_
  refine lv_if_lt (tgt := 228) S.1 S.2.1 dX10_left_21 (by decide) (fun _ => ?_) (fun c => absurd (by decide) c)
  refine lv_aload S.1 S.2.1 dX10_left_228 (lv_at hl 2 rfl) ?_
  have hG : fG N0 D vwCl (fty cI cC cL cD cII cTr cTm cIt cB) (fen ql) s (fblk F n [.inl (cII, 1, .inr (.inr (.inr (.inr (fun j => if j < 1 then some ((n + 1) + j) else none))))), .inl (cI, 1, .inl (fun _ => 0))]) (n + 2) H _ := hG.weak (fun a e h => by
    rcases fblk_cases 2 rfl h with ⟨k, rfl, hlt, hk⟩ | ⟨hout, h⟩
    · rcases (show k = 0 ∨ k = 1 by omega) with rfl | rfl
      · cases (show some (.inl (cII, 1, .inr (.inr (.inr (.inr (fun j => if j < 1 then some ((n + 1) + j) else none)))))) = some e from hk); exact (fblk_sk 1 rfl (by omega) fu_s)
      · cases (show some (.inl (cI, 1, .inl (fun _ => 0))) = some e from hk); exact (fblk_at 0 (by omega) rfl)
    · exact (fblk_sk 1 rfl (by omega) (fu_at (by omega) h)))
  exact fx_aret S hr (Or.inr ⟨_, rfl⟩) hlocks () hG (rfl) dX10_left_230
set_option maxHeartbeats 16000000 in
theorem k1267_X10_fills {n : Nat} (hn : N0 + 231 ≤ n) (h0 : F (N0 + 176) = some (.inr (11, [.ref (N0 + 177), .ref (N0 + 178), .ref (N0 + 179), .ref (N0 + 180), .int 1]))) (h1 : F (N0 + 166) = some (.inr (11, [.ref (N0 + 167), .ref (N0 + 168), .ref (N0 + 169), .ref (N0 + 170), .int 1]))) (h2 : F (N0 + 177) = some (.inl (cI, 20, .inl (upd (fun _ => 0) 0 97)))) (h3 : F (N0 + 167) = some (.inl (cI, 20, .inl (upd (fun _ => 0) 0 97)))) (h4 : F (N0 + 179) = some (.inl (cI, 20, .inl (upd (fun _ => 0) 0 0)))) (h5 : F (N0 + 169) = some (.inl (cI, 20, .inl (upd (fun _ => 0) 0 0)))) (h6 : F (N0 + 164) = some (.inr (12, [.ref (N0 + 165), .int 0, .ref (N0 + 181), .int 0, .int 0, .int 0, .int (-1), .ref (ql 24), .ref (N0 + 182), .ref (N0 + 187), .ref (N0 + 208), .ref (N0 + 209), .ref (N0 + 210), .ref (N0 + 211), .ref (N0 + 212), .int 0, .ref (N0 + 213), .ref (N0 + 218), .ref (N0 + 223), .ref (N0 + 224), .ref (N0 + 225), .ref (N0 + 226), .ref (N0 + 227), .int 0, .int 0, .ref (N0 + 228), .null, .int (-1), .int 0, .int 0, .int 0]))) (h7 : F (N0 + 187) = some (.inl (cII, 20, .inr (.inr (.inr (.inr (fun j => if j < 20 then some ((N0 + 188) + j) else none))))))) (h8 : F (N0 + 188) = some (.inl (cI, 20, .inl (fun _ => 0)))) : Met l yX10_fills wsX10_fills ({ frames := 2, cells := 4, slots := 2, locals := 47 }) (va_Pc [.ref (N0 + 164), .ref (N0 + 176), .ref (N0 + 166)] (fP N0 D vwCl (fty cI cC cL cD cII cTr cTm cIt cB) (fen ql) F n)) (fQi N0 D vwCl (fty cI cC cL cD cII cTr cTm cIt cB) (fun (r : Int32) (_ : Unit) => r = 0) (fun _ => (fblk (fu F (N0 + 188) (.inl (cI, 20, .inl (upd (fun _ => 0) 0 0)))) n [.inl (cI, 0, .inl (fun _ => 0)), .inl (cI, 0, .inl (fun _ => 0)), .inl (cII, 1, .inr (.inr (.inr (.inr (fun j => if j < 1 then some ((n + 3) + j) else none))))), .inl (cI, 1, .inl (fun _ => 0))])) (fun _ => (n + 4))) 4 2 (fA N0) := by
  refine fx_start 6 rfl rfl (Nat.le_of_ble_eq_true rfl) ?_ rfl
  intro p e s m below meth c ls S hr hlocks hin hG hl
  have hl : lv_has ls 6 [(0, .ref (N0 + 164)), (1, .ref (N0 + 176)), (2, .ref (N0 + 166))] := hl
  have lt_h0 := hG.1.lt h0
  have lt_h1 := hG.1.lt h1
  have lt_h2 := hG.1.lt h2
  have lt_h3 := hG.1.lt h3
  have lt_h4 := hG.1.lt h4
  have lt_h5 := hG.1.lt h5
  have lt_h6 := hG.1.lt h6
  have lt_h7 := hG.1.lt h7
  have lt_h8 := hG.1.lt h8
  refine lv_aload_n S.1 S.2.1 dX10_fills_0 rfl (lv_at hl 1 rfl) ?_
  refine gx_getN (C := RX9) (T := TX9) (N := 5) S hG h0 i_X10_fills_X9 rfl 4 (by decide) (List.mem_of_getElem? (i := 4) rfl) rfl dX10_fills_1 ?_
  refine lv_iconst (v := 1) S.1 S.2.1 dX10_fills_4 (by decide) ?_
  refine lv_isub S.1 S.2.1 dX10_fills_5 ?_
  refine fx_topi (y := 0) (by decide) ?_
  refine lv_istore_n (lv' := [(3, .int 0), (0, .ref (N0 + 164)), (1, .ref (N0 + 176)), (2, .ref (N0 + 166))]) S.1 S.2.1 dX10_fills_6 rfl hl (by decide) rfl (fun ls hl => ?_)
  refine lv_iload_n S.1 S.2.1 dX10_fills_7 rfl (lv_at hl 0 rfl) ?_
  refine lv_if_lt (tgt := 114) S.1 S.2.1 dX10_fills_8 (by decide) (fun c => absurd c (by decide)) (fun _ => ?_)
  refine lv_aload_n S.1 S.2.1 dX10_fills_11 rfl (lv_at hl 3 rfl) ?_
  refine gx_getN (C := RX9) (T := TX9) (N := 5) S hG h1 i_X10_fills_X9 rfl 4 (by decide) (List.mem_of_getElem? (i := 4) rfl) rfl dX10_fills_12 ?_
  refine lv_iconst (v := 1) S.1 S.2.1 dX10_fills_15 (by decide) ?_
  refine lv_isub S.1 S.2.1 dX10_fills_16 ?_
  refine fx_topi (y := 0) (by decide) ?_
  refine lv_istore (lv' := [(4, .int 0), (3, .int 0), (0, .ref (N0 + 164)), (1, .ref (N0 + 176)), (2, .ref (N0 + 166))]) S.1 S.2.1 dX10_fills_17 hl (by decide) rfl (fun ls hl => ?_)
  refine lv_iload S.1 S.2.1 dX10_fills_19 (lv_at hl 0 rfl) ?_
  refine lv_if_lt (tgt := 108) S.1 S.2.1 dX10_fills_21 (by decide) (fun c => absurd c (by decide)) (fun _ => ?_)
  refine lv_aload_n S.1 S.2.1 dX10_fills_24 rfl (lv_at hl 3 rfl) ?_
  refine gx_getN (C := RX9) (T := TX9) (N := 5) S hG h0 i_X10_fills_X9 rfl 0 (by decide) (List.mem_of_getElem? (i := 1) rfl) rfl dX10_fills_25 ?_
  refine lv_iload_n S.1 S.2.1 dX10_fills_28 rfl (lv_at hl 1 rfl) ?_
  refine gx_iald (v := 97) S hG 0 h2 rfl (fin_l (by decide)) (by decide) dX10_fills_29 ?_
  refine lv_aload_n S.1 S.2.1 dX10_fills_30 rfl (lv_at hl 4 rfl) ?_
  refine gx_getN (C := RX9) (T := TX9) (N := 5) S hG h1 i_X10_fills_X9 rfl 0 (by decide) (List.mem_of_getElem? (i := 1) rfl) rfl dX10_fills_31 ?_
  refine lv_iload S.1 S.2.1 dX10_fills_34 (lv_at hl 0 rfl) ?_
  refine gx_iald (v := 97) S hG 0 h3 rfl (fin_l (by decide)) (by decide) dX10_fills_36 ?_
  refine lv_icmp_ne (tgt := 44) S.1 S.2.1 dX10_fills_37 (by decide) (fun c => absurd (by decide) c) (fun _ => ?_)
  refine lv_iconst (v := 0) S.1 S.2.1 dX10_fills_40 (by decide) ?_
  refine lv_goto (tgt := 45) S.1 S.2.1 dX10_fills_41 (by decide) ?_
  refine lv_aload_n S.1 S.2.1 dX10_fills_45 rfl (lv_at hl 3 rfl) ?_
  refine gx_getN (C := RX9) (T := TX9) (N := 5) S hG h0 i_X10_fills_X9 rfl 2 (by decide) (List.mem_of_getElem? (i := 3) rfl) rfl dX10_fills_46 ?_
  refine lv_iload_n S.1 S.2.1 dX10_fills_49 rfl (lv_at hl 1 rfl) ?_
  refine gx_iald (v := 0) S hG 0 h4 rfl (fin_l (by decide)) (by decide) dX10_fills_50 ?_
  refine lv_aload_n S.1 S.2.1 dX10_fills_51 rfl (lv_at hl 4 rfl) ?_
  refine gx_getN (C := RX9) (T := TX9) (N := 5) S hG h1 i_X10_fills_X9 rfl 2 (by decide) (List.mem_of_getElem? (i := 3) rfl) rfl dX10_fills_52 ?_
  refine lv_iload S.1 S.2.1 dX10_fills_55 (lv_at hl 0 rfl) ?_
  refine gx_iald (v := 0) S hG 0 h5 rfl (fin_l (by decide)) (by decide) dX10_fills_57 ?_
  refine lv_icmp_ne (tgt := 65) S.1 S.2.1 dX10_fills_58 (by decide) (fun c => absurd (by decide) c) (fun _ => ?_)
  refine lv_iconst (v := 0) S.1 S.2.1 dX10_fills_61 (by decide) ?_
  refine lv_goto (tgt := 66) S.1 S.2.1 dX10_fills_62 (by decide) ?_
  refine lv_iadd S.1 S.2.1 dX10_fills_66 ?_
  refine fx_topi (y := 0) (by decide) ?_
  refine lv_istore (lv' := [(5, .int 0), (4, .int 0), (3, .int 0), (0, .ref (N0 + 164)), (1, .ref (N0 + 176)), (2, .ref (N0 + 166))]) S.1 S.2.1 dX10_fills_67 hl (by decide) rfl (fun ls hl => ?_)
  refine lv_aload_n S.1 S.2.1 dX10_fills_69 rfl (lv_at hl 3 rfl) ?_
  refine gx_get (C := RX10) (T := TX10) (N := 31) S hG h6 i_X10_fills_X10 rfl 9 (by decide) (by decide +kernel) rfl dX10_fills_70 ?_
  refine lv_iload_n S.1 S.2.1 dX10_fills_73 rfl (lv_at hl 2 rfl) ?_
  refine gx_aldq (x := (N0 + 188)) S hG 4 rfl h7 rfl (fin_l (by decide)) (rfl) dX10_fills_74 ?_
  refine lv_iload S.1 S.2.1 dX10_fills_75 (lv_at hl 1 rfl) ?_
  refine lv_iload S.1 S.2.1 dX10_fills_77 (lv_at hl 0 rfl) ?_
  refine lv_aload_n S.1 S.2.1 dX10_fills_79 rfl (lv_at hl 3 rfl) ?_
  refine lv_aload_n S.1 S.2.1 dX10_fills_80 rfl (lv_at hl 4 rfl) ?_
  refine lv_aload_n S.1 S.2.1 dX10_fills_81 rfl (lv_at hl 4 rfl) ?_
  refine lv_iload_n S.1 S.2.1 dX10_fills_82 rfl (lv_at hl 2 rfl) ?_
  refine fx_cVNr (host := "TreeDifferModel") (As := [.int 0]) (rest := [.ref (N0 + 176), .ref (N0 + 164), .int 0, .int 0, .ref (N0 + 188)]) S hG (k195_X9_kids (by omega) h0) h0 rfl ⟨(va_cnB 1 S.2.2.2.2 gX10_fills_X9_kids_n173 rfl rfl rfl (hG.nest (show _ ∈ fen2.2.2.1 from by decide)) (S.2.2.2.2 (.initialized RX9) (by decide +kernel)) (by decide +kernel) ⟨Nat.le_of_ble_eq_true rfl, Nat.le_of_ble_eq_true rfl⟩), S.2.2.2.2 (.instanceMethod yX9_kids) (by decide +kernel), S.2.2.2.2 (.selects RX9 yX9_kids yX9_kids) (by decide +kernel)⟩ rfl hl.1 rfl (Nat.le_of_ble_eq_true rfl) dX10_fills_83 ⟨Nat.le_of_ble_eq_true rfl, Nat.le_of_ble_eq_true rfl⟩ (fun rv_1 _ H locs hp hG => ?_)
  subst rv_1
  refine W.widen (k := 1) (n := 0) (by decide) (by decide) ?_
  refine lv_aload_n S.1 S.2.1 dX10_fills_86 rfl (lv_at hl 5 rfl) ?_
  refine lv_aload_n S.1 S.2.1 dX10_fills_87 rfl (lv_at hl 5 rfl) ?_
  refine lv_iload S.1 S.2.1 dX10_fills_88 (lv_at hl 1 rfl) ?_
  refine fx_cVNr (host := "TreeDifferModel") (As := [.int 0]) (rest := [.ref (N0 + 166), .ref n, .ref (N0 + 176), .ref (N0 + 164), .int 0, .int 0, .ref (N0 + 188)]) S hG (k89_X9_kids (by omega) (fblk_sk 1 rfl (by omega) h1)) (fblk_sk 1 rfl (by omega) h1) rfl ⟨(va_cnB 1 S.2.2.2.2 gX10_fills_X9_kids_n173 rfl rfl rfl (hG.nest (show _ ∈ fen2.2.2.1 from by decide)) (S.2.2.2.2 (.initialized RX9) (by decide +kernel)) (by decide +kernel) ⟨Nat.le_of_ble_eq_true rfl, Nat.le_of_ble_eq_true rfl⟩), S.2.2.2.2 (.instanceMethod yX9_kids) (by decide +kernel), S.2.2.2.2 (.selects RX9 yX9_kids yX9_kids) (by decide +kernel)⟩ rfl hl.1 rfl (Nat.le_of_ble_eq_true rfl) dX10_fills_90 ⟨Nat.le_of_ble_eq_true rfl, Nat.le_of_ble_eq_true rfl⟩ (fun rv_2 _ H locs hp hG => ?_)
  subst rv_2
  refine W.widen (k := 2) (n := 0) (by decide) (by decide) ?_
  refine fx_cVr (As := [.ref (N0 + 176), .ref n, .ref (N0 + 166), .ref (n + 1)]) (rest := [.int 0, .int 0, .ref (N0 + 188)]) S hG (k1266_X10_left (by omega) (by omega) (fblk_sk 1 rfl (by omega) (fblk_at 0 (by omega) rfl)) (fblk_at 0 (by omega) rfl)) (fblk_sk 1 rfl (by omega) (fblk_sk 1 rfl (by omega) h6)) rfl (cwV 4 S.2.2.2.2 gX10_fills_X10_left rfl rfl rfl (by decide +kernel) ⟨Nat.le_of_ble_eq_true rfl, Nat.le_of_ble_eq_true rfl⟩) rfl hl.1 rfl (Nat.le_of_ble_eq_true rfl) dX10_fills_93 ⟨Nat.le_of_ble_eq_true rfl, Nat.le_of_ble_eq_true rfl⟩ (fun rv_3 _ H locs hp hG => ?_)
  subst rv_3
  refine W.widen (k := 4) (n := 2) (by decide) (by decide) ?_
  refine lv_iconst (v := 0) S.1 S.2.1 dX10_fills_96 (by decide) ?_
  refine gx_aldq (x := (n + 3)) S hG 4 rfl (fblk_at 0 (by omega) rfl) rfl (fin_l (by decide)) (rfl) dX10_fills_97 ?_
  refine lv_iconst (v := 0) S.1 S.2.1 dX10_fills_98 (by decide) ?_
  refine gx_iald (v := 0) S hG 0 (fblk_at 1 (by omega) rfl) rfl (fin_l (by decide)) (by decide) dX10_fills_99 ?_
  refine lv_iadd S.1 S.2.1 dX10_fills_100 ?_
  refine fx_topi (y := 0) (by decide) ?_
  refine gx_iast (f' := upd (fun _ => 0) 0 0) S hG 0 (fblk_sk 2 rfl (by omega) (fblk_sk 1 rfl (by omega) (fblk_sk 1 rfl (by omega) h8))) rfl (fin_l (by decide)) dX10_fills_101 (rfl) (fun H locs hG => ?_)
  refine lv_iinc (v := (-1)) (lv' := [(4, .int (-1)), (5, .int 0), (3, .int 0), (0, .ref (N0 + 164)), (1, .ref (N0 + 176)), (2, .ref (N0 + 166))]) S.1 S.2.1 dX10_fills_102 hl (k := 1) rfl (by decide) (by decide) rfl (fun ls hl => ?_)
  refine lv_goto (tgt := 19) S.1 S.2.1 dX10_fills_105 (by decide) ?_
  refine lv_iload S.1 S.2.1 dX10_fills_19 (lv_at hl 0 rfl) ?_
  refine lv_if_lt (tgt := 108) S.1 S.2.1 dX10_fills_21 (by decide) (fun _ => ?_) (fun c => absurd (by decide) c)
  refine lv_iinc (v := (-1)) (lv' := [(3, .int (-1)), (4, .int (-1)), (5, .int 0), (0, .ref (N0 + 164)), (1, .ref (N0 + 176)), (2, .ref (N0 + 166))]) S.1 S.2.1 dX10_fills_108 hl (k := 2) rfl (by decide) (by decide) rfl (fun ls hl => ?_)
  refine lv_goto (tgt := 7) S.1 S.2.1 dX10_fills_111 (by decide) ?_
  refine lv_iload_n S.1 S.2.1 dX10_fills_7 rfl (lv_at hl 0 rfl) ?_
  refine lv_if_lt (tgt := 114) S.1 S.2.1 dX10_fills_8 (by decide) (fun _ => ?_) (fun c => absurd (by decide) c)
  refine lv_aload_n S.1 S.2.1 dX10_fills_114 rfl (lv_at hl 3 rfl) ?_
  refine gx_get (C := RX10) (T := TX10) (N := 31) S hG (fu_at (by omega) (fblk_sk 2 rfl (by omega) (fblk_sk 1 rfl (by omega) (fblk_sk 1 rfl (by omega) h6)))) i_X10_fills_X10 rfl 9 (by decide) (by decide +kernel) rfl dX10_fills_115 ?_
  refine lv_iconst (v := 0) S.1 S.2.1 dX10_fills_118 (by decide) ?_
  refine gx_aldq (x := (N0 + 188)) S hG 4 rfl (fu_at (by omega) (fblk_sk 2 rfl (by omega) (fblk_sk 1 rfl (by omega) (fblk_sk 1 rfl (by omega) h7)))) rfl (fin_l (by decide)) (rfl) dX10_fills_119 ?_
  refine lv_iconst (v := 0) S.1 S.2.1 dX10_fills_120 (by decide) ?_
  refine gx_iald (v := 0) S hG 0 fu_s rfl (fin_l (by decide)) (by decide) dX10_fills_121 ?_
  have hG : fG N0 D vwCl (fty cI cC cL cD cII cTr cTm cIt cB) (fen ql) s (fblk (fu F (N0 + 188) (.inl (cI, 20, .inl (upd (fun _ => 0) 0 0)))) n [.inl (cI, 0, .inl (fun _ => 0)), .inl (cI, 0, .inl (fun _ => 0)), .inl (cII, 1, .inr (.inr (.inr (.inr (fun j => if j < 1 then some ((n + 3) + j) else none))))), .inl (cI, 1, .inl (fun _ => 0))]) (n + 4) H locs := hG.weak (fun a e h => by
    rcases fblk_cases 4 rfl h with ⟨k, rfl, hlt, hk⟩ | ⟨hout, h⟩
    · rcases (show k = 0 ∨ k = 1 ∨ k = 2 ∨ k = 3 by omega) with rfl | rfl | rfl | rfl
      · cases (show some (.inl (cI, 0, .inl (fun _ => 0))) = some e from hk); exact (fu_at (by omega) (fblk_sk 2 rfl (by omega) (fblk_sk 1 rfl (by omega) (fblk_at 0 (by omega) rfl))))
      · cases (show some (.inl (cI, 0, .inl (fun _ => 0))) = some e from hk); exact (fu_at (by omega) (fblk_sk 2 rfl (by omega) (fblk_at 0 (by omega) rfl)))
      · cases (show some (.inl (cII, 1, .inr (.inr (.inr (.inr (fun j => if j < 1 then some ((n + 3) + j) else none)))))) = some e from hk); exact (fu_at (by omega) (fblk_at 0 (by omega) rfl))
      · cases (show some (.inl (cI, 1, .inl (fun _ => 0))) = some e from hk); exact (fu_at (by omega) (fblk_at 1 (by omega) rfl))
    · rcases fu_cases h with ⟨rfl, he⟩ | ⟨hne0, h⟩
      · cases he; exact fu_s
      · exact (fu_at (by omega) (fblk_sk 2 rfl (by omega) (fblk_sk 1 rfl (by omega) (fblk_sk 1 rfl (by omega) h)))))
  exact fx_iret S hr hlocks () hG (rfl) dX10_fills_122
theorem k1268_X10_distance {n : Nat} (hn : N0 + 231 ≤ n) (h0 : F (N0 + 164) = some (.inr (12, [.ref (N0 + 165), .int 0, .ref (N0 + 181), .int 0, .int 0, .int 0, .int (-1), .ref (ql 24), .ref (N0 + 182), .ref (N0 + 187), .ref (N0 + 208), .ref (N0 + 209), .ref (N0 + 210), .ref (N0 + 211), .ref (N0 + 212), .int 0, .ref (N0 + 213), .ref (N0 + 218), .ref (N0 + 223), .ref (N0 + 224), .ref (N0 + 225), .ref (N0 + 226), .ref (N0 + 227), .int 0, .int 0, .ref (N0 + 228), .null, .int (-1), .int 0, .int 0, .int 0]))) (h1 : F (N0 + 165) = some (.inl (cTm, 3, .inr (.inr (.inr (.inr (va_up (va_up (va_up (fun _ => none) 0 (some (N0 + 166))) 1 (some (N0 + 171))) 2 (some (N0 + 176))))))))) (h2 : F (N0 + 176) = some (.inr (11, [.ref (N0 + 177), .ref (N0 + 178), .ref (N0 + 179), .ref (N0 + 180), .int 1]))) (h3 : F (N0 + 166) = some (.inr (11, [.ref (N0 + 167), .ref (N0 + 168), .ref (N0 + 169), .ref (N0 + 170), .int 1]))) (h4 : F (N0 + 177) = some (.inl (cI, 20, .inl (upd (fun _ => 0) 0 97)))) (h5 : F (N0 + 167) = some (.inl (cI, 20, .inl (upd (fun _ => 0) 0 97)))) (h6 : F (N0 + 179) = some (.inl (cI, 20, .inl (upd (fun _ => 0) 0 0)))) (h7 : F (N0 + 169) = some (.inl (cI, 20, .inl (upd (fun _ => 0) 0 0)))) (h8 : F (N0 + 187) = some (.inl (cII, 20, .inr (.inr (.inr (.inr (fun j => if j < 20 then some ((N0 + 188) + j) else none))))))) (h9 : F (N0 + 188) = some (.inl (cI, 20, .inl (fun _ => 0)))) : Met l yX10_distance wsX10_distance ({ frames := 3, cells := 4, slots := 2, locals := 72 }) (va_Pc [.ref (N0 + 164), .int 2, .int 0] (fP N0 D vwCl (fty cI cC cL cD cII cTr cTm cIt cB) (fen ql) F n)) (fQi N0 D vwCl (fty cI cC cL cD cII cTr cTm cIt cB) (fun (r : Int32) (_ : Unit) => r = 0) (fun _ => (fblk (fu (fu F (N0 + 164) (.inr (12, [.ref (N0 + 165), .int 0, .ref (N0 + 181), .int 0, .int 0, .int 0, .int (-1), .ref (ql 24), .ref (N0 + 182), .ref (N0 + 187), .ref (N0 + 208), .ref (N0 + 209), .ref (N0 + 210), .ref (N0 + 211), .ref (N0 + 212), .int 0, .ref (N0 + 213), .ref (N0 + 218), .ref (N0 + 223), .ref (N0 + 224), .ref (N0 + 225), .ref (N0 + 226), .ref (N0 + 227), .int 0, .int 0, .ref (N0 + 228), .null, .int (-1), .int 0, .int 0, .int 0]))) (N0 + 188) (.inl (cI, 20, .inl (upd (fun _ => 0) 0 0)))) n [.inl (cI, 0, .inl (fun _ => 0)), .inl (cI, 0, .inl (fun _ => 0)), .inl (cII, 1, .inr (.inr (.inr (.inr (fun j => if j < 1 then some ((n + 3) + j) else none))))), .inl (cI, 1, .inl (fun _ => 0))])) (fun _ => (n + 4))) 4 2 (fA N0) := by
  refine fx_start 3 rfl rfl (Nat.le_of_ble_eq_true rfl) ?_ rfl
  intro p e s m below meth c ls S hr hlocks hin hG hl
  have hl : lv_has ls 3 [(0, .ref (N0 + 164)), (1, .int 2), (2, .int 0)] := hl
  have lt_h0 := hG.1.lt h0
  have lt_h1 := hG.1.lt h1
  have lt_h2 := hG.1.lt h2
  have lt_h3 := hG.1.lt h3
  have lt_h4 := hG.1.lt h4
  have lt_h5 := hG.1.lt h5
  have lt_h6 := hG.1.lt h6
  have lt_h7 := hG.1.lt h7
  have lt_h8 := hG.1.lt h8
  have lt_h9 := hG.1.lt h9
  refine lv_aload_n S.1 S.2.1 dX10_distance_0 rfl (lv_at hl 0 rfl) ?_
  refine lv_iload_n S.1 S.2.1 dX10_distance_1 rfl (lv_at hl 1 rfl) ?_
  refine lv_iload_n S.1 S.2.1 dX10_distance_2 rfl (lv_at hl 2 rfl) ?_
  refine fx_cVi (As := [.int 2, .int 0]) (rest := []) S hG (k518_X10_areNone (by omega) h0) h0 rfl (cwV 2 S.2.2.2.2 gX10_distance_X10_areNone rfl rfl rfl (by decide +kernel) ⟨Nat.le_of_ble_eq_true rfl, Nat.le_of_ble_eq_true rfl⟩) rfl hl.1 rfl (Nat.le_of_ble_eq_true rfl) dX10_distance_3 ⟨Nat.le_of_ble_eq_true rfl, Nat.le_of_ble_eq_true rfl⟩ (fun rv_1 _ H locs hp hG => ?_)
  subst rv_1
  refine lv_if_eq (tgt := 13) S.1 S.2.1 dX10_distance_6 (by decide) (fun _ => ?_) (fun c => absurd (by decide) c)
  refine lv_aload_n S.1 S.2.1 dX10_distance_13 rfl (lv_at hl 0 rfl) ?_
  refine lv_aload_n S.1 S.2.1 dX10_distance_14 rfl (lv_at hl 0 rfl) ?_
  refine gx_get (C := RX10) (T := TX10) (N := 31) S hG fu_s i_X10_distance_X10 rfl 0 (by decide) (by decide +kernel) rfl dX10_distance_15 ?_
  refine lv_iload_n S.1 S.2.1 dX10_distance_18 rfl (lv_at hl 1 rfl) ?_
  refine gx_aldq (x := (N0 + 176)) S hG 6 rfl (fu_at (by omega) h1) rfl (fin_l (by decide)) (rfl) dX10_distance_19 ?_
  refine lv_aload_n S.1 S.2.1 dX10_distance_20 rfl (lv_at hl 0 rfl) ?_
  refine gx_get (C := RX10) (T := TX10) (N := 31) S hG fu_s i_X10_distance_X10 rfl 0 (by decide) (by decide +kernel) rfl dX10_distance_21 ?_
  refine lv_iload_n S.1 S.2.1 dX10_distance_24 rfl (lv_at hl 2 rfl) ?_
  refine gx_aldq (x := (N0 + 166)) S hG 6 rfl (fu_at (by omega) h1) rfl (fin_l (by decide)) (rfl) dX10_distance_25 ?_
  refine fx_cVi (As := [.ref (N0 + 176), .ref (N0 + 166)]) (rest := []) S hG (k1267_X10_fills (by omega) (fu_at (by omega) h2) (fu_at (by omega) h3) (fu_at (by omega) h4) (fu_at (by omega) h5) (fu_at (by omega) h6) (fu_at (by omega) h7) fu_s (fu_at (by omega) h8) (fu_at (by omega) h9)) fu_s rfl (cwV 2 S.2.2.2.2 gX10_distance_X10_fills rfl rfl rfl (by decide +kernel) ⟨Nat.le_of_ble_eq_true rfl, Nat.le_of_ble_eq_true rfl⟩) rfl hl.1 rfl (Nat.le_of_ble_eq_true rfl) dX10_distance_26 ⟨Nat.le_of_ble_eq_true rfl, Nat.le_of_ble_eq_true rfl⟩ (fun rv_2 _ H locs hp hG => ?_)
  subst rv_2
  refine W.widen (k := 4) (n := 2) (by decide) (by decide) ?_
  have hG : fG N0 D vwCl (fty cI cC cL cD cII cTr cTm cIt cB) (fen ql) s (fblk (fu (fu F (N0 + 164) (.inr (12, [.ref (N0 + 165), .int 0, .ref (N0 + 181), .int 0, .int 0, .int 0, .int (-1), .ref (ql 24), .ref (N0 + 182), .ref (N0 + 187), .ref (N0 + 208), .ref (N0 + 209), .ref (N0 + 210), .ref (N0 + 211), .ref (N0 + 212), .int 0, .ref (N0 + 213), .ref (N0 + 218), .ref (N0 + 223), .ref (N0 + 224), .ref (N0 + 225), .ref (N0 + 226), .ref (N0 + 227), .int 0, .int 0, .ref (N0 + 228), .null, .int (-1), .int 0, .int 0, .int 0]))) (N0 + 188) (.inl (cI, 20, .inl (upd (fun _ => 0) 0 0)))) n [.inl (cI, 0, .inl (fun _ => 0)), .inl (cI, 0, .inl (fun _ => 0)), .inl (cII, 1, .inr (.inr (.inr (.inr (fun j => if j < 1 then some ((n + 3) + j) else none))))), .inl (cI, 1, .inl (fun _ => 0))]) (n + 4) H locs := hG.weak (fun a e h => by
    rcases fblk_cases 4 rfl h with ⟨k, rfl, hlt, hk⟩ | ⟨hout, h⟩
    · rcases (show k = 0 ∨ k = 1 ∨ k = 2 ∨ k = 3 by omega) with rfl | rfl | rfl | rfl
      · cases (show some (.inl (cI, 0, .inl (fun _ => 0))) = some e from hk); exact (fblk_at 0 (by omega) rfl)
      · cases (show some (.inl (cI, 0, .inl (fun _ => 0))) = some e from hk); exact (fblk_at 1 (by omega) rfl)
      · cases (show some (.inl (cII, 1, .inr (.inr (.inr (.inr (fun j => if j < 1 then some ((n + 3) + j) else none)))))) = some e from hk); exact (fblk_at 2 (by omega) rfl)
      · cases (show some (.inl (cI, 1, .inl (fun _ => 0))) = some e from hk); exact (fblk_at 3 (by omega) rfl)
    · rcases fu_cases h with ⟨rfl, he⟩ | ⟨hne0, h⟩
      · cases he; exact (fblk_sk 4 rfl (by omega) fu_s)
      · skip
        rcases fu_cases h with ⟨rfl, he⟩ | ⟨hne1, h⟩
        · cases he; exact (fblk_sk 4 rfl (by omega) (fu_at (by omega) fu_s))
        · exact (fblk_sk 4 rfl (by omega) (fu_at (by omega) (fu_at (by omega) h))))
  exact fx_iret S hr hlocks () hG (rfl) dX10_distance_29
theorem k1269_X1_restCost {n : Nat} (hn : N0 + 231 ≤ n) (h0 : F (N0 + 13) = some (.inr (3, [.ref (N0 + 14), .ref (N0 + 35), .ref (N0 + 57), .ref (N0 + 58), .ref (N0 + 59), .ref (N0 + 60), .int 0, .int 0, .ref (N0 + 61), .ref (N0 + 62)]))) : Met l yX1_restCost wsX1_restCost ({ frames := 0, cells := 0, slots := 0, locals := 0 }) (va_Pc [.ref (N0 + 13), .ref (N0 + 157), .ref (N0 + 150), .int 0, .int 0] (fP N0 D vwCl (fty cI cC cL cD cII cTr cTm cIt cB) (fen ql) F n)) (fQi N0 D vwCl (fty cI cC cL cD cII cTr cTm cIt cB) (fun (r : Int32) (_ : Unit) => r = 0) (fun _ => F) (fun _ => n)) 0 0 (fA N0) := by
  refine fx_start 6 rfl rfl (Nat.le_of_ble_eq_true rfl) ?_ rfl
  intro p e s m below meth c ls S hr hlocks hin hG hl
  have hl : lv_has ls 6 [(0, .ref (N0 + 13)), (1, .ref (N0 + 157)), (2, .ref (N0 + 150)), (3, .int 0), (4, .int 0)] := hl
  have lt_h0 := hG.1.lt h0
  refine lv_iload_n S.1 S.2.1 dX1_restCost_0 rfl (lv_at hl 3 rfl) ?_
  refine lv_aload_n S.1 S.2.1 dX1_restCost_1 rfl (lv_at hl 0 rfl) ?_
  refine gx_get (C := RX1) (T := TX1) (N := 10) S hG h0 i_X1_restCost_X1 rfl 6 (by decide) (by decide +kernel) rfl dX1_restCost_2 ?_
  refine lv_icmp_ne (tgt := 29) S.1 S.2.1 dX1_restCost_5 (by decide) (fun c => absurd (by decide) c) (fun _ => ?_)
  refine lv_iload S.1 S.2.1 dX1_restCost_8 (lv_at hl 4 rfl) ?_
  refine lv_aload_n S.1 S.2.1 dX1_restCost_10 rfl (lv_at hl 0 rfl) ?_
  refine gx_get (C := RX1) (T := TX1) (N := 10) S hG h0 i_X1_restCost_X1 rfl 7 (by decide) (by decide +kernel) rfl dX1_restCost_11 ?_
  refine lv_icmp_ne (tgt := 21) S.1 S.2.1 dX1_restCost_14 (by decide) (fun c => absurd (by decide) c) (fun _ => ?_)
  refine lv_iconst (v := 0) S.1 S.2.1 dX1_restCost_17 (by decide) ?_
  refine lv_goto (tgt := 28) S.1 S.2.1 dX1_restCost_18 (by decide) ?_
  exact fx_iret S hr hlocks () hG (rfl) dX1_restCost_28
theorem k1270_X1_fillRestCosts {n : Nat} (hn : N0 + 231 ≤ n) (h0 : F (N0 + 13) = some (.inr (3, [.ref (N0 + 14), .ref (N0 + 35), .ref (N0 + 57), .ref (N0 + 58), .ref (N0 + 59), .ref (N0 + 60), .int 0, .int 0, .ref (N0 + 61), .ref (N0 + 62)]))) (h1 : F (N0 + 35) = some (.inl (cII, 21, .inr (.inr (.inr (.inr (fun j => if j < 21 then some ((N0 + 36) + j) else none))))))) (h2 : F (N0 + 36) = some (.inl (cI, 21, .inl (fun _ => 0)))) : Met l yX1_fillRestCosts wsX1_fillRestCosts ({ frames := 1, cells := 0, slots := 0, locals := 25 }) (va_Pc [.ref (N0 + 13), .ref (N0 + 157), .ref (N0 + 150)] (fP N0 D vwCl (fty cI cC cL cD cII cTr cTm cIt cB) (fen ql) F n)) (fQv N0 D vwCl (fty cI cC cL cD cII cTr cTm cIt cB) (fun (_ : Unit) => True) (fun _ => (fu F (N0 + 36) (.inl (cI, 21, .inl (upd (fun _ => 0) 0 0))))) (fun _ => n)) 0 0 (fA N0) := by
  refine fx_start 5 rfl rfl (Nat.le_of_ble_eq_true rfl) ?_ rfl
  intro p e s m below meth c ls S hr hlocks hin hG hl
  have hl : lv_has ls 5 [(0, .ref (N0 + 13)), (1, .ref (N0 + 157)), (2, .ref (N0 + 150))] := hl
  have lt_h0 := hG.1.lt h0
  have lt_h1 := hG.1.lt h1
  have lt_h2 := hG.1.lt h2
  refine lv_aload_n S.1 S.2.1 dX1_fillRestCosts_0 rfl (lv_at hl 0 rfl) ?_
  refine gx_get (C := RX1) (T := TX1) (N := 10) S hG h0 i_X1_fillRestCosts_X1 rfl 6 (by decide) (by decide +kernel) rfl dX1_fillRestCosts_1 ?_
  refine lv_istore_n (lv' := [(3, .int 0), (0, .ref (N0 + 13)), (1, .ref (N0 + 157)), (2, .ref (N0 + 150))]) S.1 S.2.1 dX1_fillRestCosts_4 rfl hl (by decide) rfl (fun ls hl => ?_)
  refine lv_iload_n S.1 S.2.1 dX1_fillRestCosts_5 rfl (lv_at hl 0 rfl) ?_
  refine lv_if_lt (tgt := 50) S.1 S.2.1 dX1_fillRestCosts_6 (by decide) (fun c => absurd c (by decide)) (fun _ => ?_)
  refine lv_aload_n S.1 S.2.1 dX1_fillRestCosts_9 rfl (lv_at hl 1 rfl) ?_
  refine gx_get (C := RX1) (T := TX1) (N := 10) S hG h0 i_X1_fillRestCosts_X1 rfl 7 (by decide) (by decide +kernel) rfl dX1_fillRestCosts_10 ?_
  refine lv_istore (lv' := [(4, .int 0), (3, .int 0), (0, .ref (N0 + 13)), (1, .ref (N0 + 157)), (2, .ref (N0 + 150))]) S.1 S.2.1 dX1_fillRestCosts_13 hl (by decide) rfl (fun ls hl => ?_)
  refine lv_iload S.1 S.2.1 dX1_fillRestCosts_15 (lv_at hl 0 rfl) ?_
  refine lv_if_lt (tgt := 44) S.1 S.2.1 dX1_fillRestCosts_17 (by decide) (fun c => absurd c (by decide)) (fun _ => ?_)
  refine lv_aload_n S.1 S.2.1 dX1_fillRestCosts_20 rfl (lv_at hl 2 rfl) ?_
  refine gx_get (C := RX1) (T := TX1) (N := 10) S hG h0 i_X1_fillRestCosts_X1 rfl 1 (by decide) (by decide +kernel) rfl dX1_fillRestCosts_21 ?_
  refine lv_iload_n S.1 S.2.1 dX1_fillRestCosts_24 rfl (lv_at hl 1 rfl) ?_
  refine gx_aldq (x := (N0 + 36)) S hG 4 rfl h1 rfl (fin_l (by decide)) (rfl) dX1_fillRestCosts_25 ?_
  refine lv_iload S.1 S.2.1 dX1_fillRestCosts_26 (lv_at hl 0 rfl) ?_
  refine lv_aload_n S.1 S.2.1 dX1_fillRestCosts_28 rfl (lv_at hl 2 rfl) ?_
  refine lv_aload_n S.1 S.2.1 dX1_fillRestCosts_29 rfl (lv_at hl 3 rfl) ?_
  refine lv_aload_n S.1 S.2.1 dX1_fillRestCosts_30 rfl (lv_at hl 4 rfl) ?_
  refine lv_iload_n S.1 S.2.1 dX1_fillRestCosts_31 rfl (lv_at hl 1 rfl) ?_
  refine lv_iload S.1 S.2.1 dX1_fillRestCosts_32 (lv_at hl 0 rfl) ?_
  refine fx_cVi (As := [.ref (N0 + 157), .ref (N0 + 150), .int 0, .int 0]) (rest := [.int 0, .ref (N0 + 36)]) S hG (k1269_X1_restCost (by omega) h0) h0 rfl (cwV 4 S.2.2.2.2 gX1_fillRestCosts_X1_restCost rfl rfl rfl (by decide +kernel) ⟨Nat.le_of_ble_eq_true rfl, Nat.le_of_ble_eq_true rfl⟩) rfl hl.1 rfl (Nat.le_of_ble_eq_true rfl) dX1_fillRestCosts_34 ⟨Nat.le_of_ble_eq_true rfl, Nat.le_of_ble_eq_true rfl⟩ (fun rv_1 _ H locs hp hG => ?_)
  subst rv_1
  refine gx_iast (f' := upd (fun _ => 0) 0 0) S hG 0 h2 rfl (fin_l (by decide)) dX1_fillRestCosts_37 (rfl) (fun H locs hG => ?_)
  refine lv_iinc (v := (-1)) (lv' := [(4, .int (-1)), (3, .int 0), (0, .ref (N0 + 13)), (1, .ref (N0 + 157)), (2, .ref (N0 + 150))]) S.1 S.2.1 dX1_fillRestCosts_38 hl (k := 0) rfl (by decide) (by decide) rfl (fun ls hl => ?_)
  refine lv_goto (tgt := 15) S.1 S.2.1 dX1_fillRestCosts_41 (by decide) ?_
  refine lv_iload S.1 S.2.1 dX1_fillRestCosts_15 (lv_at hl 0 rfl) ?_
  refine lv_if_lt (tgt := 44) S.1 S.2.1 dX1_fillRestCosts_17 (by decide) (fun _ => ?_) (fun c => absurd (by decide) c)
  refine lv_iinc (v := (-1)) (lv' := [(3, .int (-1)), (4, .int (-1)), (0, .ref (N0 + 13)), (1, .ref (N0 + 157)), (2, .ref (N0 + 150))]) S.1 S.2.1 dX1_fillRestCosts_44 hl (k := 1) rfl (by decide) (by decide) rfl (fun ls hl => ?_)
  refine lv_goto (tgt := 5) S.1 S.2.1 dX1_fillRestCosts_47 (by decide) ?_
  refine lv_iload_n S.1 S.2.1 dX1_fillRestCosts_5 rfl (lv_at hl 0 rfl) ?_
  refine lv_if_lt (tgt := 50) S.1 S.2.1 dX1_fillRestCosts_6 (by decide) (fun _ => ?_) (fun c => absurd (by decide) c)
  exact fx_vret S hr hlocks () hG trivial dX1_fillRestCosts_50
theorem k1271_X7_changeCost {n : Nat} (hn : N0 + 231 ≤ n) (h0 : F (N0 + 157) = some (.inr (7, [.ref (N0 + 158), .ref (N0 + 159), .ref (N0 + 160), .ref (N0 + 161), .ref (N0 + 162), .ref (N0 + 163), .int 1]))) (h1 : F (N0 + 158) = some (.inl (cC, 20, .inl (upd (fun _ => 0) 0 97)))) (h2 : F (N0 + 150) = some (.inr (7, [.ref (N0 + 151), .ref (N0 + 152), .ref (N0 + 153), .ref (N0 + 154), .ref (N0 + 155), .ref (N0 + 156), .int 1]))) (h3 : F (N0 + 151) = some (.inl (cC, 20, .inl (upd (fun _ => 0) 0 97)))) (h4 : F (N0 + 160) = some (.inl (cI, 20, .inl (fun _ => 0)))) (h5 : F (N0 + 153) = some (.inl (cI, 20, .inl (fun _ => 0)))) : Met l yX7_changeCost wsX7_changeCost ({ frames := 0, cells := 0, slots := 0, locals := 0 }) (va_Pc [.ref (N0 + 157), .int 0, .ref (N0 + 150), .int 0] (fP N0 D vwCl (fty cI cC cL cD cII cTr cTm cIt cB) (fen ql) F n)) (fQi N0 D vwCl (fty cI cC cL cD cII cTr cTm cIt cB) (fun (r : Int32) (_ : Unit) => r = 0) (fun _ => F) (fun _ => n)) 0 0 (fA N0) := by
  refine fx_start 5 rfl rfl (Nat.le_of_ble_eq_true rfl) ?_ rfl
  intro p e s m below meth c ls S hr hlocks hin hG hl
  have hl : lv_has ls 5 [(0, .ref (N0 + 157)), (1, .int 0), (2, .ref (N0 + 150)), (3, .int 0)] := hl
  have lt_h0 := hG.1.lt h0
  have lt_h1 := hG.1.lt h1
  have lt_h2 := hG.1.lt h2
  have lt_h3 := hG.1.lt h3
  have lt_h4 := hG.1.lt h4
  have lt_h5 := hG.1.lt h5
  refine lv_iconst (v := 0) S.1 S.2.1 dX7_changeCost_0 (by decide) ?_
  refine lv_istore (lv' := [(4, .int 0), (0, .ref (N0 + 157)), (1, .int 0), (2, .ref (N0 + 150)), (3, .int 0)]) S.1 S.2.1 dX7_changeCost_1 hl (by decide) rfl (fun ls hl => ?_)
  refine lv_aload_n S.1 S.2.1 dX7_changeCost_3 rfl (lv_at hl 1 rfl) ?_
  refine gx_get (C := RX5) (T := TX5) (N := 7) S hG h0 i_X7_changeCost_X5 rfl 0 (by decide) (by decide +kernel) rfl dX7_changeCost_4 ?_
  refine lv_iload_n S.1 S.2.1 dX7_changeCost_7 rfl (lv_at hl 2 rfl) ?_
  refine gx_cald (v := 97) S hG 1 h1 rfl (fin_l (by decide)) (by decide) dX7_changeCost_8 ?_
  refine lv_aload_n S.1 S.2.1 dX7_changeCost_9 rfl (lv_at hl 3 rfl) ?_
  refine gx_get (C := RX5) (T := TX5) (N := 7) S hG h2 i_X7_changeCost_X5 rfl 0 (by decide) (by decide +kernel) rfl dX7_changeCost_10 ?_
  refine lv_iload_n S.1 S.2.1 dX7_changeCost_13 rfl (lv_at hl 4 rfl) ?_
  refine gx_cald (v := 97) S hG 1 h3 rfl (fin_l (by decide)) (by decide) dX7_changeCost_14 ?_
  refine lv_icmp_eq (tgt := 21) S.1 S.2.1 dX7_changeCost_15 (by decide) (fun _ => ?_) (fun c => absurd (by decide) c)
  refine lv_aload_n S.1 S.2.1 dX7_changeCost_21 rfl (lv_at hl 1 rfl) ?_
  refine gx_get (C := RX5) (T := TX5) (N := 7) S hG h0 i_X7_changeCost_X5 rfl 2 (by decide) (by decide +kernel) rfl dX7_changeCost_22 ?_
  refine lv_iload_n S.1 S.2.1 dX7_changeCost_25 rfl (lv_at hl 2 rfl) ?_
  refine gx_iald (v := 0) S hG 0 h4 rfl (fin_l (by decide)) (by decide) dX7_changeCost_26 ?_
  refine lv_aload_n S.1 S.2.1 dX7_changeCost_27 rfl (lv_at hl 3 rfl) ?_
  refine gx_get (C := RX5) (T := TX5) (N := 7) S hG h2 i_X7_changeCost_X5 rfl 2 (by decide) (by decide +kernel) rfl dX7_changeCost_28 ?_
  refine lv_iload_n S.1 S.2.1 dX7_changeCost_31 rfl (lv_at hl 4 rfl) ?_
  refine gx_iald (v := 0) S hG 0 h5 rfl (fin_l (by decide)) (by decide) dX7_changeCost_32 ?_
  refine lv_icmp_eq (tgt := 39) S.1 S.2.1 dX7_changeCost_33 (by decide) (fun _ => ?_) (fun c => absurd (by decide) c)
  refine lv_iload S.1 S.2.1 dX7_changeCost_39 (lv_at hl 0 rfl) ?_
  exact fx_iret S hr hlocks () hG (rfl) dX7_changeCost_41
set_option maxHeartbeats 16000000 in
theorem k1272_X1_leastCost {n : Nat} (hn : N0 + 231 ≤ n) (h0 : F (N0 + 13) = some (.inr (3, [.ref (N0 + 14), .ref (N0 + 35), .ref (N0 + 57), .ref (N0 + 58), .ref (N0 + 59), .ref (N0 + 60), .int 0, .int 0, .ref (N0 + 61), .ref (N0 + 62)]))) (h1 : F (N0 + 157) = some (.inr (7, [.ref (N0 + 158), .ref (N0 + 159), .ref (N0 + 160), .ref (N0 + 161), .ref (N0 + 162), .ref (N0 + 163), .int 1]))) (h2 : F (N0 + 57) = some (.inl (cI, 20, .inl (fun _ => 0)))) (h3 : F (N0 + 150) = some (.inr (7, [.ref (N0 + 151), .ref (N0 + 152), .ref (N0 + 153), .ref (N0 + 154), .ref (N0 + 155), .ref (N0 + 156), .int 1]))) (h4 : F (N0 + 58) = some (.inl (cI, 20, .inl (fun _ => 0)))) (h5 : F (N0 + 35) = some (.inl (cII, 21, .inr (.inr (.inr (.inr (fun j => if j < 21 then some ((N0 + 36) + j) else none))))))) (h6 : F (N0 + 36) = some (.inl (cI, 21, .inl (fun _ => 0)))) (h7 : F (N0 + 14) = some (.inl (cII, 20, .inr (.inr (.inr (.inr (fun j => if j < 20 then some ((N0 + 15) + j) else none))))))) (h8 : F (N0 + 158) = some (.inl (cC, 20, .inl (upd (fun _ => 0) 0 97)))) (h9 : F (N0 + 151) = some (.inl (cC, 20, .inl (upd (fun _ => 0) 0 97)))) (h10 : F (N0 + 160) = some (.inl (cI, 20, .inl (fun _ => 0)))) (h11 : F (N0 + 153) = some (.inl (cI, 20, .inl (fun _ => 0)))) (h12 : F (N0 + 15) = some (.inl (cI, 20, .inl (fun _ => 0)))) : Met l yX1_leastCost wsX1_leastCost ({ frames := 2, cells := 0, slots := 0, locals := 49 }) (va_Pc [.ref (N0 + 13), .ref (N0 + 157), .ref (N0 + 150)] (fP N0 D vwCl (fty cI cC cL cD cII cTr cTm cIt cB) (fen ql) F n)) (fQi N0 D vwCl (fty cI cC cL cD cII cTr cTm cIt cB) (fun (r : Int32) (_ : Unit) => r = 0) (fun _ => (fu (fu (fu (fu (fu F (N0 + 57) (.inl (cI, 20, .inl (upd (fun _ => 0) 0 1)))) (N0 + 58) (.inl (cI, 20, .inl (upd (fun _ => 0) 0 1)))) (N0 + 13) (.inr (3, [.ref (N0 + 14), .ref (N0 + 35), .ref (N0 + 57), .ref (N0 + 58), .ref (N0 + 59), .ref (N0 + 60), .int 0, .int 0, .ref (N0 + 61), .ref (N0 + 62)]))) (N0 + 36) (.inl (cI, 21, .inl (upd (fun _ => 0) 0 0)))) (N0 + 15) (.inl (cI, 20, .inl (upd (fun _ => 0) 0 0))))) (fun _ => n)) 0 0 (fA N0) := by
  refine fx_start 5 rfl rfl (Nat.le_of_ble_eq_true rfl) ?_ rfl
  intro p e s m below meth c ls S hr hlocks hin hG hl
  have hl : lv_has ls 5 [(0, .ref (N0 + 13)), (1, .ref (N0 + 157)), (2, .ref (N0 + 150))] := hl
  have lt_h0 := hG.1.lt h0
  have lt_h1 := hG.1.lt h1
  have lt_h2 := hG.1.lt h2
  have lt_h3 := hG.1.lt h3
  have lt_h4 := hG.1.lt h4
  have lt_h5 := hG.1.lt h5
  have lt_h6 := hG.1.lt h6
  have lt_h7 := hG.1.lt h7
  have lt_h8 := hG.1.lt h8
  have lt_h9 := hG.1.lt h9
  have lt_h10 := hG.1.lt h10
  have lt_h11 := hG.1.lt h11
  have lt_h12 := hG.1.lt h12
  refine lv_aload_n S.1 S.2.1 dX1_leastCost_0 rfl (lv_at hl 1 rfl) ?_
  refine lv_aload_n S.1 S.2.1 dX1_leastCost_1 rfl (lv_at hl 0 rfl) ?_
  refine gx_get (C := RX1) (T := TX1) (N := 10) S hG h0 i_X1_leastCost_X1 rfl 2 (by decide) (by decide +kernel) rfl dX1_leastCost_2 ?_
  refine fx_cVv (As := [.ref (N0 + 57)]) (rest := []) S hG (k1258_X5_listWidths (by omega) h1 h2) h1 rfl (cwV 1 S.2.2.2.2 gX1_leastCost_X5_listWidths rfl rfl rfl (by decide +kernel) ⟨Nat.le_of_ble_eq_true rfl, Nat.le_of_ble_eq_true rfl⟩) rfl hl.1 rfl (Nat.le_of_ble_eq_true rfl) dX1_leastCost_5 ⟨Nat.le_of_ble_eq_true rfl, Nat.le_of_ble_eq_true rfl⟩ (fun _ H locs hp hG => ?_)
  refine lv_aload_n S.1 S.2.1 dX1_leastCost_8 rfl (lv_at hl 2 rfl) ?_
  refine lv_aload_n S.1 S.2.1 dX1_leastCost_9 rfl (lv_at hl 0 rfl) ?_
  refine gx_get (C := RX1) (T := TX1) (N := 10) S hG (fu_at (by omega) h0) i_X1_leastCost_X1 rfl 3 (by decide) (by decide +kernel) rfl dX1_leastCost_10 ?_
  refine fx_cVv (As := [.ref (N0 + 58)]) (rest := []) S hG (k1195_X5_listWidths (by omega) (fu_at (by omega) h3) (fu_at (by omega) h4)) (fu_at (by omega) h3) rfl (cwV 1 S.2.2.2.2 gX1_leastCost_X5_listWidths rfl rfl rfl (by decide +kernel) ⟨Nat.le_of_ble_eq_true rfl, Nat.le_of_ble_eq_true rfl⟩) rfl hl.1 rfl (Nat.le_of_ble_eq_true rfl) dX1_leastCost_13 ⟨Nat.le_of_ble_eq_true rfl, Nat.le_of_ble_eq_true rfl⟩ (fun _ H locs hp hG => ?_)
  refine lv_aload_n S.1 S.2.1 dX1_leastCost_16 rfl (lv_at hl 1 rfl) ?_
  refine gx_get (C := RX5) (T := TX5) (N := 7) S hG (fu_at (by omega) (fu_at (by omega) h1)) i_X1_leastCost_X5 rfl 6 (by decide) (by decide +kernel) rfl dX1_leastCost_17 ?_
  refine lv_iconst (v := 1) S.1 S.2.1 dX1_leastCost_20 (by decide) ?_
  refine lv_isub S.1 S.2.1 dX1_leastCost_21 ?_
  refine fx_topi (y := 0) (by decide) ?_
  refine lv_istore_n (lv' := [(3, .int 0), (0, .ref (N0 + 13)), (1, .ref (N0 + 157)), (2, .ref (N0 + 150))]) S.1 S.2.1 dX1_leastCost_22 rfl hl (by decide) rfl (fun ls hl => ?_)
  refine lv_iload_n S.1 S.2.1 dX1_leastCost_23 rfl (lv_at hl 0 rfl) ?_
  refine lv_if_lt (tgt := 111) S.1 S.2.1 dX1_leastCost_24 (by decide) (fun c => absurd c (by decide)) (fun _ => ?_)
  refine lv_aload_n S.1 S.2.1 dX1_leastCost_27 rfl (lv_at hl 1 rfl) ?_
  refine lv_aload_n S.1 S.2.1 dX1_leastCost_28 rfl (lv_at hl 2 rfl) ?_
  refine lv_iload_n S.1 S.2.1 dX1_leastCost_29 rfl (lv_at hl 0 rfl) ?_
  refine lv_aload_n S.1 S.2.1 dX1_leastCost_30 rfl (lv_at hl 1 rfl) ?_
  refine gx_get (C := RX1) (T := TX1) (N := 10) S hG (fu_at (by omega) (fu_at (by omega) h0)) i_X1_leastCost_X1 rfl 4 (by decide) (by decide +kernel) rfl dX1_leastCost_31 ?_
  refine fx_cVi (As := [.int 0, .ref (N0 + 59)]) (rest := [.ref (N0 + 13)]) S hG (k1259_X5_listChildren (by omega) (fu_at (by omega) (fu_at (by omega) h1))) (fu_at (by omega) (fu_at (by omega) h1)) rfl (cwV 2 S.2.2.2.2 gX1_leastCost_X5_listChildren rfl rfl rfl (by decide +kernel) ⟨Nat.le_of_ble_eq_true rfl, Nat.le_of_ble_eq_true rfl⟩) rfl hl.1 rfl (Nat.le_of_ble_eq_true rfl) dX1_leastCost_34 ⟨Nat.le_of_ble_eq_true rfl, Nat.le_of_ble_eq_true rfl⟩ (fun rv_3 _ H locs hp hG => ?_)
  subst rv_3
  refine gx_put (C := RX1) (T := TX1) (N := 10) (ty := .int) (v := .int 0) (fs' := [.ref (N0 + 14), .ref (N0 + 35), .ref (N0 + 57), .ref (N0 + 58), .ref (N0 + 59), .ref (N0 + 60), .int 0, .int 0, .ref (N0 + 61), .ref (N0 + 62)]) S hG (fu_at (by omega) (fu_at (by omega) h0)) i_X1_leastCost_X1 rfl 6 (by decide) tyX1 tyX1_ok nmX1 (by decide +kernel) rfl (by decide +kernel) rfl rfl (Nat.le_of_ble_eq_true rfl) rfl dX1_leastCost_37 (fun H locs hG => ?_)
  refine lv_aload_n S.1 S.2.1 dX1_leastCost_40 rfl (lv_at hl 3 rfl) ?_
  refine gx_get (C := RX5) (T := TX5) (N := 7) S hG (fu_at (by omega) (fu_at (by omega) (fu_at (by omega) h3))) i_X1_leastCost_X5 rfl 6 (by decide) (by decide +kernel) rfl dX1_leastCost_41 ?_
  refine lv_iconst (v := 1) S.1 S.2.1 dX1_leastCost_44 (by decide) ?_
  refine lv_isub S.1 S.2.1 dX1_leastCost_45 ?_
  refine fx_topi (y := 0) (by decide) ?_
  refine lv_istore (lv' := [(4, .int 0), (3, .int 0), (0, .ref (N0 + 13)), (1, .ref (N0 + 157)), (2, .ref (N0 + 150))]) S.1 S.2.1 dX1_leastCost_46 hl (by decide) rfl (fun ls hl => ?_)
  refine lv_iload S.1 S.2.1 dX1_leastCost_48 (lv_at hl 0 rfl) ?_
  refine lv_if_lt (tgt := 105) S.1 S.2.1 dX1_leastCost_50 (by decide) (fun c => absurd c (by decide)) (fun _ => ?_)
  refine lv_aload_n S.1 S.2.1 dX1_leastCost_53 rfl (lv_at hl 2 rfl) ?_
  refine lv_aload_n S.1 S.2.1 dX1_leastCost_54 rfl (lv_at hl 4 rfl) ?_
  refine lv_iload S.1 S.2.1 dX1_leastCost_55 (lv_at hl 0 rfl) ?_
  refine lv_aload_n S.1 S.2.1 dX1_leastCost_57 rfl (lv_at hl 2 rfl) ?_
  refine gx_get (C := RX1) (T := TX1) (N := 10) S hG fu_s i_X1_leastCost_X1 rfl 5 (by decide) (by decide +kernel) rfl dX1_leastCost_58 ?_
  refine fx_cVi (As := [.int 0, .ref (N0 + 60)]) (rest := [.ref (N0 + 13)]) S hG (k1196_X5_listChildren (by omega) (fu_at (by omega) (fu_at (by omega) (fu_at (by omega) h3)))) (fu_at (by omega) (fu_at (by omega) (fu_at (by omega) h3))) rfl (cwV 2 S.2.2.2.2 gX1_leastCost_X5_listChildren rfl rfl rfl (by decide +kernel) ⟨Nat.le_of_ble_eq_true rfl, Nat.le_of_ble_eq_true rfl⟩) rfl hl.1 rfl (Nat.le_of_ble_eq_true rfl) dX1_leastCost_61 ⟨Nat.le_of_ble_eq_true rfl, Nat.le_of_ble_eq_true rfl⟩ (fun rv_4 _ H locs hp hG => ?_)
  subst rv_4
  refine gx_put (C := RX1) (T := TX1) (N := 10) (ty := .int) (v := .int 0) (fs' := [.ref (N0 + 14), .ref (N0 + 35), .ref (N0 + 57), .ref (N0 + 58), .ref (N0 + 59), .ref (N0 + 60), .int 0, .int 0, .ref (N0 + 61), .ref (N0 + 62)]) S hG fu_s i_X1_leastCost_X1 rfl 7 (by decide) tyX1 tyX1_ok nmX1 (by decide +kernel) rfl (by decide +kernel) rfl rfl (Nat.le_of_ble_eq_true rfl) rfl dX1_leastCost_64 (fun H locs hG => ?_)
  refine lv_aload_n S.1 S.2.1 dX1_leastCost_67 rfl (lv_at hl 2 rfl) ?_
  refine lv_aload_n S.1 S.2.1 dX1_leastCost_68 rfl (lv_at hl 3 rfl) ?_
  refine lv_aload_n S.1 S.2.1 dX1_leastCost_69 rfl (lv_at hl 4 rfl) ?_
  refine fx_cVv (As := [.ref (N0 + 157), .ref (N0 + 150)]) (rest := []) S hG (k1270_X1_fillRestCosts (by omega) fu_s (fu_at (by omega) (fu_at (by omega) (fu_at (by omega) (fu_at (by omega) h5)))) (fu_at (by omega) (fu_at (by omega) (fu_at (by omega) (fu_at (by omega) h6))))) fu_s rfl (cwV 2 S.2.2.2.2 gX1_leastCost_X1_fillRestCosts rfl rfl rfl (by decide +kernel) ⟨Nat.le_of_ble_eq_true rfl, Nat.le_of_ble_eq_true rfl⟩) rfl hl.1 rfl (Nat.le_of_ble_eq_true rfl) dX1_leastCost_70 ⟨Nat.le_of_ble_eq_true rfl, Nat.le_of_ble_eq_true rfl⟩ (fun _ H locs hp hG => ?_)
  refine lv_aload_n S.1 S.2.1 dX1_leastCost_73 rfl (lv_at hl 2 rfl) ?_
  refine gx_get (C := RX1) (T := TX1) (N := 10) S hG (fu_at (by omega) fu_s) i_X1_leastCost_X1 rfl 0 (by decide) (by decide +kernel) rfl dX1_leastCost_74 ?_
  refine lv_iload_n S.1 S.2.1 dX1_leastCost_77 rfl (lv_at hl 1 rfl) ?_
  refine gx_aldq (x := (N0 + 15)) S hG 4 rfl (fu_at (by omega) (fu_at (by omega) (fu_at (by omega) (fu_at (by omega) (fu_at (by omega) h7))))) rfl (fin_l (by decide)) (rfl) dX1_leastCost_78 ?_
  refine lv_iload S.1 S.2.1 dX1_leastCost_79 (lv_at hl 0 rfl) ?_
  refine lv_aload_n S.1 S.2.1 dX1_leastCost_81 rfl (lv_at hl 3 rfl) ?_
  refine lv_iload_n S.1 S.2.1 dX1_leastCost_82 rfl (lv_at hl 1 rfl) ?_
  refine lv_aload_n S.1 S.2.1 dX1_leastCost_83 rfl (lv_at hl 4 rfl) ?_
  refine lv_iload S.1 S.2.1 dX1_leastCost_84 (lv_at hl 0 rfl) ?_
  refine fx_cSNi (host := "TreeDiffer") (As := [.ref (N0 + 157), .int 0, .ref (N0 + 150), .int 0]) (rest := [.int 0, .ref (N0 + 15)]) S hG (k1271_X7_changeCost (by omega) (fu_at (by omega) (fu_at (by omega) (fu_at (by omega) (fu_at (by omega) (fu_at (by omega) h1))))) (fu_at (by omega) (fu_at (by omega) (fu_at (by omega) (fu_at (by omega) (fu_at (by omega) h8))))) (fu_at (by omega) (fu_at (by omega) (fu_at (by omega) (fu_at (by omega) (fu_at (by omega) h3))))) (fu_at (by omega) (fu_at (by omega) (fu_at (by omega) (fu_at (by omega) (fu_at (by omega) h9))))) (fu_at (by omega) (fu_at (by omega) (fu_at (by omega) (fu_at (by omega) (fu_at (by omega) h10))))) (fu_at (by omega) (fu_at (by omega) (fu_at (by omega) (fu_at (by omega) (fu_at (by omega) h11)))))) ⟨(va_cnB 4 S.2.2.2.2 gX1_leastCost_X7_changeCost_n62 rfl rfl rfl (hG.nest (show _ ∈ fen2.2.2.1 from by decide)) (S.2.2.2.2 (.initialized RX7) (by decide +kernel)) (by decide +kernel) ⟨Nat.le_of_ble_eq_true rfl, Nat.le_of_ble_eq_true rfl⟩), S.2.2.2.2 (.static yX7_changeCost) (by decide +kernel), trivial⟩ rfl hl.1 rfl (Nat.le_of_ble_eq_true rfl) dX1_leastCost_86 ⟨Nat.le_of_ble_eq_true rfl, Nat.le_of_ble_eq_true rfl⟩ (fun rv_6 _ H locs hp hG => ?_)
  subst rv_6
  refine lv_aload_n S.1 S.2.1 dX1_leastCost_89 rfl (lv_at hl 2 rfl) ?_
  refine gx_get (C := RX1) (T := TX1) (N := 10) S hG (fu_at (by omega) fu_s) i_X1_leastCost_X1 rfl 1 (by decide) (by decide +kernel) rfl dX1_leastCost_90 ?_
  refine lv_iconst (v := 0) S.1 S.2.1 dX1_leastCost_93 (by decide) ?_
  refine gx_aldq (x := (N0 + 36)) S hG 4 rfl (fu_at (by omega) (fu_at (by omega) (fu_at (by omega) (fu_at (by omega) (fu_at (by omega) h5))))) rfl (fin_l (by decide)) (rfl) dX1_leastCost_94 ?_
  refine lv_iconst (v := 0) S.1 S.2.1 dX1_leastCost_95 (by decide) ?_
  refine gx_iald (v := 0) S hG 0 fu_s rfl (fin_l (by decide)) (by decide) dX1_leastCost_96 ?_
  refine lv_iadd S.1 S.2.1 dX1_leastCost_97 ?_
  refine fx_topi (y := 0) (by decide) ?_
  refine gx_iast (f' := upd (fun _ => 0) 0 0) S hG 0 (fu_at (by omega) (fu_at (by omega) (fu_at (by omega) (fu_at (by omega) (fu_at (by omega) h12))))) rfl (fin_l (by decide)) dX1_leastCost_98 (rfl) (fun H locs hG => ?_)
  refine lv_iinc (v := (-1)) (lv' := [(4, .int (-1)), (3, .int 0), (0, .ref (N0 + 13)), (1, .ref (N0 + 157)), (2, .ref (N0 + 150))]) S.1 S.2.1 dX1_leastCost_99 hl (k := 0) rfl (by decide) (by decide) rfl (fun ls hl => ?_)
  refine lv_goto (tgt := 48) S.1 S.2.1 dX1_leastCost_102 (by decide) ?_
  refine lv_iload S.1 S.2.1 dX1_leastCost_48 (lv_at hl 0 rfl) ?_
  refine lv_if_lt (tgt := 105) S.1 S.2.1 dX1_leastCost_50 (by decide) (fun _ => ?_) (fun c => absurd (by decide) c)
  refine lv_iinc (v := (-1)) (lv' := [(3, .int (-1)), (4, .int (-1)), (0, .ref (N0 + 13)), (1, .ref (N0 + 157)), (2, .ref (N0 + 150))]) S.1 S.2.1 dX1_leastCost_105 hl (k := 1) rfl (by decide) (by decide) rfl (fun ls hl => ?_)
  refine lv_goto (tgt := 23) S.1 S.2.1 dX1_leastCost_108 (by decide) ?_
  refine lv_iload_n S.1 S.2.1 dX1_leastCost_23 rfl (lv_at hl 0 rfl) ?_
  refine lv_if_lt (tgt := 111) S.1 S.2.1 dX1_leastCost_24 (by decide) (fun _ => ?_) (fun c => absurd (by decide) c)
  refine lv_aload_n S.1 S.2.1 dX1_leastCost_111 rfl (lv_at hl 2 rfl) ?_
  refine gx_get (C := RX1) (T := TX1) (N := 10) S hG (fu_at (by omega) (fu_at (by omega) fu_s)) i_X1_leastCost_X1 rfl 0 (by decide) (by decide +kernel) rfl dX1_leastCost_112 ?_
  refine lv_iconst (v := 0) S.1 S.2.1 dX1_leastCost_115 (by decide) ?_
  refine gx_aldq (x := (N0 + 15)) S hG 4 rfl (fu_at (by omega) (fu_at (by omega) (fu_at (by omega) (fu_at (by omega) (fu_at (by omega) (fu_at (by omega) h7)))))) rfl (fin_l (by decide)) (rfl) dX1_leastCost_116 ?_
  refine lv_iconst (v := 0) S.1 S.2.1 dX1_leastCost_117 (by decide) ?_
  refine gx_iald (v := 0) S hG 0 fu_s rfl (fin_l (by decide)) (by decide) dX1_leastCost_118 ?_
  have hG : fG N0 D vwCl (fty cI cC cL cD cII cTr cTm cIt cB) (fen ql) s (fu (fu (fu (fu (fu F (N0 + 57) (.inl (cI, 20, .inl (upd (fun _ => 0) 0 1)))) (N0 + 58) (.inl (cI, 20, .inl (upd (fun _ => 0) 0 1)))) (N0 + 13) (.inr (3, [.ref (N0 + 14), .ref (N0 + 35), .ref (N0 + 57), .ref (N0 + 58), .ref (N0 + 59), .ref (N0 + 60), .int 0, .int 0, .ref (N0 + 61), .ref (N0 + 62)]))) (N0 + 36) (.inl (cI, 21, .inl (upd (fun _ => 0) 0 0)))) (N0 + 15) (.inl (cI, 20, .inl (upd (fun _ => 0) 0 0)))) n H locs := hG.weak (fun a e h => by
    rcases fu_cases h with ⟨rfl, he⟩ | ⟨hne0, h⟩
    · cases he; exact fu_s
    · skip
      rcases fu_cases h with ⟨rfl, he⟩ | ⟨hne1, h⟩
      · cases he; exact (fu_at (by omega) fu_s)
      · skip
        rcases fu_cases h with ⟨rfl, he⟩ | ⟨hne2, h⟩
        · cases he; exact (fu_at (by omega) (fu_at (by omega) fu_s))
        · skip
          rcases fu_cases h with ⟨rfl, he⟩ | ⟨hne3, h⟩
          · cases he; exact (fu_at (by omega) (fu_at (by omega) (fu_at (by omega) (fu_at (by omega) fu_s))))
          · skip
            rcases fu_cases h with ⟨rfl, he⟩ | ⟨hne4, h⟩
            · cases he; exact (fu_at (by omega) (fu_at (by omega) (fu_at (by omega) (fu_at (by omega) (fu_at (by omega) fu_s)))))
            · exact (fu_at (by omega) (fu_at (by omega) (fu_at (by omega) (fu_at (by omega) (fu_at (by omega) (fu_at (by omega) h)))))))
  exact fx_iret S hr hlocks () hG (rfl) dX1_leastCost_119
theorem k1273_X7_distance {n : Nat} (hn : N0 + 231 ≤ n) (h0 : F N0 = some (.inr (9, [.ref (N0 + 1), .ref (N0 + 2), .ref (N0 + 11), .ref (N0 + 13), .ref (N0 + 63), .ref (N0 + 65), .ref (N0 + 85), .int (-1), .int (-1), .int 32]))) (h1 : F (N0 + 1) = some (.inl (cTr, 3, .inr (.inr (.inr (.inr (va_up (va_up (va_up (fun _ => none) 0 (some (N0 + 143))) 1 (some (N0 + 150))) 2 (some (N0 + 157))))))))) (h2 : F (N0 + 13) = some (.inr (3, [.ref (N0 + 14), .ref (N0 + 35), .ref (N0 + 57), .ref (N0 + 58), .ref (N0 + 59), .ref (N0 + 60), .int 0, .int 0, .ref (N0 + 61), .ref (N0 + 62)]))) (h3 : F (N0 + 157) = some (.inr (7, [.ref (N0 + 158), .ref (N0 + 159), .ref (N0 + 160), .ref (N0 + 161), .ref (N0 + 162), .ref (N0 + 163), .int 1]))) (h4 : F (N0 + 57) = some (.inl (cI, 20, .inl (fun _ => 0)))) (h5 : F (N0 + 150) = some (.inr (7, [.ref (N0 + 151), .ref (N0 + 152), .ref (N0 + 153), .ref (N0 + 154), .ref (N0 + 155), .ref (N0 + 156), .int 1]))) (h6 : F (N0 + 58) = some (.inl (cI, 20, .inl (fun _ => 0)))) (h7 : F (N0 + 35) = some (.inl (cII, 21, .inr (.inr (.inr (.inr (fun j => if j < 21 then some ((N0 + 36) + j) else none))))))) (h8 : F (N0 + 36) = some (.inl (cI, 21, .inl (fun _ => 0)))) (h9 : F (N0 + 14) = some (.inl (cII, 20, .inr (.inr (.inr (.inr (fun j => if j < 20 then some ((N0 + 15) + j) else none))))))) (h10 : F (N0 + 158) = some (.inl (cC, 20, .inl (upd (fun _ => 0) 0 97)))) (h11 : F (N0 + 151) = some (.inl (cC, 20, .inl (upd (fun _ => 0) 0 97)))) (h12 : F (N0 + 160) = some (.inl (cI, 20, .inl (fun _ => 0)))) (h13 : F (N0 + 153) = some (.inl (cI, 20, .inl (fun _ => 0)))) (h14 : F (N0 + 15) = some (.inl (cI, 20, .inl (fun _ => 0)))) : Met l yX7_distance wsX7_distance ({ frames := 3, cells := 0, slots := 0, locals := 73 }) (va_Pc [.ref N0, .int 2, .int 1] (fP N0 D vwCl (fty cI cC cL cD cII cTr cTm cIt cB) (fen ql) F n)) (fQi N0 D vwCl (fty cI cC cL cD cII cTr cTm cIt cB) (fun (r : Int32) (_ : Unit) => r = 0) (fun _ => (fu (fu (fu (fu (fu F (N0 + 57) (.inl (cI, 20, .inl (upd (fun _ => 0) 0 1)))) (N0 + 58) (.inl (cI, 20, .inl (upd (fun _ => 0) 0 1)))) (N0 + 13) (.inr (3, [.ref (N0 + 14), .ref (N0 + 35), .ref (N0 + 57), .ref (N0 + 58), .ref (N0 + 59), .ref (N0 + 60), .int 0, .int 0, .ref (N0 + 61), .ref (N0 + 62)]))) (N0 + 36) (.inl (cI, 21, .inl (upd (fun _ => 0) 0 0)))) (N0 + 15) (.inl (cI, 20, .inl (upd (fun _ => 0) 0 0))))) (fun _ => n)) 0 0 (fA N0) := by
  refine fx_start 5 rfl rfl (Nat.le_of_ble_eq_true rfl) ?_ rfl
  intro p e s m below meth c ls S hr hlocks hin hG hl
  have hl : lv_has ls 5 [(0, .ref N0), (1, .int 2), (2, .int 1)] := hl
  have lt_h0 := hG.1.lt h0
  have lt_h1 := hG.1.lt h1
  have lt_h2 := hG.1.lt h2
  have lt_h3 := hG.1.lt h3
  have lt_h4 := hG.1.lt h4
  have lt_h5 := hG.1.lt h5
  have lt_h6 := hG.1.lt h6
  have lt_h7 := hG.1.lt h7
  have lt_h8 := hG.1.lt h8
  have lt_h9 := hG.1.lt h9
  have lt_h10 := hG.1.lt h10
  have lt_h11 := hG.1.lt h11
  have lt_h12 := hG.1.lt h12
  have lt_h13 := hG.1.lt h13
  have lt_h14 := hG.1.lt h14
  refine lv_aload_n S.1 S.2.1 dX7_distance_0 rfl (lv_at hl 0 rfl) ?_
  refine lv_iload_n S.1 S.2.1 dX7_distance_1 rfl (lv_at hl 1 rfl) ?_
  refine fx_cVr (As := [.int 2]) (rest := []) S hG (k48_X7_treeAt (by omega) h0 h1) h0 rfl (cwV 1 S.2.2.2.2 gX7_distance_X7_treeAt rfl rfl rfl (by decide +kernel) ⟨Nat.le_of_ble_eq_true rfl, Nat.le_of_ble_eq_true rfl⟩) rfl hl.1 rfl (Nat.le_of_ble_eq_true rfl) dX7_distance_2 ⟨Nat.le_of_ble_eq_true rfl, Nat.le_of_ble_eq_true rfl⟩ (fun rv_1 _ H locs hp hG => ?_)
  subst rv_1
  refine lv_astore_n (lv' := [(3, .ref (N0 + 157)), (0, .ref N0), (1, .int 2), (2, .int 1)]) S.1 S.2.1 dX7_distance_5 rfl hl (by decide) rfl (fun ls hl => ?_)
  refine lv_aload_n S.1 S.2.1 dX7_distance_6 rfl (lv_at hl 1 rfl) ?_
  refine lv_iload_n S.1 S.2.1 dX7_distance_7 rfl (lv_at hl 3 rfl) ?_
  refine fx_cVr (As := [.int 1]) (rest := []) S hG (k42_X7_treeAt (by omega) h0 h1) h0 rfl (cwV 1 S.2.2.2.2 gX7_distance_X7_treeAt rfl rfl rfl (by decide +kernel) ⟨Nat.le_of_ble_eq_true rfl, Nat.le_of_ble_eq_true rfl⟩) rfl hl.1 rfl (Nat.le_of_ble_eq_true rfl) dX7_distance_8 ⟨Nat.le_of_ble_eq_true rfl, Nat.le_of_ble_eq_true rfl⟩ (fun rv_2 _ H locs hp hG => ?_)
  subst rv_2
  refine lv_astore (lv' := [(4, .ref (N0 + 150)), (3, .ref (N0 + 157)), (0, .ref N0), (1, .int 2), (2, .int 1)]) S.1 S.2.1 dX7_distance_11 hl (by decide) rfl (fun ls hl => ?_)
  refine lv_aload_n S.1 S.2.1 dX7_distance_13 rfl (lv_at hl 2 rfl) ?_
  refine gx_get (C := RX7) (T := TX7) (N := 10) S hG h0 i_X7_distance_X7 rfl 3 (by decide) (by decide +kernel) rfl dX7_distance_14 ?_
  refine lv_aload_n S.1 S.2.1 dX7_distance_17 rfl (lv_at hl 1 rfl) ?_
  refine lv_aload S.1 S.2.1 dX7_distance_18 (lv_at hl 0 rfl) ?_
  refine fx_cVi (As := [.ref (N0 + 157), .ref (N0 + 150)]) (rest := []) S hG (k1272_X1_leastCost (by omega) h2 h3 h4 h5 h6 h7 h8 h9 h10 h11 h12 h13 h14) h2 rfl (cwV 2 S.2.2.2.2 gX7_distance_X1_leastCost rfl rfl rfl (by decide +kernel) ⟨Nat.le_of_ble_eq_true rfl, Nat.le_of_ble_eq_true rfl⟩) rfl hl.1 rfl (Nat.le_of_ble_eq_true rfl) dX7_distance_20 ⟨Nat.le_of_ble_eq_true rfl, Nat.le_of_ble_eq_true rfl⟩ (fun rv_3 _ H locs hp hG => ?_)
  subst rv_3
  exact fx_iret S hr hlocks () hG (rfl) dX7_distance_23
theorem k1274_L_distance {n : Nat} (hn : N0 + 231 ≤ n) (h0 : F N0 = some (.inr (9, [.ref (N0 + 1), .ref (N0 + 2), .ref (N0 + 11), .ref (N0 + 13), .ref (N0 + 63), .ref (N0 + 65), .ref (N0 + 85), .int (-1), .int (-1), .int 32]))) (h1 : F (N0 + 1) = some (.inl (cTr, 3, .inr (.inr (.inr (.inr (va_up (va_up (va_up (fun _ => none) 0 (some (N0 + 143))) 1 (some (N0 + 150))) 2 (some (N0 + 157))))))))) (h2 : F (N0 + 13) = some (.inr (3, [.ref (N0 + 14), .ref (N0 + 35), .ref (N0 + 57), .ref (N0 + 58), .ref (N0 + 59), .ref (N0 + 60), .int 0, .int 0, .ref (N0 + 61), .ref (N0 + 62)]))) (h3 : F (N0 + 157) = some (.inr (7, [.ref (N0 + 158), .ref (N0 + 159), .ref (N0 + 160), .ref (N0 + 161), .ref (N0 + 162), .ref (N0 + 163), .int 1]))) (h4 : F (N0 + 57) = some (.inl (cI, 20, .inl (fun _ => 0)))) (h5 : F (N0 + 150) = some (.inr (7, [.ref (N0 + 151), .ref (N0 + 152), .ref (N0 + 153), .ref (N0 + 154), .ref (N0 + 155), .ref (N0 + 156), .int 1]))) (h6 : F (N0 + 58) = some (.inl (cI, 20, .inl (fun _ => 0)))) (h7 : F (N0 + 35) = some (.inl (cII, 21, .inr (.inr (.inr (.inr (fun j => if j < 21 then some ((N0 + 36) + j) else none))))))) (h8 : F (N0 + 36) = some (.inl (cI, 21, .inl (fun _ => 0)))) (h9 : F (N0 + 14) = some (.inl (cII, 20, .inr (.inr (.inr (.inr (fun j => if j < 20 then some ((N0 + 15) + j) else none))))))) (h10 : F (N0 + 158) = some (.inl (cC, 20, .inl (upd (fun _ => 0) 0 97)))) (h11 : F (N0 + 151) = some (.inl (cC, 20, .inl (upd (fun _ => 0) 0 97)))) (h12 : F (N0 + 160) = some (.inl (cI, 20, .inl (fun _ => 0)))) (h13 : F (N0 + 153) = some (.inl (cI, 20, .inl (fun _ => 0)))) (h14 : F (N0 + 15) = some (.inl (cI, 20, .inl (fun _ => 0)))) (h15 : F (N0 + 229) = some (.inl (cL, 1, .inr (.inl (fun _ => 0))))) : Met l yL_distance wsL_distance ({ frames := 4, cells := 0, slots := 0, locals := 97 }) (va_Pc [.ref N0, .int 2, .int 1, .ref (N0 + 229)] (fP N0 D vwCl (fty cI cC cL cD cII cTr cTm cIt cB) (fen ql) F n)) (fQi N0 D vwCl (fty cI cC cL cD cII cTr cTm cIt cB) (fun (r : Int32) (_ : Unit) => r = 0) (fun _ => (fu (fu (fu (fu (fu (fu F (N0 + 57) (.inl (cI, 20, .inl (upd (fun _ => 0) 0 1)))) (N0 + 58) (.inl (cI, 20, .inl (upd (fun _ => 0) 0 1)))) (N0 + 13) (.inr (3, [.ref (N0 + 14), .ref (N0 + 35), .ref (N0 + 57), .ref (N0 + 58), .ref (N0 + 59), .ref (N0 + 60), .int 0, .int 0, .ref (N0 + 61), .ref (N0 + 62)]))) (N0 + 36) (.inl (cI, 21, .inl (upd (fun _ => 0) 0 0)))) (N0 + 15) (.inl (cI, 20, .inl (upd (fun _ => 0) 0 0)))) (N0 + 229) (.inl (cL, 1, .inr (.inl (vp_updL (fun _ => 0) 0 0)))))) (fun _ => n)) 0 0 (fA N0) := by
  refine fx_startW (hh := [(0, 10, 13, 19)]) 5 rfl rfl (Nat.le_of_ble_eq_true rfl) ?_ rfl
  intro p e s m below meth c ls S htab hr hlocks hG hl
  have hl : lv_has ls 5 [(0, .ref N0), (1, .int 2), (2, .int 1), (3, .ref (N0 + 229))] := hl
  have lt_h0 := hG.1.lt h0
  have lt_h1 := hG.1.lt h1
  have lt_h2 := hG.1.lt h2
  have lt_h3 := hG.1.lt h3
  have lt_h4 := hG.1.lt h4
  have lt_h5 := hG.1.lt h5
  have lt_h6 := hG.1.lt h6
  have lt_h7 := hG.1.lt h7
  have lt_h8 := hG.1.lt h8
  have lt_h9 := hG.1.lt h9
  have lt_h10 := hG.1.lt h10
  have lt_h11 := hG.1.lt h11
  have lt_h12 := hG.1.lt h12
  have lt_h13 := hG.1.lt h13
  have lt_h14 := hG.1.lt h14
  have lt_h15 := hG.1.lt h15
  refine lv_aload_n S.1 S.2.1 dL_distance_0 rfl (lv_at hl 3 rfl) ?_
  refine lv_iconst (v := 0) S.1 S.2.1 dL_distance_1 (by decide) ?_
  refine lv_aload_n S.1 S.2.1 dL_distance_2 rfl (lv_at hl 0 rfl) ?_
  refine lv_iload_n S.1 S.2.1 dL_distance_3 rfl (lv_at hl 1 rfl) ?_
  refine lv_iload_n S.1 S.2.1 dL_distance_4 rfl (lv_at hl 2 rfl) ?_
  refine fx_cVi (As := [.int 2, .int 1]) (rest := [.int 0, .ref (N0 + 229)]) S hG (k1273_X7_distance (by omega) h0 h1 h2 h3 h4 h5 h6 h7 h8 h9 h10 h11 h12 h13 h14) h0 rfl (cwV 2 S.2.2.2.2 gL_distance_X7_distance rfl rfl rfl (by decide +kernel) ⟨Nat.le_of_ble_eq_true rfl, Nat.le_of_ble_eq_true rfl⟩) rfl hl.1 rfl (Nat.le_of_ble_eq_true rfl) dL_distance_5 ⟨Nat.le_of_ble_eq_true rfl, Nat.le_of_ble_eq_true rfl⟩ (fun rv_1 _ H locs hp hG => ?_)
  subst rv_1
  refine lv_i2l (v := 0) S.1 S.2.1 dL_distance_8 (by decide) ?_
  refine gx_last (f' := vp_updL (fun _ => 0) 0 0) S hG 2 (fu_at (by omega) (fu_at (by omega) (fu_at (by omega) (fu_at (by omega) (fu_at (by omega) h15))))) rfl (fin_l (by decide)) dL_distance_9 rfl (fun H locs hG => ?_)
  refine lv_goto (tgt := 17) S.1 S.2.1 dL_distance_10 (by decide) ?_
  refine lv_iconst (v := 0) S.1 S.2.1 dL_distance_17 (by decide) ?_
  exact fx_iret S hr hlocks () hG (rfl) dL_distance_18
theorem k1275_X10_left {n b1 : Nat} (hn : N0 + 231 ≤ n) (hb1 : N0 + 231 ≤ b1) (h0 : F b1 = some (.inl (cI, 0, .inl (fun _ => 0)))) (h1 : F (b1 + 1) = some (.inl (cI, 0, .inl (fun _ => 0)))) : Met l yX10_left wsX10_left ({ frames := 0, cells := 2, slots := 2, locals := 0 }) (va_Pc [.ref (N0 + 164), .ref (N0 + 176), .ref b1, .ref (N0 + 171), .ref (b1 + 1)] (fP N0 D vwCl (fty cI cC cL cD cII cTr cTm cIt cB) (fen ql) F n)) (fQr N0 D vwCl (fty cI cC cL cD cII cTr cTm cIt cB) (fun (r : Nat) (_ : Unit) => r = n) (fun _ => (fblk F n [.inl (cII, 1, .inr (.inr (.inr (.inr (fun j => if j < 1 then some ((n + 1) + j) else none))))), .inl (cI, 1, .inl (fun _ => 0))])) (fun _ => (n + 2))) 2 2 (fA N0) := by
  refine fx_start 9 rfl rfl (Nat.le_of_ble_eq_true rfl) ?_ rfl
  intro p e s m below meth c ls S hr hlocks hin hG hl
  have hl : lv_has ls 9 [(0, .ref (N0 + 164)), (1, .ref (N0 + 176)), (2, .ref b1), (3, .ref (N0 + 171)), (4, .ref (b1 + 1))] := hl
  have lt_h0 := hG.1.lt h0
  have lt_h1 := hG.1.lt h1
  refine lv_aload_n S.1 S.2.1 dX10_left_0 rfl (lv_at hl 2 rfl) ?_
  refine gx_alen (v := 0) S hG 0 h0 rfl (rfl) dX10_left_1 ?_
  refine lv_iconst (v := 1) S.1 S.2.1 dX10_left_2 (by decide) ?_
  refine lv_iadd S.1 S.2.1 dX10_left_3 ?_
  refine fx_topi (y := 1) (by decide) ?_
  refine lv_aload S.1 S.2.1 dX10_left_4 (lv_at hl 4 rfl) ?_
  refine gx_alen (v := 0) S hG 0 h1 rfl (rfl) dX10_left_6 ?_
  refine lv_iconst (v := 1) S.1 S.2.1 dX10_left_7 (by decide) ?_
  refine lv_iadd S.1 S.2.1 dX10_left_8 ?_
  refine fx_topi (y := 1) (by decide) ?_
  refine gx_mna (N' := 1) (K' := 1) S hG (by decide +kernel) (by decide +kernel) 0 4 rfl rfl (by decide) (by decide) (by decide) (by decide) (by decide) (by decide) (by decide) (by decide) dX10_left_9 (fun H hG => ?_)
  refine W.widen (k := 2) (n := 2) (by decide) (by decide) ?_
  refine lv_astore (lv' := [(5, .ref n), (0, .ref (N0 + 164)), (1, .ref (N0 + 176)), (2, .ref b1), (3, .ref (N0 + 171)), (4, .ref (b1 + 1))]) S.1 S.2.1 dX10_left_13 hl (by decide) rfl (fun ls hl => ?_)
  refine lv_aload_n S.1 S.2.1 dX10_left_15 rfl (lv_at hl 3 rfl) ?_
  refine gx_alen (v := 0) S hG 0 (fblk_sk 1 rfl (by omega) (fu_at (by omega) h0)) rfl (rfl) dX10_left_16 ?_
  refine lv_istore (lv' := [(6, .int 0), (5, .ref n), (0, .ref (N0 + 164)), (1, .ref (N0 + 176)), (2, .ref b1), (3, .ref (N0 + 171)), (4, .ref (b1 + 1))]) S.1 S.2.1 dX10_left_17 hl (by decide) rfl (fun ls hl => ?_)
  refine lv_iload S.1 S.2.1 dX10_left_19 (lv_at hl 0 rfl) ?_
  refine lv_if_lt (tgt := 228) S.1 S.2.1 dX10_left_21 (by decide) (fun c => absurd c (by decide)) (fun _ => ?_)
  refine lv_aload S.1 S.2.1 dX10_left_24 (lv_at hl 6 rfl) ?_
  refine gx_alen (v := 0) S hG 0 (fblk_sk 1 rfl (by omega) (fu_at (by omega) h1)) rfl (rfl) dX10_left_26 ?_
  refine lv_istore (lv' := [(7, .int 0), (6, .int 0), (5, .ref n), (0, .ref (N0 + 164)), (1, .ref (N0 + 176)), (2, .ref b1), (3, .ref (N0 + 171)), (4, .ref (b1 + 1))]) S.1 S.2.1 dX10_left_27 hl (by decide) rfl (fun ls hl => ?_)
  refine lv_iload S.1 S.2.1 dX10_left_29 (lv_at hl 0 rfl) ?_
  refine lv_if_lt (tgt := 222) S.1 S.2.1 dX10_left_31 (by decide) (fun c => absurd c (by decide)) (fun _ => ?_)
  refine lv_iload S.1 S.2.1 dX10_left_34 (lv_at hl 1 rfl) ?_
  refine lv_aload_n S.1 S.2.1 dX10_left_36 rfl (lv_at hl 5 rfl) ?_
  refine gx_alen (v := 0) S hG 0 (fblk_sk 1 rfl (by omega) (fu_at (by omega) h0)) rfl (rfl) dX10_left_37 ?_
  refine lv_icmp_ne (tgt := 52) S.1 S.2.1 dX10_left_38 (by decide) (fun c => absurd (by decide) c) (fun _ => ?_)
  refine lv_iload S.1 S.2.1 dX10_left_41 (lv_at hl 0 rfl) ?_
  refine lv_aload S.1 S.2.1 dX10_left_43 (lv_at hl 7 rfl) ?_
  refine gx_alen (v := 0) S hG 0 (fblk_sk 1 rfl (by omega) (fu_at (by omega) h1)) rfl (rfl) dX10_left_45 ?_
  refine lv_icmp_ne (tgt := 52) S.1 S.2.1 dX10_left_46 (by decide) (fun c => absurd (by decide) c) (fun _ => ?_)
  refine lv_goto (tgt := 216) S.1 S.2.1 dX10_left_49 (by decide) ?_
  refine lv_iinc (v := (-1)) (lv' := [(7, .int (-1)), (6, .int 0), (5, .ref n), (0, .ref (N0 + 164)), (1, .ref (N0 + 176)), (2, .ref b1), (3, .ref (N0 + 171)), (4, .ref (b1 + 1))]) S.1 S.2.1 dX10_left_216 hl (k := 0) rfl (by decide) (by decide) rfl (fun ls hl => ?_)
  refine lv_goto (tgt := 29) S.1 S.2.1 dX10_left_219 (by decide) ?_
  refine lv_iload S.1 S.2.1 dX10_left_29 (lv_at hl 0 rfl) ?_
  refine lv_if_lt (tgt := 222) S.1 S.2.1 dX10_left_31 (by decide) (fun _ => ?_) (fun c => absurd (by decide) c)
  refine lv_iinc (v := (-1)) (lv' := [(6, .int (-1)), (7, .int (-1)), (5, .ref n), (0, .ref (N0 + 164)), (1, .ref (N0 + 176)), (2, .ref b1), (3, .ref (N0 + 171)), (4, .ref (b1 + 1))]) S.1 S.2.1 dX10_left_222 hl (k := 1) rfl (by decide) (by decide) rfl (fun ls hl => ?_)
  refine lv_goto (tgt := 19) S.1 S.2.1 dX10_left_225 (by decide) ?_
  refine lv_iload S.1 S.2.1 dX10_left_19 (lv_at hl 0 rfl) ?_
  refine lv_if_lt (tgt := 228) S.1 S.2.1 dX10_left_21 (by decide) (fun _ => ?_) (fun c => absurd (by decide) c)
  refine lv_aload S.1 S.2.1 dX10_left_228 (lv_at hl 2 rfl) ?_
  have hG : fG N0 D vwCl (fty cI cC cL cD cII cTr cTm cIt cB) (fen ql) s (fblk F n [.inl (cII, 1, .inr (.inr (.inr (.inr (fun j => if j < 1 then some ((n + 1) + j) else none))))), .inl (cI, 1, .inl (fun _ => 0))]) (n + 2) H _ := hG.weak (fun a e h => by
    rcases fblk_cases 2 rfl h with ⟨k, rfl, hlt, hk⟩ | ⟨hout, h⟩
    · rcases (show k = 0 ∨ k = 1 by omega) with rfl | rfl
      · cases (show some (.inl (cII, 1, .inr (.inr (.inr (.inr (fun j => if j < 1 then some ((n + 1) + j) else none)))))) = some e from hk); exact (fblk_sk 1 rfl (by omega) fu_s)
      · cases (show some (.inl (cI, 1, .inl (fun _ => 0))) = some e from hk); exact (fblk_at 0 (by omega) rfl)
    · exact (fblk_sk 1 rfl (by omega) (fu_at (by omega) h)))
  exact fx_aret S hr (Or.inr ⟨_, rfl⟩) hlocks () hG (rfl) dX10_left_230
set_option maxHeartbeats 16000000 in
theorem k1276_X10_fills {n : Nat} (hn : N0 + 231 ≤ n) (h0 : F (N0 + 176) = some (.inr (11, [.ref (N0 + 177), .ref (N0 + 178), .ref (N0 + 179), .ref (N0 + 180), .int 1]))) (h1 : F (N0 + 171) = some (.inr (11, [.ref (N0 + 172), .ref (N0 + 173), .ref (N0 + 174), .ref (N0 + 175), .int 1]))) (h2 : F (N0 + 177) = some (.inl (cI, 20, .inl (upd (fun _ => 0) 0 97)))) (h3 : F (N0 + 172) = some (.inl (cI, 20, .inl (upd (fun _ => 0) 0 97)))) (h4 : F (N0 + 179) = some (.inl (cI, 20, .inl (upd (fun _ => 0) 0 0)))) (h5 : F (N0 + 174) = some (.inl (cI, 20, .inl (upd (fun _ => 0) 0 0)))) (h6 : F (N0 + 164) = some (.inr (12, [.ref (N0 + 165), .int 0, .ref (N0 + 181), .int 0, .int 0, .int 0, .int (-1), .ref (ql 24), .ref (N0 + 182), .ref (N0 + 187), .ref (N0 + 208), .ref (N0 + 209), .ref (N0 + 210), .ref (N0 + 211), .ref (N0 + 212), .int 0, .ref (N0 + 213), .ref (N0 + 218), .ref (N0 + 223), .ref (N0 + 224), .ref (N0 + 225), .ref (N0 + 226), .ref (N0 + 227), .int 0, .int 0, .ref (N0 + 228), .null, .int (-1), .int 0, .int 0, .int 0]))) (h7 : F (N0 + 187) = some (.inl (cII, 20, .inr (.inr (.inr (.inr (fun j => if j < 20 then some ((N0 + 188) + j) else none))))))) (h8 : F (N0 + 188) = some (.inl (cI, 20, .inl (fun _ => 0)))) : Met l yX10_fills wsX10_fills ({ frames := 2, cells := 4, slots := 2, locals := 47 }) (va_Pc [.ref (N0 + 164), .ref (N0 + 176), .ref (N0 + 171)] (fP N0 D vwCl (fty cI cC cL cD cII cTr cTm cIt cB) (fen ql) F n)) (fQi N0 D vwCl (fty cI cC cL cD cII cTr cTm cIt cB) (fun (r : Int32) (_ : Unit) => r = 0) (fun _ => (fblk (fu F (N0 + 188) (.inl (cI, 20, .inl (upd (fun _ => 0) 0 0)))) n [.inl (cI, 0, .inl (fun _ => 0)), .inl (cI, 0, .inl (fun _ => 0)), .inl (cII, 1, .inr (.inr (.inr (.inr (fun j => if j < 1 then some ((n + 3) + j) else none))))), .inl (cI, 1, .inl (fun _ => 0))])) (fun _ => (n + 4))) 4 2 (fA N0) := by
  refine fx_start 6 rfl rfl (Nat.le_of_ble_eq_true rfl) ?_ rfl
  intro p e s m below meth c ls S hr hlocks hin hG hl
  have hl : lv_has ls 6 [(0, .ref (N0 + 164)), (1, .ref (N0 + 176)), (2, .ref (N0 + 171))] := hl
  have lt_h0 := hG.1.lt h0
  have lt_h1 := hG.1.lt h1
  have lt_h2 := hG.1.lt h2
  have lt_h3 := hG.1.lt h3
  have lt_h4 := hG.1.lt h4
  have lt_h5 := hG.1.lt h5
  have lt_h6 := hG.1.lt h6
  have lt_h7 := hG.1.lt h7
  have lt_h8 := hG.1.lt h8
  refine lv_aload_n S.1 S.2.1 dX10_fills_0 rfl (lv_at hl 1 rfl) ?_
  refine gx_getN (C := RX9) (T := TX9) (N := 5) S hG h0 i_X10_fills_X9 rfl 4 (by decide) (List.mem_of_getElem? (i := 4) rfl) rfl dX10_fills_1 ?_
  refine lv_iconst (v := 1) S.1 S.2.1 dX10_fills_4 (by decide) ?_
  refine lv_isub S.1 S.2.1 dX10_fills_5 ?_
  refine fx_topi (y := 0) (by decide) ?_
  refine lv_istore_n (lv' := [(3, .int 0), (0, .ref (N0 + 164)), (1, .ref (N0 + 176)), (2, .ref (N0 + 171))]) S.1 S.2.1 dX10_fills_6 rfl hl (by decide) rfl (fun ls hl => ?_)
  refine lv_iload_n S.1 S.2.1 dX10_fills_7 rfl (lv_at hl 0 rfl) ?_
  refine lv_if_lt (tgt := 114) S.1 S.2.1 dX10_fills_8 (by decide) (fun c => absurd c (by decide)) (fun _ => ?_)
  refine lv_aload_n S.1 S.2.1 dX10_fills_11 rfl (lv_at hl 3 rfl) ?_
  refine gx_getN (C := RX9) (T := TX9) (N := 5) S hG h1 i_X10_fills_X9 rfl 4 (by decide) (List.mem_of_getElem? (i := 4) rfl) rfl dX10_fills_12 ?_
  refine lv_iconst (v := 1) S.1 S.2.1 dX10_fills_15 (by decide) ?_
  refine lv_isub S.1 S.2.1 dX10_fills_16 ?_
  refine fx_topi (y := 0) (by decide) ?_
  refine lv_istore (lv' := [(4, .int 0), (3, .int 0), (0, .ref (N0 + 164)), (1, .ref (N0 + 176)), (2, .ref (N0 + 171))]) S.1 S.2.1 dX10_fills_17 hl (by decide) rfl (fun ls hl => ?_)
  refine lv_iload S.1 S.2.1 dX10_fills_19 (lv_at hl 0 rfl) ?_
  refine lv_if_lt (tgt := 108) S.1 S.2.1 dX10_fills_21 (by decide) (fun c => absurd c (by decide)) (fun _ => ?_)
  refine lv_aload_n S.1 S.2.1 dX10_fills_24 rfl (lv_at hl 3 rfl) ?_
  refine gx_getN (C := RX9) (T := TX9) (N := 5) S hG h0 i_X10_fills_X9 rfl 0 (by decide) (List.mem_of_getElem? (i := 1) rfl) rfl dX10_fills_25 ?_
  refine lv_iload_n S.1 S.2.1 dX10_fills_28 rfl (lv_at hl 1 rfl) ?_
  refine gx_iald (v := 97) S hG 0 h2 rfl (fin_l (by decide)) (by decide) dX10_fills_29 ?_
  refine lv_aload_n S.1 S.2.1 dX10_fills_30 rfl (lv_at hl 4 rfl) ?_
  refine gx_getN (C := RX9) (T := TX9) (N := 5) S hG h1 i_X10_fills_X9 rfl 0 (by decide) (List.mem_of_getElem? (i := 1) rfl) rfl dX10_fills_31 ?_
  refine lv_iload S.1 S.2.1 dX10_fills_34 (lv_at hl 0 rfl) ?_
  refine gx_iald (v := 97) S hG 0 h3 rfl (fin_l (by decide)) (by decide) dX10_fills_36 ?_
  refine lv_icmp_ne (tgt := 44) S.1 S.2.1 dX10_fills_37 (by decide) (fun c => absurd (by decide) c) (fun _ => ?_)
  refine lv_iconst (v := 0) S.1 S.2.1 dX10_fills_40 (by decide) ?_
  refine lv_goto (tgt := 45) S.1 S.2.1 dX10_fills_41 (by decide) ?_
  refine lv_aload_n S.1 S.2.1 dX10_fills_45 rfl (lv_at hl 3 rfl) ?_
  refine gx_getN (C := RX9) (T := TX9) (N := 5) S hG h0 i_X10_fills_X9 rfl 2 (by decide) (List.mem_of_getElem? (i := 3) rfl) rfl dX10_fills_46 ?_
  refine lv_iload_n S.1 S.2.1 dX10_fills_49 rfl (lv_at hl 1 rfl) ?_
  refine gx_iald (v := 0) S hG 0 h4 rfl (fin_l (by decide)) (by decide) dX10_fills_50 ?_
  refine lv_aload_n S.1 S.2.1 dX10_fills_51 rfl (lv_at hl 4 rfl) ?_
  refine gx_getN (C := RX9) (T := TX9) (N := 5) S hG h1 i_X10_fills_X9 rfl 2 (by decide) (List.mem_of_getElem? (i := 3) rfl) rfl dX10_fills_52 ?_
  refine lv_iload S.1 S.2.1 dX10_fills_55 (lv_at hl 0 rfl) ?_
  refine gx_iald (v := 0) S hG 0 h5 rfl (fin_l (by decide)) (by decide) dX10_fills_57 ?_
  refine lv_icmp_ne (tgt := 65) S.1 S.2.1 dX10_fills_58 (by decide) (fun c => absurd (by decide) c) (fun _ => ?_)
  refine lv_iconst (v := 0) S.1 S.2.1 dX10_fills_61 (by decide) ?_
  refine lv_goto (tgt := 66) S.1 S.2.1 dX10_fills_62 (by decide) ?_
  refine lv_iadd S.1 S.2.1 dX10_fills_66 ?_
  refine fx_topi (y := 0) (by decide) ?_
  refine lv_istore (lv' := [(5, .int 0), (4, .int 0), (3, .int 0), (0, .ref (N0 + 164)), (1, .ref (N0 + 176)), (2, .ref (N0 + 171))]) S.1 S.2.1 dX10_fills_67 hl (by decide) rfl (fun ls hl => ?_)
  refine lv_aload_n S.1 S.2.1 dX10_fills_69 rfl (lv_at hl 3 rfl) ?_
  refine gx_get (C := RX10) (T := TX10) (N := 31) S hG h6 i_X10_fills_X10 rfl 9 (by decide) (by decide +kernel) rfl dX10_fills_70 ?_
  refine lv_iload_n S.1 S.2.1 dX10_fills_73 rfl (lv_at hl 2 rfl) ?_
  refine gx_aldq (x := (N0 + 188)) S hG 4 rfl h7 rfl (fin_l (by decide)) (rfl) dX10_fills_74 ?_
  refine lv_iload S.1 S.2.1 dX10_fills_75 (lv_at hl 1 rfl) ?_
  refine lv_iload S.1 S.2.1 dX10_fills_77 (lv_at hl 0 rfl) ?_
  refine lv_aload_n S.1 S.2.1 dX10_fills_79 rfl (lv_at hl 3 rfl) ?_
  refine lv_aload_n S.1 S.2.1 dX10_fills_80 rfl (lv_at hl 4 rfl) ?_
  refine lv_aload_n S.1 S.2.1 dX10_fills_81 rfl (lv_at hl 4 rfl) ?_
  refine lv_iload_n S.1 S.2.1 dX10_fills_82 rfl (lv_at hl 2 rfl) ?_
  refine fx_cVNr (host := "TreeDifferModel") (As := [.int 0]) (rest := [.ref (N0 + 176), .ref (N0 + 164), .int 0, .int 0, .ref (N0 + 188)]) S hG (k195_X9_kids (by omega) h0) h0 rfl ⟨(va_cnB 1 S.2.2.2.2 gX10_fills_X9_kids_n173 rfl rfl rfl (hG.nest (show _ ∈ fen2.2.2.1 from by decide)) (S.2.2.2.2 (.initialized RX9) (by decide +kernel)) (by decide +kernel) ⟨Nat.le_of_ble_eq_true rfl, Nat.le_of_ble_eq_true rfl⟩), S.2.2.2.2 (.instanceMethod yX9_kids) (by decide +kernel), S.2.2.2.2 (.selects RX9 yX9_kids yX9_kids) (by decide +kernel)⟩ rfl hl.1 rfl (Nat.le_of_ble_eq_true rfl) dX10_fills_83 ⟨Nat.le_of_ble_eq_true rfl, Nat.le_of_ble_eq_true rfl⟩ (fun rv_1 _ H locs hp hG => ?_)
  subst rv_1
  refine W.widen (k := 1) (n := 0) (by decide) (by decide) ?_
  refine lv_aload_n S.1 S.2.1 dX10_fills_86 rfl (lv_at hl 5 rfl) ?_
  refine lv_aload_n S.1 S.2.1 dX10_fills_87 rfl (lv_at hl 5 rfl) ?_
  refine lv_iload S.1 S.2.1 dX10_fills_88 (lv_at hl 1 rfl) ?_
  refine fx_cVNr (host := "TreeDifferModel") (As := [.int 0]) (rest := [.ref (N0 + 171), .ref n, .ref (N0 + 176), .ref (N0 + 164), .int 0, .int 0, .ref (N0 + 188)]) S hG (k151_X9_kids (by omega) (fblk_sk 1 rfl (by omega) h1)) (fblk_sk 1 rfl (by omega) h1) rfl ⟨(va_cnB 1 S.2.2.2.2 gX10_fills_X9_kids_n173 rfl rfl rfl (hG.nest (show _ ∈ fen2.2.2.1 from by decide)) (S.2.2.2.2 (.initialized RX9) (by decide +kernel)) (by decide +kernel) ⟨Nat.le_of_ble_eq_true rfl, Nat.le_of_ble_eq_true rfl⟩), S.2.2.2.2 (.instanceMethod yX9_kids) (by decide +kernel), S.2.2.2.2 (.selects RX9 yX9_kids yX9_kids) (by decide +kernel)⟩ rfl hl.1 rfl (Nat.le_of_ble_eq_true rfl) dX10_fills_90 ⟨Nat.le_of_ble_eq_true rfl, Nat.le_of_ble_eq_true rfl⟩ (fun rv_2 _ H locs hp hG => ?_)
  subst rv_2
  refine W.widen (k := 2) (n := 0) (by decide) (by decide) ?_
  refine fx_cVr (As := [.ref (N0 + 176), .ref n, .ref (N0 + 171), .ref (n + 1)]) (rest := [.int 0, .int 0, .ref (N0 + 188)]) S hG (k1275_X10_left (by omega) (by omega) (fblk_sk 1 rfl (by omega) (fblk_at 0 (by omega) rfl)) (fblk_at 0 (by omega) rfl)) (fblk_sk 1 rfl (by omega) (fblk_sk 1 rfl (by omega) h6)) rfl (cwV 4 S.2.2.2.2 gX10_fills_X10_left rfl rfl rfl (by decide +kernel) ⟨Nat.le_of_ble_eq_true rfl, Nat.le_of_ble_eq_true rfl⟩) rfl hl.1 rfl (Nat.le_of_ble_eq_true rfl) dX10_fills_93 ⟨Nat.le_of_ble_eq_true rfl, Nat.le_of_ble_eq_true rfl⟩ (fun rv_3 _ H locs hp hG => ?_)
  subst rv_3
  refine W.widen (k := 4) (n := 2) (by decide) (by decide) ?_
  refine lv_iconst (v := 0) S.1 S.2.1 dX10_fills_96 (by decide) ?_
  refine gx_aldq (x := (n + 3)) S hG 4 rfl (fblk_at 0 (by omega) rfl) rfl (fin_l (by decide)) (rfl) dX10_fills_97 ?_
  refine lv_iconst (v := 0) S.1 S.2.1 dX10_fills_98 (by decide) ?_
  refine gx_iald (v := 0) S hG 0 (fblk_at 1 (by omega) rfl) rfl (fin_l (by decide)) (by decide) dX10_fills_99 ?_
  refine lv_iadd S.1 S.2.1 dX10_fills_100 ?_
  refine fx_topi (y := 0) (by decide) ?_
  refine gx_iast (f' := upd (fun _ => 0) 0 0) S hG 0 (fblk_sk 2 rfl (by omega) (fblk_sk 1 rfl (by omega) (fblk_sk 1 rfl (by omega) h8))) rfl (fin_l (by decide)) dX10_fills_101 (rfl) (fun H locs hG => ?_)
  refine lv_iinc (v := (-1)) (lv' := [(4, .int (-1)), (5, .int 0), (3, .int 0), (0, .ref (N0 + 164)), (1, .ref (N0 + 176)), (2, .ref (N0 + 171))]) S.1 S.2.1 dX10_fills_102 hl (k := 1) rfl (by decide) (by decide) rfl (fun ls hl => ?_)
  refine lv_goto (tgt := 19) S.1 S.2.1 dX10_fills_105 (by decide) ?_
  refine lv_iload S.1 S.2.1 dX10_fills_19 (lv_at hl 0 rfl) ?_
  refine lv_if_lt (tgt := 108) S.1 S.2.1 dX10_fills_21 (by decide) (fun _ => ?_) (fun c => absurd (by decide) c)
  refine lv_iinc (v := (-1)) (lv' := [(3, .int (-1)), (4, .int (-1)), (5, .int 0), (0, .ref (N0 + 164)), (1, .ref (N0 + 176)), (2, .ref (N0 + 171))]) S.1 S.2.1 dX10_fills_108 hl (k := 2) rfl (by decide) (by decide) rfl (fun ls hl => ?_)
  refine lv_goto (tgt := 7) S.1 S.2.1 dX10_fills_111 (by decide) ?_
  refine lv_iload_n S.1 S.2.1 dX10_fills_7 rfl (lv_at hl 0 rfl) ?_
  refine lv_if_lt (tgt := 114) S.1 S.2.1 dX10_fills_8 (by decide) (fun _ => ?_) (fun c => absurd (by decide) c)
  refine lv_aload_n S.1 S.2.1 dX10_fills_114 rfl (lv_at hl 3 rfl) ?_
  refine gx_get (C := RX10) (T := TX10) (N := 31) S hG (fu_at (by omega) (fblk_sk 2 rfl (by omega) (fblk_sk 1 rfl (by omega) (fblk_sk 1 rfl (by omega) h6)))) i_X10_fills_X10 rfl 9 (by decide) (by decide +kernel) rfl dX10_fills_115 ?_
  refine lv_iconst (v := 0) S.1 S.2.1 dX10_fills_118 (by decide) ?_
  refine gx_aldq (x := (N0 + 188)) S hG 4 rfl (fu_at (by omega) (fblk_sk 2 rfl (by omega) (fblk_sk 1 rfl (by omega) (fblk_sk 1 rfl (by omega) h7)))) rfl (fin_l (by decide)) (rfl) dX10_fills_119 ?_
  refine lv_iconst (v := 0) S.1 S.2.1 dX10_fills_120 (by decide) ?_
  refine gx_iald (v := 0) S hG 0 fu_s rfl (fin_l (by decide)) (by decide) dX10_fills_121 ?_
  have hG : fG N0 D vwCl (fty cI cC cL cD cII cTr cTm cIt cB) (fen ql) s (fblk (fu F (N0 + 188) (.inl (cI, 20, .inl (upd (fun _ => 0) 0 0)))) n [.inl (cI, 0, .inl (fun _ => 0)), .inl (cI, 0, .inl (fun _ => 0)), .inl (cII, 1, .inr (.inr (.inr (.inr (fun j => if j < 1 then some ((n + 3) + j) else none))))), .inl (cI, 1, .inl (fun _ => 0))]) (n + 4) H locs := hG.weak (fun a e h => by
    rcases fblk_cases 4 rfl h with ⟨k, rfl, hlt, hk⟩ | ⟨hout, h⟩
    · rcases (show k = 0 ∨ k = 1 ∨ k = 2 ∨ k = 3 by omega) with rfl | rfl | rfl | rfl
      · cases (show some (.inl (cI, 0, .inl (fun _ => 0))) = some e from hk); exact (fu_at (by omega) (fblk_sk 2 rfl (by omega) (fblk_sk 1 rfl (by omega) (fblk_at 0 (by omega) rfl))))
      · cases (show some (.inl (cI, 0, .inl (fun _ => 0))) = some e from hk); exact (fu_at (by omega) (fblk_sk 2 rfl (by omega) (fblk_at 0 (by omega) rfl)))
      · cases (show some (.inl (cII, 1, .inr (.inr (.inr (.inr (fun j => if j < 1 then some ((n + 3) + j) else none)))))) = some e from hk); exact (fu_at (by omega) (fblk_at 0 (by omega) rfl))
      · cases (show some (.inl (cI, 1, .inl (fun _ => 0))) = some e from hk); exact (fu_at (by omega) (fblk_at 1 (by omega) rfl))
    · rcases fu_cases h with ⟨rfl, he⟩ | ⟨hne0, h⟩
      · cases he; exact fu_s
      · exact (fu_at (by omega) (fblk_sk 2 rfl (by omega) (fblk_sk 1 rfl (by omega) (fblk_sk 1 rfl (by omega) h)))))
  exact fx_iret S hr hlocks () hG (rfl) dX10_fills_122
theorem k1277_X10_distance {n : Nat} (hn : N0 + 231 ≤ n) (h0 : F (N0 + 164) = some (.inr (12, [.ref (N0 + 165), .int 0, .ref (N0 + 181), .int 0, .int 0, .int 0, .int (-1), .ref (ql 24), .ref (N0 + 182), .ref (N0 + 187), .ref (N0 + 208), .ref (N0 + 209), .ref (N0 + 210), .ref (N0 + 211), .ref (N0 + 212), .int 0, .ref (N0 + 213), .ref (N0 + 218), .ref (N0 + 223), .ref (N0 + 224), .ref (N0 + 225), .ref (N0 + 226), .ref (N0 + 227), .int 0, .int 0, .ref (N0 + 228), .null, .int (-1), .int 0, .int 0, .int 0]))) (h1 : F (N0 + 165) = some (.inl (cTm, 3, .inr (.inr (.inr (.inr (va_up (va_up (va_up (fun _ => none) 0 (some (N0 + 166))) 1 (some (N0 + 171))) 2 (some (N0 + 176))))))))) (h2 : F (N0 + 176) = some (.inr (11, [.ref (N0 + 177), .ref (N0 + 178), .ref (N0 + 179), .ref (N0 + 180), .int 1]))) (h3 : F (N0 + 171) = some (.inr (11, [.ref (N0 + 172), .ref (N0 + 173), .ref (N0 + 174), .ref (N0 + 175), .int 1]))) (h4 : F (N0 + 177) = some (.inl (cI, 20, .inl (upd (fun _ => 0) 0 97)))) (h5 : F (N0 + 172) = some (.inl (cI, 20, .inl (upd (fun _ => 0) 0 97)))) (h6 : F (N0 + 179) = some (.inl (cI, 20, .inl (upd (fun _ => 0) 0 0)))) (h7 : F (N0 + 174) = some (.inl (cI, 20, .inl (upd (fun _ => 0) 0 0)))) (h8 : F (N0 + 187) = some (.inl (cII, 20, .inr (.inr (.inr (.inr (fun j => if j < 20 then some ((N0 + 188) + j) else none))))))) (h9 : F (N0 + 188) = some (.inl (cI, 20, .inl (fun _ => 0)))) : Met l yX10_distance wsX10_distance ({ frames := 3, cells := 4, slots := 2, locals := 72 }) (va_Pc [.ref (N0 + 164), .int 2, .int 1] (fP N0 D vwCl (fty cI cC cL cD cII cTr cTm cIt cB) (fen ql) F n)) (fQi N0 D vwCl (fty cI cC cL cD cII cTr cTm cIt cB) (fun (r : Int32) (_ : Unit) => r = 0) (fun _ => (fblk (fu (fu F (N0 + 164) (.inr (12, [.ref (N0 + 165), .int 0, .ref (N0 + 181), .int 0, .int 0, .int 0, .int (-1), .ref (ql 24), .ref (N0 + 182), .ref (N0 + 187), .ref (N0 + 208), .ref (N0 + 209), .ref (N0 + 210), .ref (N0 + 211), .ref (N0 + 212), .int 0, .ref (N0 + 213), .ref (N0 + 218), .ref (N0 + 223), .ref (N0 + 224), .ref (N0 + 225), .ref (N0 + 226), .ref (N0 + 227), .int 0, .int 0, .ref (N0 + 228), .null, .int (-1), .int 0, .int 0, .int 0]))) (N0 + 188) (.inl (cI, 20, .inl (upd (fun _ => 0) 0 0)))) n [.inl (cI, 0, .inl (fun _ => 0)), .inl (cI, 0, .inl (fun _ => 0)), .inl (cII, 1, .inr (.inr (.inr (.inr (fun j => if j < 1 then some ((n + 3) + j) else none))))), .inl (cI, 1, .inl (fun _ => 0))])) (fun _ => (n + 4))) 4 2 (fA N0) := by
  refine fx_start 3 rfl rfl (Nat.le_of_ble_eq_true rfl) ?_ rfl
  intro p e s m below meth c ls S hr hlocks hin hG hl
  have hl : lv_has ls 3 [(0, .ref (N0 + 164)), (1, .int 2), (2, .int 1)] := hl
  have lt_h0 := hG.1.lt h0
  have lt_h1 := hG.1.lt h1
  have lt_h2 := hG.1.lt h2
  have lt_h3 := hG.1.lt h3
  have lt_h4 := hG.1.lt h4
  have lt_h5 := hG.1.lt h5
  have lt_h6 := hG.1.lt h6
  have lt_h7 := hG.1.lt h7
  have lt_h8 := hG.1.lt h8
  have lt_h9 := hG.1.lt h9
  refine lv_aload_n S.1 S.2.1 dX10_distance_0 rfl (lv_at hl 0 rfl) ?_
  refine lv_iload_n S.1 S.2.1 dX10_distance_1 rfl (lv_at hl 1 rfl) ?_
  refine lv_iload_n S.1 S.2.1 dX10_distance_2 rfl (lv_at hl 2 rfl) ?_
  refine fx_cVi (As := [.int 2, .int 1]) (rest := []) S hG (k524_X10_areNone (by omega) h0) h0 rfl (cwV 2 S.2.2.2.2 gX10_distance_X10_areNone rfl rfl rfl (by decide +kernel) ⟨Nat.le_of_ble_eq_true rfl, Nat.le_of_ble_eq_true rfl⟩) rfl hl.1 rfl (Nat.le_of_ble_eq_true rfl) dX10_distance_3 ⟨Nat.le_of_ble_eq_true rfl, Nat.le_of_ble_eq_true rfl⟩ (fun rv_1 _ H locs hp hG => ?_)
  subst rv_1
  refine lv_if_eq (tgt := 13) S.1 S.2.1 dX10_distance_6 (by decide) (fun _ => ?_) (fun c => absurd (by decide) c)
  refine lv_aload_n S.1 S.2.1 dX10_distance_13 rfl (lv_at hl 0 rfl) ?_
  refine lv_aload_n S.1 S.2.1 dX10_distance_14 rfl (lv_at hl 0 rfl) ?_
  refine gx_get (C := RX10) (T := TX10) (N := 31) S hG fu_s i_X10_distance_X10 rfl 0 (by decide) (by decide +kernel) rfl dX10_distance_15 ?_
  refine lv_iload_n S.1 S.2.1 dX10_distance_18 rfl (lv_at hl 1 rfl) ?_
  refine gx_aldq (x := (N0 + 176)) S hG 6 rfl (fu_at (by omega) h1) rfl (fin_l (by decide)) (rfl) dX10_distance_19 ?_
  refine lv_aload_n S.1 S.2.1 dX10_distance_20 rfl (lv_at hl 0 rfl) ?_
  refine gx_get (C := RX10) (T := TX10) (N := 31) S hG fu_s i_X10_distance_X10 rfl 0 (by decide) (by decide +kernel) rfl dX10_distance_21 ?_
  refine lv_iload_n S.1 S.2.1 dX10_distance_24 rfl (lv_at hl 2 rfl) ?_
  refine gx_aldq (x := (N0 + 171)) S hG 6 rfl (fu_at (by omega) h1) rfl (fin_l (by decide)) (rfl) dX10_distance_25 ?_
  refine fx_cVi (As := [.ref (N0 + 176), .ref (N0 + 171)]) (rest := []) S hG (k1276_X10_fills (by omega) (fu_at (by omega) h2) (fu_at (by omega) h3) (fu_at (by omega) h4) (fu_at (by omega) h5) (fu_at (by omega) h6) (fu_at (by omega) h7) fu_s (fu_at (by omega) h8) (fu_at (by omega) h9)) fu_s rfl (cwV 2 S.2.2.2.2 gX10_distance_X10_fills rfl rfl rfl (by decide +kernel) ⟨Nat.le_of_ble_eq_true rfl, Nat.le_of_ble_eq_true rfl⟩) rfl hl.1 rfl (Nat.le_of_ble_eq_true rfl) dX10_distance_26 ⟨Nat.le_of_ble_eq_true rfl, Nat.le_of_ble_eq_true rfl⟩ (fun rv_2 _ H locs hp hG => ?_)
  subst rv_2
  refine W.widen (k := 4) (n := 2) (by decide) (by decide) ?_
  have hG : fG N0 D vwCl (fty cI cC cL cD cII cTr cTm cIt cB) (fen ql) s (fblk (fu (fu F (N0 + 164) (.inr (12, [.ref (N0 + 165), .int 0, .ref (N0 + 181), .int 0, .int 0, .int 0, .int (-1), .ref (ql 24), .ref (N0 + 182), .ref (N0 + 187), .ref (N0 + 208), .ref (N0 + 209), .ref (N0 + 210), .ref (N0 + 211), .ref (N0 + 212), .int 0, .ref (N0 + 213), .ref (N0 + 218), .ref (N0 + 223), .ref (N0 + 224), .ref (N0 + 225), .ref (N0 + 226), .ref (N0 + 227), .int 0, .int 0, .ref (N0 + 228), .null, .int (-1), .int 0, .int 0, .int 0]))) (N0 + 188) (.inl (cI, 20, .inl (upd (fun _ => 0) 0 0)))) n [.inl (cI, 0, .inl (fun _ => 0)), .inl (cI, 0, .inl (fun _ => 0)), .inl (cII, 1, .inr (.inr (.inr (.inr (fun j => if j < 1 then some ((n + 3) + j) else none))))), .inl (cI, 1, .inl (fun _ => 0))]) (n + 4) H locs := hG.weak (fun a e h => by
    rcases fblk_cases 4 rfl h with ⟨k, rfl, hlt, hk⟩ | ⟨hout, h⟩
    · rcases (show k = 0 ∨ k = 1 ∨ k = 2 ∨ k = 3 by omega) with rfl | rfl | rfl | rfl
      · cases (show some (.inl (cI, 0, .inl (fun _ => 0))) = some e from hk); exact (fblk_at 0 (by omega) rfl)
      · cases (show some (.inl (cI, 0, .inl (fun _ => 0))) = some e from hk); exact (fblk_at 1 (by omega) rfl)
      · cases (show some (.inl (cII, 1, .inr (.inr (.inr (.inr (fun j => if j < 1 then some ((n + 3) + j) else none)))))) = some e from hk); exact (fblk_at 2 (by omega) rfl)
      · cases (show some (.inl (cI, 1, .inl (fun _ => 0))) = some e from hk); exact (fblk_at 3 (by omega) rfl)
    · rcases fu_cases h with ⟨rfl, he⟩ | ⟨hne0, h⟩
      · cases he; exact (fblk_sk 4 rfl (by omega) fu_s)
      · skip
        rcases fu_cases h with ⟨rfl, he⟩ | ⟨hne1, h⟩
        · cases he; exact (fblk_sk 4 rfl (by omega) (fu_at (by omega) fu_s))
        · exact (fblk_sk 4 rfl (by omega) (fu_at (by omega) (fu_at (by omega) h))))
  exact fx_iret S hr hlocks () hG (rfl) dX10_distance_29
theorem k1278_X1_restCost {n : Nat} (hn : N0 + 231 ≤ n) (h0 : F (N0 + 13) = some (.inr (3, [.ref (N0 + 14), .ref (N0 + 35), .ref (N0 + 57), .ref (N0 + 58), .ref (N0 + 59), .ref (N0 + 60), .int 0, .int 0, .ref (N0 + 61), .ref (N0 + 62)]))) : Met l yX1_restCost wsX1_restCost ({ frames := 0, cells := 0, slots := 0, locals := 0 }) (va_Pc [.ref (N0 + 13), .ref (N0 + 157), .ref (N0 + 157), .int 0, .int 0] (fP N0 D vwCl (fty cI cC cL cD cII cTr cTm cIt cB) (fen ql) F n)) (fQi N0 D vwCl (fty cI cC cL cD cII cTr cTm cIt cB) (fun (r : Int32) (_ : Unit) => r = 0) (fun _ => F) (fun _ => n)) 0 0 (fA N0) := by
  refine fx_start 6 rfl rfl (Nat.le_of_ble_eq_true rfl) ?_ rfl
  intro p e s m below meth c ls S hr hlocks hin hG hl
  have hl : lv_has ls 6 [(0, .ref (N0 + 13)), (1, .ref (N0 + 157)), (2, .ref (N0 + 157)), (3, .int 0), (4, .int 0)] := hl
  have lt_h0 := hG.1.lt h0
  refine lv_iload_n S.1 S.2.1 dX1_restCost_0 rfl (lv_at hl 3 rfl) ?_
  refine lv_aload_n S.1 S.2.1 dX1_restCost_1 rfl (lv_at hl 0 rfl) ?_
  refine gx_get (C := RX1) (T := TX1) (N := 10) S hG h0 i_X1_restCost_X1 rfl 6 (by decide) (by decide +kernel) rfl dX1_restCost_2 ?_
  refine lv_icmp_ne (tgt := 29) S.1 S.2.1 dX1_restCost_5 (by decide) (fun c => absurd (by decide) c) (fun _ => ?_)
  refine lv_iload S.1 S.2.1 dX1_restCost_8 (lv_at hl 4 rfl) ?_
  refine lv_aload_n S.1 S.2.1 dX1_restCost_10 rfl (lv_at hl 0 rfl) ?_
  refine gx_get (C := RX1) (T := TX1) (N := 10) S hG h0 i_X1_restCost_X1 rfl 7 (by decide) (by decide +kernel) rfl dX1_restCost_11 ?_
  refine lv_icmp_ne (tgt := 21) S.1 S.2.1 dX1_restCost_14 (by decide) (fun c => absurd (by decide) c) (fun _ => ?_)
  refine lv_iconst (v := 0) S.1 S.2.1 dX1_restCost_17 (by decide) ?_
  refine lv_goto (tgt := 28) S.1 S.2.1 dX1_restCost_18 (by decide) ?_
  exact fx_iret S hr hlocks () hG (rfl) dX1_restCost_28
theorem k1279_X1_fillRestCosts {n : Nat} (hn : N0 + 231 ≤ n) (h0 : F (N0 + 13) = some (.inr (3, [.ref (N0 + 14), .ref (N0 + 35), .ref (N0 + 57), .ref (N0 + 58), .ref (N0 + 59), .ref (N0 + 60), .int 0, .int 0, .ref (N0 + 61), .ref (N0 + 62)]))) (h1 : F (N0 + 35) = some (.inl (cII, 21, .inr (.inr (.inr (.inr (fun j => if j < 21 then some ((N0 + 36) + j) else none))))))) (h2 : F (N0 + 36) = some (.inl (cI, 21, .inl (fun _ => 0)))) : Met l yX1_fillRestCosts wsX1_fillRestCosts ({ frames := 1, cells := 0, slots := 0, locals := 25 }) (va_Pc [.ref (N0 + 13), .ref (N0 + 157), .ref (N0 + 157)] (fP N0 D vwCl (fty cI cC cL cD cII cTr cTm cIt cB) (fen ql) F n)) (fQv N0 D vwCl (fty cI cC cL cD cII cTr cTm cIt cB) (fun (_ : Unit) => True) (fun _ => (fu F (N0 + 36) (.inl (cI, 21, .inl (upd (fun _ => 0) 0 0))))) (fun _ => n)) 0 0 (fA N0) := by
  refine fx_start 5 rfl rfl (Nat.le_of_ble_eq_true rfl) ?_ rfl
  intro p e s m below meth c ls S hr hlocks hin hG hl
  have hl : lv_has ls 5 [(0, .ref (N0 + 13)), (1, .ref (N0 + 157)), (2, .ref (N0 + 157))] := hl
  have lt_h0 := hG.1.lt h0
  have lt_h1 := hG.1.lt h1
  have lt_h2 := hG.1.lt h2
  refine lv_aload_n S.1 S.2.1 dX1_fillRestCosts_0 rfl (lv_at hl 0 rfl) ?_
  refine gx_get (C := RX1) (T := TX1) (N := 10) S hG h0 i_X1_fillRestCosts_X1 rfl 6 (by decide) (by decide +kernel) rfl dX1_fillRestCosts_1 ?_
  refine lv_istore_n (lv' := [(3, .int 0), (0, .ref (N0 + 13)), (1, .ref (N0 + 157)), (2, .ref (N0 + 157))]) S.1 S.2.1 dX1_fillRestCosts_4 rfl hl (by decide) rfl (fun ls hl => ?_)
  refine lv_iload_n S.1 S.2.1 dX1_fillRestCosts_5 rfl (lv_at hl 0 rfl) ?_
  refine lv_if_lt (tgt := 50) S.1 S.2.1 dX1_fillRestCosts_6 (by decide) (fun c => absurd c (by decide)) (fun _ => ?_)
  refine lv_aload_n S.1 S.2.1 dX1_fillRestCosts_9 rfl (lv_at hl 1 rfl) ?_
  refine gx_get (C := RX1) (T := TX1) (N := 10) S hG h0 i_X1_fillRestCosts_X1 rfl 7 (by decide) (by decide +kernel) rfl dX1_fillRestCosts_10 ?_
  refine lv_istore (lv' := [(4, .int 0), (3, .int 0), (0, .ref (N0 + 13)), (1, .ref (N0 + 157)), (2, .ref (N0 + 157))]) S.1 S.2.1 dX1_fillRestCosts_13 hl (by decide) rfl (fun ls hl => ?_)
  refine lv_iload S.1 S.2.1 dX1_fillRestCosts_15 (lv_at hl 0 rfl) ?_
  refine lv_if_lt (tgt := 44) S.1 S.2.1 dX1_fillRestCosts_17 (by decide) (fun c => absurd c (by decide)) (fun _ => ?_)
  refine lv_aload_n S.1 S.2.1 dX1_fillRestCosts_20 rfl (lv_at hl 2 rfl) ?_
  refine gx_get (C := RX1) (T := TX1) (N := 10) S hG h0 i_X1_fillRestCosts_X1 rfl 1 (by decide) (by decide +kernel) rfl dX1_fillRestCosts_21 ?_
  refine lv_iload_n S.1 S.2.1 dX1_fillRestCosts_24 rfl (lv_at hl 1 rfl) ?_
  refine gx_aldq (x := (N0 + 36)) S hG 4 rfl h1 rfl (fin_l (by decide)) (rfl) dX1_fillRestCosts_25 ?_
  refine lv_iload S.1 S.2.1 dX1_fillRestCosts_26 (lv_at hl 0 rfl) ?_
  refine lv_aload_n S.1 S.2.1 dX1_fillRestCosts_28 rfl (lv_at hl 2 rfl) ?_
  refine lv_aload_n S.1 S.2.1 dX1_fillRestCosts_29 rfl (lv_at hl 3 rfl) ?_
  refine lv_aload_n S.1 S.2.1 dX1_fillRestCosts_30 rfl (lv_at hl 4 rfl) ?_
  refine lv_iload_n S.1 S.2.1 dX1_fillRestCosts_31 rfl (lv_at hl 1 rfl) ?_
  refine lv_iload S.1 S.2.1 dX1_fillRestCosts_32 (lv_at hl 0 rfl) ?_
  refine fx_cVi (As := [.ref (N0 + 157), .ref (N0 + 157), .int 0, .int 0]) (rest := [.int 0, .ref (N0 + 36)]) S hG (k1278_X1_restCost (by omega) h0) h0 rfl (cwV 4 S.2.2.2.2 gX1_fillRestCosts_X1_restCost rfl rfl rfl (by decide +kernel) ⟨Nat.le_of_ble_eq_true rfl, Nat.le_of_ble_eq_true rfl⟩) rfl hl.1 rfl (Nat.le_of_ble_eq_true rfl) dX1_fillRestCosts_34 ⟨Nat.le_of_ble_eq_true rfl, Nat.le_of_ble_eq_true rfl⟩ (fun rv_1 _ H locs hp hG => ?_)
  subst rv_1
  refine gx_iast (f' := upd (fun _ => 0) 0 0) S hG 0 h2 rfl (fin_l (by decide)) dX1_fillRestCosts_37 (rfl) (fun H locs hG => ?_)
  refine lv_iinc (v := (-1)) (lv' := [(4, .int (-1)), (3, .int 0), (0, .ref (N0 + 13)), (1, .ref (N0 + 157)), (2, .ref (N0 + 157))]) S.1 S.2.1 dX1_fillRestCosts_38 hl (k := 0) rfl (by decide) (by decide) rfl (fun ls hl => ?_)
  refine lv_goto (tgt := 15) S.1 S.2.1 dX1_fillRestCosts_41 (by decide) ?_
  refine lv_iload S.1 S.2.1 dX1_fillRestCosts_15 (lv_at hl 0 rfl) ?_
  refine lv_if_lt (tgt := 44) S.1 S.2.1 dX1_fillRestCosts_17 (by decide) (fun _ => ?_) (fun c => absurd (by decide) c)
  refine lv_iinc (v := (-1)) (lv' := [(3, .int (-1)), (4, .int (-1)), (0, .ref (N0 + 13)), (1, .ref (N0 + 157)), (2, .ref (N0 + 157))]) S.1 S.2.1 dX1_fillRestCosts_44 hl (k := 1) rfl (by decide) (by decide) rfl (fun ls hl => ?_)
  refine lv_goto (tgt := 5) S.1 S.2.1 dX1_fillRestCosts_47 (by decide) ?_
  refine lv_iload_n S.1 S.2.1 dX1_fillRestCosts_5 rfl (lv_at hl 0 rfl) ?_
  refine lv_if_lt (tgt := 50) S.1 S.2.1 dX1_fillRestCosts_6 (by decide) (fun _ => ?_) (fun c => absurd (by decide) c)
  exact fx_vret S hr hlocks () hG trivial dX1_fillRestCosts_50
theorem k1280_X7_changeCost {n : Nat} (hn : N0 + 231 ≤ n) (h0 : F (N0 + 157) = some (.inr (7, [.ref (N0 + 158), .ref (N0 + 159), .ref (N0 + 160), .ref (N0 + 161), .ref (N0 + 162), .ref (N0 + 163), .int 1]))) (h1 : F (N0 + 158) = some (.inl (cC, 20, .inl (upd (fun _ => 0) 0 97)))) (h2 : F (N0 + 160) = some (.inl (cI, 20, .inl (fun _ => 0)))) : Met l yX7_changeCost wsX7_changeCost ({ frames := 0, cells := 0, slots := 0, locals := 0 }) (va_Pc [.ref (N0 + 157), .int 0, .ref (N0 + 157), .int 0] (fP N0 D vwCl (fty cI cC cL cD cII cTr cTm cIt cB) (fen ql) F n)) (fQi N0 D vwCl (fty cI cC cL cD cII cTr cTm cIt cB) (fun (r : Int32) (_ : Unit) => r = 0) (fun _ => F) (fun _ => n)) 0 0 (fA N0) := by
  refine fx_start 5 rfl rfl (Nat.le_of_ble_eq_true rfl) ?_ rfl
  intro p e s m below meth c ls S hr hlocks hin hG hl
  have hl : lv_has ls 5 [(0, .ref (N0 + 157)), (1, .int 0), (2, .ref (N0 + 157)), (3, .int 0)] := hl
  have lt_h0 := hG.1.lt h0
  have lt_h1 := hG.1.lt h1
  have lt_h2 := hG.1.lt h2
  refine lv_iconst (v := 0) S.1 S.2.1 dX7_changeCost_0 (by decide) ?_
  refine lv_istore (lv' := [(4, .int 0), (0, .ref (N0 + 157)), (1, .int 0), (2, .ref (N0 + 157)), (3, .int 0)]) S.1 S.2.1 dX7_changeCost_1 hl (by decide) rfl (fun ls hl => ?_)
  refine lv_aload_n S.1 S.2.1 dX7_changeCost_3 rfl (lv_at hl 1 rfl) ?_
  refine gx_get (C := RX5) (T := TX5) (N := 7) S hG h0 i_X7_changeCost_X5 rfl 0 (by decide) (by decide +kernel) rfl dX7_changeCost_4 ?_
  refine lv_iload_n S.1 S.2.1 dX7_changeCost_7 rfl (lv_at hl 2 rfl) ?_
  refine gx_cald (v := 97) S hG 1 h1 rfl (fin_l (by decide)) (by decide) dX7_changeCost_8 ?_
  refine lv_aload_n S.1 S.2.1 dX7_changeCost_9 rfl (lv_at hl 3 rfl) ?_
  refine gx_get (C := RX5) (T := TX5) (N := 7) S hG h0 i_X7_changeCost_X5 rfl 0 (by decide) (by decide +kernel) rfl dX7_changeCost_10 ?_
  refine lv_iload_n S.1 S.2.1 dX7_changeCost_13 rfl (lv_at hl 4 rfl) ?_
  refine gx_cald (v := 97) S hG 1 h1 rfl (fin_l (by decide)) (by decide) dX7_changeCost_14 ?_
  refine lv_icmp_eq (tgt := 21) S.1 S.2.1 dX7_changeCost_15 (by decide) (fun _ => ?_) (fun c => absurd (by decide) c)
  refine lv_aload_n S.1 S.2.1 dX7_changeCost_21 rfl (lv_at hl 1 rfl) ?_
  refine gx_get (C := RX5) (T := TX5) (N := 7) S hG h0 i_X7_changeCost_X5 rfl 2 (by decide) (by decide +kernel) rfl dX7_changeCost_22 ?_
  refine lv_iload_n S.1 S.2.1 dX7_changeCost_25 rfl (lv_at hl 2 rfl) ?_
  refine gx_iald (v := 0) S hG 0 h2 rfl (fin_l (by decide)) (by decide) dX7_changeCost_26 ?_
  refine lv_aload_n S.1 S.2.1 dX7_changeCost_27 rfl (lv_at hl 3 rfl) ?_
  refine gx_get (C := RX5) (T := TX5) (N := 7) S hG h0 i_X7_changeCost_X5 rfl 2 (by decide) (by decide +kernel) rfl dX7_changeCost_28 ?_
  refine lv_iload_n S.1 S.2.1 dX7_changeCost_31 rfl (lv_at hl 4 rfl) ?_
  refine gx_iald (v := 0) S hG 0 h2 rfl (fin_l (by decide)) (by decide) dX7_changeCost_32 ?_
  refine lv_icmp_eq (tgt := 39) S.1 S.2.1 dX7_changeCost_33 (by decide) (fun _ => ?_) (fun c => absurd (by decide) c)
  refine lv_iload S.1 S.2.1 dX7_changeCost_39 (lv_at hl 0 rfl) ?_
  exact fx_iret S hr hlocks () hG (rfl) dX7_changeCost_41
set_option maxHeartbeats 16000000 in
theorem k1281_X1_leastCost {n : Nat} (hn : N0 + 231 ≤ n) (h0 : F (N0 + 13) = some (.inr (3, [.ref (N0 + 14), .ref (N0 + 35), .ref (N0 + 57), .ref (N0 + 58), .ref (N0 + 59), .ref (N0 + 60), .int 0, .int 0, .ref (N0 + 61), .ref (N0 + 62)]))) (h1 : F (N0 + 157) = some (.inr (7, [.ref (N0 + 158), .ref (N0 + 159), .ref (N0 + 160), .ref (N0 + 161), .ref (N0 + 162), .ref (N0 + 163), .int 1]))) (h2 : F (N0 + 57) = some (.inl (cI, 20, .inl (fun _ => 0)))) (h3 : F (N0 + 58) = some (.inl (cI, 20, .inl (fun _ => 0)))) (h4 : F (N0 + 35) = some (.inl (cII, 21, .inr (.inr (.inr (.inr (fun j => if j < 21 then some ((N0 + 36) + j) else none))))))) (h5 : F (N0 + 36) = some (.inl (cI, 21, .inl (fun _ => 0)))) (h6 : F (N0 + 14) = some (.inl (cII, 20, .inr (.inr (.inr (.inr (fun j => if j < 20 then some ((N0 + 15) + j) else none))))))) (h7 : F (N0 + 158) = some (.inl (cC, 20, .inl (upd (fun _ => 0) 0 97)))) (h8 : F (N0 + 160) = some (.inl (cI, 20, .inl (fun _ => 0)))) (h9 : F (N0 + 15) = some (.inl (cI, 20, .inl (fun _ => 0)))) : Met l yX1_leastCost wsX1_leastCost ({ frames := 2, cells := 0, slots := 0, locals := 49 }) (va_Pc [.ref (N0 + 13), .ref (N0 + 157), .ref (N0 + 157)] (fP N0 D vwCl (fty cI cC cL cD cII cTr cTm cIt cB) (fen ql) F n)) (fQi N0 D vwCl (fty cI cC cL cD cII cTr cTm cIt cB) (fun (r : Int32) (_ : Unit) => r = 0) (fun _ => (fu (fu (fu (fu (fu F (N0 + 57) (.inl (cI, 20, .inl (upd (fun _ => 0) 0 1)))) (N0 + 58) (.inl (cI, 20, .inl (upd (fun _ => 0) 0 1)))) (N0 + 13) (.inr (3, [.ref (N0 + 14), .ref (N0 + 35), .ref (N0 + 57), .ref (N0 + 58), .ref (N0 + 59), .ref (N0 + 60), .int 0, .int 0, .ref (N0 + 61), .ref (N0 + 62)]))) (N0 + 36) (.inl (cI, 21, .inl (upd (fun _ => 0) 0 0)))) (N0 + 15) (.inl (cI, 20, .inl (upd (fun _ => 0) 0 0))))) (fun _ => n)) 0 0 (fA N0) := by
  refine fx_start 5 rfl rfl (Nat.le_of_ble_eq_true rfl) ?_ rfl
  intro p e s m below meth c ls S hr hlocks hin hG hl
  have hl : lv_has ls 5 [(0, .ref (N0 + 13)), (1, .ref (N0 + 157)), (2, .ref (N0 + 157))] := hl
  have lt_h0 := hG.1.lt h0
  have lt_h1 := hG.1.lt h1
  have lt_h2 := hG.1.lt h2
  have lt_h3 := hG.1.lt h3
  have lt_h4 := hG.1.lt h4
  have lt_h5 := hG.1.lt h5
  have lt_h6 := hG.1.lt h6
  have lt_h7 := hG.1.lt h7
  have lt_h8 := hG.1.lt h8
  have lt_h9 := hG.1.lt h9
  refine lv_aload_n S.1 S.2.1 dX1_leastCost_0 rfl (lv_at hl 1 rfl) ?_
  refine lv_aload_n S.1 S.2.1 dX1_leastCost_1 rfl (lv_at hl 0 rfl) ?_
  refine gx_get (C := RX1) (T := TX1) (N := 10) S hG h0 i_X1_leastCost_X1 rfl 2 (by decide) (by decide +kernel) rfl dX1_leastCost_2 ?_
  refine fx_cVv (As := [.ref (N0 + 57)]) (rest := []) S hG (k1258_X5_listWidths (by omega) h1 h2) h1 rfl (cwV 1 S.2.2.2.2 gX1_leastCost_X5_listWidths rfl rfl rfl (by decide +kernel) ⟨Nat.le_of_ble_eq_true rfl, Nat.le_of_ble_eq_true rfl⟩) rfl hl.1 rfl (Nat.le_of_ble_eq_true rfl) dX1_leastCost_5 ⟨Nat.le_of_ble_eq_true rfl, Nat.le_of_ble_eq_true rfl⟩ (fun _ H locs hp hG => ?_)
  refine lv_aload_n S.1 S.2.1 dX1_leastCost_8 rfl (lv_at hl 2 rfl) ?_
  refine lv_aload_n S.1 S.2.1 dX1_leastCost_9 rfl (lv_at hl 0 rfl) ?_
  refine gx_get (C := RX1) (T := TX1) (N := 10) S hG (fu_at (by omega) h0) i_X1_leastCost_X1 rfl 3 (by decide) (by decide +kernel) rfl dX1_leastCost_10 ?_
  refine fx_cVv (As := [.ref (N0 + 58)]) (rest := []) S hG (k1206_X5_listWidths (by omega) (fu_at (by omega) h1) (fu_at (by omega) h3)) (fu_at (by omega) h1) rfl (cwV 1 S.2.2.2.2 gX1_leastCost_X5_listWidths rfl rfl rfl (by decide +kernel) ⟨Nat.le_of_ble_eq_true rfl, Nat.le_of_ble_eq_true rfl⟩) rfl hl.1 rfl (Nat.le_of_ble_eq_true rfl) dX1_leastCost_13 ⟨Nat.le_of_ble_eq_true rfl, Nat.le_of_ble_eq_true rfl⟩ (fun _ H locs hp hG => ?_)
  refine lv_aload_n S.1 S.2.1 dX1_leastCost_16 rfl (lv_at hl 1 rfl) ?_
  refine gx_get (C := RX5) (T := TX5) (N := 7) S hG (fu_at (by omega) (fu_at (by omega) h1)) i_X1_leastCost_X5 rfl 6 (by decide) (by decide +kernel) rfl dX1_leastCost_17 ?_
  refine lv_iconst (v := 1) S.1 S.2.1 dX1_leastCost_20 (by decide) ?_
  refine lv_isub S.1 S.2.1 dX1_leastCost_21 ?_
  refine fx_topi (y := 0) (by decide) ?_
  refine lv_istore_n (lv' := [(3, .int 0), (0, .ref (N0 + 13)), (1, .ref (N0 + 157)), (2, .ref (N0 + 157))]) S.1 S.2.1 dX1_leastCost_22 rfl hl (by decide) rfl (fun ls hl => ?_)
  refine lv_iload_n S.1 S.2.1 dX1_leastCost_23 rfl (lv_at hl 0 rfl) ?_
  refine lv_if_lt (tgt := 111) S.1 S.2.1 dX1_leastCost_24 (by decide) (fun c => absurd c (by decide)) (fun _ => ?_)
  refine lv_aload_n S.1 S.2.1 dX1_leastCost_27 rfl (lv_at hl 1 rfl) ?_
  refine lv_aload_n S.1 S.2.1 dX1_leastCost_28 rfl (lv_at hl 2 rfl) ?_
  refine lv_iload_n S.1 S.2.1 dX1_leastCost_29 rfl (lv_at hl 0 rfl) ?_
  refine lv_aload_n S.1 S.2.1 dX1_leastCost_30 rfl (lv_at hl 1 rfl) ?_
  refine gx_get (C := RX1) (T := TX1) (N := 10) S hG (fu_at (by omega) (fu_at (by omega) h0)) i_X1_leastCost_X1 rfl 4 (by decide) (by decide +kernel) rfl dX1_leastCost_31 ?_
  refine fx_cVi (As := [.int 0, .ref (N0 + 59)]) (rest := [.ref (N0 + 13)]) S hG (k1259_X5_listChildren (by omega) (fu_at (by omega) (fu_at (by omega) h1))) (fu_at (by omega) (fu_at (by omega) h1)) rfl (cwV 2 S.2.2.2.2 gX1_leastCost_X5_listChildren rfl rfl rfl (by decide +kernel) ⟨Nat.le_of_ble_eq_true rfl, Nat.le_of_ble_eq_true rfl⟩) rfl hl.1 rfl (Nat.le_of_ble_eq_true rfl) dX1_leastCost_34 ⟨Nat.le_of_ble_eq_true rfl, Nat.le_of_ble_eq_true rfl⟩ (fun rv_3 _ H locs hp hG => ?_)
  subst rv_3
  refine gx_put (C := RX1) (T := TX1) (N := 10) (ty := .int) (v := .int 0) (fs' := [.ref (N0 + 14), .ref (N0 + 35), .ref (N0 + 57), .ref (N0 + 58), .ref (N0 + 59), .ref (N0 + 60), .int 0, .int 0, .ref (N0 + 61), .ref (N0 + 62)]) S hG (fu_at (by omega) (fu_at (by omega) h0)) i_X1_leastCost_X1 rfl 6 (by decide) tyX1 tyX1_ok nmX1 (by decide +kernel) rfl (by decide +kernel) rfl rfl (Nat.le_of_ble_eq_true rfl) rfl dX1_leastCost_37 (fun H locs hG => ?_)
  refine lv_aload_n S.1 S.2.1 dX1_leastCost_40 rfl (lv_at hl 3 rfl) ?_
  refine gx_get (C := RX5) (T := TX5) (N := 7) S hG (fu_at (by omega) (fu_at (by omega) (fu_at (by omega) h1))) i_X1_leastCost_X5 rfl 6 (by decide) (by decide +kernel) rfl dX1_leastCost_41 ?_
  refine lv_iconst (v := 1) S.1 S.2.1 dX1_leastCost_44 (by decide) ?_
  refine lv_isub S.1 S.2.1 dX1_leastCost_45 ?_
  refine fx_topi (y := 0) (by decide) ?_
  refine lv_istore (lv' := [(4, .int 0), (3, .int 0), (0, .ref (N0 + 13)), (1, .ref (N0 + 157)), (2, .ref (N0 + 157))]) S.1 S.2.1 dX1_leastCost_46 hl (by decide) rfl (fun ls hl => ?_)
  refine lv_iload S.1 S.2.1 dX1_leastCost_48 (lv_at hl 0 rfl) ?_
  refine lv_if_lt (tgt := 105) S.1 S.2.1 dX1_leastCost_50 (by decide) (fun c => absurd c (by decide)) (fun _ => ?_)
  refine lv_aload_n S.1 S.2.1 dX1_leastCost_53 rfl (lv_at hl 2 rfl) ?_
  refine lv_aload_n S.1 S.2.1 dX1_leastCost_54 rfl (lv_at hl 4 rfl) ?_
  refine lv_iload S.1 S.2.1 dX1_leastCost_55 (lv_at hl 0 rfl) ?_
  refine lv_aload_n S.1 S.2.1 dX1_leastCost_57 rfl (lv_at hl 2 rfl) ?_
  refine gx_get (C := RX1) (T := TX1) (N := 10) S hG fu_s i_X1_leastCost_X1 rfl 5 (by decide) (by decide +kernel) rfl dX1_leastCost_58 ?_
  refine fx_cVi (As := [.int 0, .ref (N0 + 60)]) (rest := [.ref (N0 + 13)]) S hG (k1207_X5_listChildren (by omega) (fu_at (by omega) (fu_at (by omega) (fu_at (by omega) h1)))) (fu_at (by omega) (fu_at (by omega) (fu_at (by omega) h1))) rfl (cwV 2 S.2.2.2.2 gX1_leastCost_X5_listChildren rfl rfl rfl (by decide +kernel) ⟨Nat.le_of_ble_eq_true rfl, Nat.le_of_ble_eq_true rfl⟩) rfl hl.1 rfl (Nat.le_of_ble_eq_true rfl) dX1_leastCost_61 ⟨Nat.le_of_ble_eq_true rfl, Nat.le_of_ble_eq_true rfl⟩ (fun rv_4 _ H locs hp hG => ?_)
  subst rv_4
  refine gx_put (C := RX1) (T := TX1) (N := 10) (ty := .int) (v := .int 0) (fs' := [.ref (N0 + 14), .ref (N0 + 35), .ref (N0 + 57), .ref (N0 + 58), .ref (N0 + 59), .ref (N0 + 60), .int 0, .int 0, .ref (N0 + 61), .ref (N0 + 62)]) S hG fu_s i_X1_leastCost_X1 rfl 7 (by decide) tyX1 tyX1_ok nmX1 (by decide +kernel) rfl (by decide +kernel) rfl rfl (Nat.le_of_ble_eq_true rfl) rfl dX1_leastCost_64 (fun H locs hG => ?_)
  refine lv_aload_n S.1 S.2.1 dX1_leastCost_67 rfl (lv_at hl 2 rfl) ?_
  refine lv_aload_n S.1 S.2.1 dX1_leastCost_68 rfl (lv_at hl 3 rfl) ?_
  refine lv_aload_n S.1 S.2.1 dX1_leastCost_69 rfl (lv_at hl 4 rfl) ?_
  refine fx_cVv (As := [.ref (N0 + 157), .ref (N0 + 157)]) (rest := []) S hG (k1279_X1_fillRestCosts (by omega) fu_s (fu_at (by omega) (fu_at (by omega) (fu_at (by omega) (fu_at (by omega) h4)))) (fu_at (by omega) (fu_at (by omega) (fu_at (by omega) (fu_at (by omega) h5))))) fu_s rfl (cwV 2 S.2.2.2.2 gX1_leastCost_X1_fillRestCosts rfl rfl rfl (by decide +kernel) ⟨Nat.le_of_ble_eq_true rfl, Nat.le_of_ble_eq_true rfl⟩) rfl hl.1 rfl (Nat.le_of_ble_eq_true rfl) dX1_leastCost_70 ⟨Nat.le_of_ble_eq_true rfl, Nat.le_of_ble_eq_true rfl⟩ (fun _ H locs hp hG => ?_)
  refine lv_aload_n S.1 S.2.1 dX1_leastCost_73 rfl (lv_at hl 2 rfl) ?_
  refine gx_get (C := RX1) (T := TX1) (N := 10) S hG (fu_at (by omega) fu_s) i_X1_leastCost_X1 rfl 0 (by decide) (by decide +kernel) rfl dX1_leastCost_74 ?_
  refine lv_iload_n S.1 S.2.1 dX1_leastCost_77 rfl (lv_at hl 1 rfl) ?_
  refine gx_aldq (x := (N0 + 15)) S hG 4 rfl (fu_at (by omega) (fu_at (by omega) (fu_at (by omega) (fu_at (by omega) (fu_at (by omega) h6))))) rfl (fin_l (by decide)) (rfl) dX1_leastCost_78 ?_
  refine lv_iload S.1 S.2.1 dX1_leastCost_79 (lv_at hl 0 rfl) ?_
  refine lv_aload_n S.1 S.2.1 dX1_leastCost_81 rfl (lv_at hl 3 rfl) ?_
  refine lv_iload_n S.1 S.2.1 dX1_leastCost_82 rfl (lv_at hl 1 rfl) ?_
  refine lv_aload_n S.1 S.2.1 dX1_leastCost_83 rfl (lv_at hl 4 rfl) ?_
  refine lv_iload S.1 S.2.1 dX1_leastCost_84 (lv_at hl 0 rfl) ?_
  refine fx_cSNi (host := "TreeDiffer") (As := [.ref (N0 + 157), .int 0, .ref (N0 + 157), .int 0]) (rest := [.int 0, .ref (N0 + 15)]) S hG (k1280_X7_changeCost (by omega) (fu_at (by omega) (fu_at (by omega) (fu_at (by omega) (fu_at (by omega) (fu_at (by omega) h1))))) (fu_at (by omega) (fu_at (by omega) (fu_at (by omega) (fu_at (by omega) (fu_at (by omega) h7))))) (fu_at (by omega) (fu_at (by omega) (fu_at (by omega) (fu_at (by omega) (fu_at (by omega) h8)))))) ⟨(va_cnB 4 S.2.2.2.2 gX1_leastCost_X7_changeCost_n62 rfl rfl rfl (hG.nest (show _ ∈ fen2.2.2.1 from by decide)) (S.2.2.2.2 (.initialized RX7) (by decide +kernel)) (by decide +kernel) ⟨Nat.le_of_ble_eq_true rfl, Nat.le_of_ble_eq_true rfl⟩), S.2.2.2.2 (.static yX7_changeCost) (by decide +kernel), trivial⟩ rfl hl.1 rfl (Nat.le_of_ble_eq_true rfl) dX1_leastCost_86 ⟨Nat.le_of_ble_eq_true rfl, Nat.le_of_ble_eq_true rfl⟩ (fun rv_6 _ H locs hp hG => ?_)
  subst rv_6
  refine lv_aload_n S.1 S.2.1 dX1_leastCost_89 rfl (lv_at hl 2 rfl) ?_
  refine gx_get (C := RX1) (T := TX1) (N := 10) S hG (fu_at (by omega) fu_s) i_X1_leastCost_X1 rfl 1 (by decide) (by decide +kernel) rfl dX1_leastCost_90 ?_
  refine lv_iconst (v := 0) S.1 S.2.1 dX1_leastCost_93 (by decide) ?_
  refine gx_aldq (x := (N0 + 36)) S hG 4 rfl (fu_at (by omega) (fu_at (by omega) (fu_at (by omega) (fu_at (by omega) (fu_at (by omega) h4))))) rfl (fin_l (by decide)) (rfl) dX1_leastCost_94 ?_
  refine lv_iconst (v := 0) S.1 S.2.1 dX1_leastCost_95 (by decide) ?_
  refine gx_iald (v := 0) S hG 0 fu_s rfl (fin_l (by decide)) (by decide) dX1_leastCost_96 ?_
  refine lv_iadd S.1 S.2.1 dX1_leastCost_97 ?_
  refine fx_topi (y := 0) (by decide) ?_
  refine gx_iast (f' := upd (fun _ => 0) 0 0) S hG 0 (fu_at (by omega) (fu_at (by omega) (fu_at (by omega) (fu_at (by omega) (fu_at (by omega) h9))))) rfl (fin_l (by decide)) dX1_leastCost_98 (rfl) (fun H locs hG => ?_)
  refine lv_iinc (v := (-1)) (lv' := [(4, .int (-1)), (3, .int 0), (0, .ref (N0 + 13)), (1, .ref (N0 + 157)), (2, .ref (N0 + 157))]) S.1 S.2.1 dX1_leastCost_99 hl (k := 0) rfl (by decide) (by decide) rfl (fun ls hl => ?_)
  refine lv_goto (tgt := 48) S.1 S.2.1 dX1_leastCost_102 (by decide) ?_
  refine lv_iload S.1 S.2.1 dX1_leastCost_48 (lv_at hl 0 rfl) ?_
  refine lv_if_lt (tgt := 105) S.1 S.2.1 dX1_leastCost_50 (by decide) (fun _ => ?_) (fun c => absurd (by decide) c)
  refine lv_iinc (v := (-1)) (lv' := [(3, .int (-1)), (4, .int (-1)), (0, .ref (N0 + 13)), (1, .ref (N0 + 157)), (2, .ref (N0 + 157))]) S.1 S.2.1 dX1_leastCost_105 hl (k := 1) rfl (by decide) (by decide) rfl (fun ls hl => ?_)
  refine lv_goto (tgt := 23) S.1 S.2.1 dX1_leastCost_108 (by decide) ?_
  refine lv_iload_n S.1 S.2.1 dX1_leastCost_23 rfl (lv_at hl 0 rfl) ?_
  refine lv_if_lt (tgt := 111) S.1 S.2.1 dX1_leastCost_24 (by decide) (fun _ => ?_) (fun c => absurd (by decide) c)
  refine lv_aload_n S.1 S.2.1 dX1_leastCost_111 rfl (lv_at hl 2 rfl) ?_
  refine gx_get (C := RX1) (T := TX1) (N := 10) S hG (fu_at (by omega) (fu_at (by omega) fu_s)) i_X1_leastCost_X1 rfl 0 (by decide) (by decide +kernel) rfl dX1_leastCost_112 ?_
  refine lv_iconst (v := 0) S.1 S.2.1 dX1_leastCost_115 (by decide) ?_
  refine gx_aldq (x := (N0 + 15)) S hG 4 rfl (fu_at (by omega) (fu_at (by omega) (fu_at (by omega) (fu_at (by omega) (fu_at (by omega) (fu_at (by omega) h6)))))) rfl (fin_l (by decide)) (rfl) dX1_leastCost_116 ?_
  refine lv_iconst (v := 0) S.1 S.2.1 dX1_leastCost_117 (by decide) ?_
  refine gx_iald (v := 0) S hG 0 fu_s rfl (fin_l (by decide)) (by decide) dX1_leastCost_118 ?_
  have hG : fG N0 D vwCl (fty cI cC cL cD cII cTr cTm cIt cB) (fen ql) s (fu (fu (fu (fu (fu F (N0 + 57) (.inl (cI, 20, .inl (upd (fun _ => 0) 0 1)))) (N0 + 58) (.inl (cI, 20, .inl (upd (fun _ => 0) 0 1)))) (N0 + 13) (.inr (3, [.ref (N0 + 14), .ref (N0 + 35), .ref (N0 + 57), .ref (N0 + 58), .ref (N0 + 59), .ref (N0 + 60), .int 0, .int 0, .ref (N0 + 61), .ref (N0 + 62)]))) (N0 + 36) (.inl (cI, 21, .inl (upd (fun _ => 0) 0 0)))) (N0 + 15) (.inl (cI, 20, .inl (upd (fun _ => 0) 0 0)))) n H locs := hG.weak (fun a e h => by
    rcases fu_cases h with ⟨rfl, he⟩ | ⟨hne0, h⟩
    · cases he; exact fu_s
    · skip
      rcases fu_cases h with ⟨rfl, he⟩ | ⟨hne1, h⟩
      · cases he; exact (fu_at (by omega) fu_s)
      · skip
        rcases fu_cases h with ⟨rfl, he⟩ | ⟨hne2, h⟩
        · cases he; exact (fu_at (by omega) (fu_at (by omega) fu_s))
        · skip
          rcases fu_cases h with ⟨rfl, he⟩ | ⟨hne3, h⟩
          · cases he; exact (fu_at (by omega) (fu_at (by omega) (fu_at (by omega) (fu_at (by omega) fu_s))))
          · skip
            rcases fu_cases h with ⟨rfl, he⟩ | ⟨hne4, h⟩
            · cases he; exact (fu_at (by omega) (fu_at (by omega) (fu_at (by omega) (fu_at (by omega) (fu_at (by omega) fu_s)))))
            · exact (fu_at (by omega) (fu_at (by omega) (fu_at (by omega) (fu_at (by omega) (fu_at (by omega) (fu_at (by omega) h)))))))
  exact fx_iret S hr hlocks () hG (rfl) dX1_leastCost_119
theorem k1282_X7_distance {n : Nat} (hn : N0 + 231 ≤ n) (h0 : F N0 = some (.inr (9, [.ref (N0 + 1), .ref (N0 + 2), .ref (N0 + 11), .ref (N0 + 13), .ref (N0 + 63), .ref (N0 + 65), .ref (N0 + 85), .int (-1), .int (-1), .int 32]))) (h1 : F (N0 + 1) = some (.inl (cTr, 3, .inr (.inr (.inr (.inr (va_up (va_up (va_up (fun _ => none) 0 (some (N0 + 143))) 1 (some (N0 + 150))) 2 (some (N0 + 157))))))))) (h2 : F (N0 + 13) = some (.inr (3, [.ref (N0 + 14), .ref (N0 + 35), .ref (N0 + 57), .ref (N0 + 58), .ref (N0 + 59), .ref (N0 + 60), .int 0, .int 0, .ref (N0 + 61), .ref (N0 + 62)]))) (h3 : F (N0 + 157) = some (.inr (7, [.ref (N0 + 158), .ref (N0 + 159), .ref (N0 + 160), .ref (N0 + 161), .ref (N0 + 162), .ref (N0 + 163), .int 1]))) (h4 : F (N0 + 57) = some (.inl (cI, 20, .inl (fun _ => 0)))) (h5 : F (N0 + 58) = some (.inl (cI, 20, .inl (fun _ => 0)))) (h6 : F (N0 + 35) = some (.inl (cII, 21, .inr (.inr (.inr (.inr (fun j => if j < 21 then some ((N0 + 36) + j) else none))))))) (h7 : F (N0 + 36) = some (.inl (cI, 21, .inl (fun _ => 0)))) (h8 : F (N0 + 14) = some (.inl (cII, 20, .inr (.inr (.inr (.inr (fun j => if j < 20 then some ((N0 + 15) + j) else none))))))) (h9 : F (N0 + 158) = some (.inl (cC, 20, .inl (upd (fun _ => 0) 0 97)))) (h10 : F (N0 + 160) = some (.inl (cI, 20, .inl (fun _ => 0)))) (h11 : F (N0 + 15) = some (.inl (cI, 20, .inl (fun _ => 0)))) : Met l yX7_distance wsX7_distance ({ frames := 3, cells := 0, slots := 0, locals := 73 }) (va_Pc [.ref N0, .int 2, .int 2] (fP N0 D vwCl (fty cI cC cL cD cII cTr cTm cIt cB) (fen ql) F n)) (fQi N0 D vwCl (fty cI cC cL cD cII cTr cTm cIt cB) (fun (r : Int32) (_ : Unit) => r = 0) (fun _ => (fu (fu (fu (fu (fu F (N0 + 57) (.inl (cI, 20, .inl (upd (fun _ => 0) 0 1)))) (N0 + 58) (.inl (cI, 20, .inl (upd (fun _ => 0) 0 1)))) (N0 + 13) (.inr (3, [.ref (N0 + 14), .ref (N0 + 35), .ref (N0 + 57), .ref (N0 + 58), .ref (N0 + 59), .ref (N0 + 60), .int 0, .int 0, .ref (N0 + 61), .ref (N0 + 62)]))) (N0 + 36) (.inl (cI, 21, .inl (upd (fun _ => 0) 0 0)))) (N0 + 15) (.inl (cI, 20, .inl (upd (fun _ => 0) 0 0))))) (fun _ => n)) 0 0 (fA N0) := by
  refine fx_start 5 rfl rfl (Nat.le_of_ble_eq_true rfl) ?_ rfl
  intro p e s m below meth c ls S hr hlocks hin hG hl
  have hl : lv_has ls 5 [(0, .ref N0), (1, .int 2), (2, .int 2)] := hl
  have lt_h0 := hG.1.lt h0
  have lt_h1 := hG.1.lt h1
  have lt_h2 := hG.1.lt h2
  have lt_h3 := hG.1.lt h3
  have lt_h4 := hG.1.lt h4
  have lt_h5 := hG.1.lt h5
  have lt_h6 := hG.1.lt h6
  have lt_h7 := hG.1.lt h7
  have lt_h8 := hG.1.lt h8
  have lt_h9 := hG.1.lt h9
  have lt_h10 := hG.1.lt h10
  have lt_h11 := hG.1.lt h11
  refine lv_aload_n S.1 S.2.1 dX7_distance_0 rfl (lv_at hl 0 rfl) ?_
  refine lv_iload_n S.1 S.2.1 dX7_distance_1 rfl (lv_at hl 1 rfl) ?_
  refine fx_cVr (As := [.int 2]) (rest := []) S hG (k48_X7_treeAt (by omega) h0 h1) h0 rfl (cwV 1 S.2.2.2.2 gX7_distance_X7_treeAt rfl rfl rfl (by decide +kernel) ⟨Nat.le_of_ble_eq_true rfl, Nat.le_of_ble_eq_true rfl⟩) rfl hl.1 rfl (Nat.le_of_ble_eq_true rfl) dX7_distance_2 ⟨Nat.le_of_ble_eq_true rfl, Nat.le_of_ble_eq_true rfl⟩ (fun rv_1 _ H locs hp hG => ?_)
  subst rv_1
  refine lv_astore_n (lv' := [(3, .ref (N0 + 157)), (0, .ref N0), (1, .int 2), (2, .int 2)]) S.1 S.2.1 dX7_distance_5 rfl hl (by decide) rfl (fun ls hl => ?_)
  refine lv_aload_n S.1 S.2.1 dX7_distance_6 rfl (lv_at hl 1 rfl) ?_
  refine lv_iload_n S.1 S.2.1 dX7_distance_7 rfl (lv_at hl 3 rfl) ?_
  refine fx_cVr (As := [.int 2]) (rest := []) S hG (k48_X7_treeAt (by omega) h0 h1) h0 rfl (cwV 1 S.2.2.2.2 gX7_distance_X7_treeAt rfl rfl rfl (by decide +kernel) ⟨Nat.le_of_ble_eq_true rfl, Nat.le_of_ble_eq_true rfl⟩) rfl hl.1 rfl (Nat.le_of_ble_eq_true rfl) dX7_distance_8 ⟨Nat.le_of_ble_eq_true rfl, Nat.le_of_ble_eq_true rfl⟩ (fun rv_2 _ H locs hp hG => ?_)
  subst rv_2
  refine lv_astore (lv' := [(4, .ref (N0 + 157)), (3, .ref (N0 + 157)), (0, .ref N0), (1, .int 2), (2, .int 2)]) S.1 S.2.1 dX7_distance_11 hl (by decide) rfl (fun ls hl => ?_)
  refine lv_aload_n S.1 S.2.1 dX7_distance_13 rfl (lv_at hl 2 rfl) ?_
  refine gx_get (C := RX7) (T := TX7) (N := 10) S hG h0 i_X7_distance_X7 rfl 3 (by decide) (by decide +kernel) rfl dX7_distance_14 ?_
  refine lv_aload_n S.1 S.2.1 dX7_distance_17 rfl (lv_at hl 1 rfl) ?_
  refine lv_aload S.1 S.2.1 dX7_distance_18 (lv_at hl 0 rfl) ?_
  refine fx_cVi (As := [.ref (N0 + 157), .ref (N0 + 157)]) (rest := []) S hG (k1281_X1_leastCost (by omega) h2 h3 h4 h5 h6 h7 h8 h9 h10 h11) h2 rfl (cwV 2 S.2.2.2.2 gX7_distance_X1_leastCost rfl rfl rfl (by decide +kernel) ⟨Nat.le_of_ble_eq_true rfl, Nat.le_of_ble_eq_true rfl⟩) rfl hl.1 rfl (Nat.le_of_ble_eq_true rfl) dX7_distance_20 ⟨Nat.le_of_ble_eq_true rfl, Nat.le_of_ble_eq_true rfl⟩ (fun rv_3 _ H locs hp hG => ?_)
  subst rv_3
  exact fx_iret S hr hlocks () hG (rfl) dX7_distance_23
theorem k1283_L_distance {n : Nat} (hn : N0 + 231 ≤ n) (h0 : F N0 = some (.inr (9, [.ref (N0 + 1), .ref (N0 + 2), .ref (N0 + 11), .ref (N0 + 13), .ref (N0 + 63), .ref (N0 + 65), .ref (N0 + 85), .int (-1), .int (-1), .int 32]))) (h1 : F (N0 + 1) = some (.inl (cTr, 3, .inr (.inr (.inr (.inr (va_up (va_up (va_up (fun _ => none) 0 (some (N0 + 143))) 1 (some (N0 + 150))) 2 (some (N0 + 157))))))))) (h2 : F (N0 + 13) = some (.inr (3, [.ref (N0 + 14), .ref (N0 + 35), .ref (N0 + 57), .ref (N0 + 58), .ref (N0 + 59), .ref (N0 + 60), .int 0, .int 0, .ref (N0 + 61), .ref (N0 + 62)]))) (h3 : F (N0 + 157) = some (.inr (7, [.ref (N0 + 158), .ref (N0 + 159), .ref (N0 + 160), .ref (N0 + 161), .ref (N0 + 162), .ref (N0 + 163), .int 1]))) (h4 : F (N0 + 57) = some (.inl (cI, 20, .inl (fun _ => 0)))) (h5 : F (N0 + 58) = some (.inl (cI, 20, .inl (fun _ => 0)))) (h6 : F (N0 + 35) = some (.inl (cII, 21, .inr (.inr (.inr (.inr (fun j => if j < 21 then some ((N0 + 36) + j) else none))))))) (h7 : F (N0 + 36) = some (.inl (cI, 21, .inl (fun _ => 0)))) (h8 : F (N0 + 14) = some (.inl (cII, 20, .inr (.inr (.inr (.inr (fun j => if j < 20 then some ((N0 + 15) + j) else none))))))) (h9 : F (N0 + 158) = some (.inl (cC, 20, .inl (upd (fun _ => 0) 0 97)))) (h10 : F (N0 + 160) = some (.inl (cI, 20, .inl (fun _ => 0)))) (h11 : F (N0 + 15) = some (.inl (cI, 20, .inl (fun _ => 0)))) (h12 : F (N0 + 229) = some (.inl (cL, 1, .inr (.inl (fun _ => 0))))) : Met l yL_distance wsL_distance ({ frames := 4, cells := 0, slots := 0, locals := 97 }) (va_Pc [.ref N0, .int 2, .int 2, .ref (N0 + 229)] (fP N0 D vwCl (fty cI cC cL cD cII cTr cTm cIt cB) (fen ql) F n)) (fQi N0 D vwCl (fty cI cC cL cD cII cTr cTm cIt cB) (fun (r : Int32) (_ : Unit) => r = 0) (fun _ => (fu (fu (fu (fu (fu (fu F (N0 + 57) (.inl (cI, 20, .inl (upd (fun _ => 0) 0 1)))) (N0 + 58) (.inl (cI, 20, .inl (upd (fun _ => 0) 0 1)))) (N0 + 13) (.inr (3, [.ref (N0 + 14), .ref (N0 + 35), .ref (N0 + 57), .ref (N0 + 58), .ref (N0 + 59), .ref (N0 + 60), .int 0, .int 0, .ref (N0 + 61), .ref (N0 + 62)]))) (N0 + 36) (.inl (cI, 21, .inl (upd (fun _ => 0) 0 0)))) (N0 + 15) (.inl (cI, 20, .inl (upd (fun _ => 0) 0 0)))) (N0 + 229) (.inl (cL, 1, .inr (.inl (vp_updL (fun _ => 0) 0 0)))))) (fun _ => n)) 0 0 (fA N0) := by
  refine fx_startW (hh := [(0, 10, 13, 19)]) 5 rfl rfl (Nat.le_of_ble_eq_true rfl) ?_ rfl
  intro p e s m below meth c ls S htab hr hlocks hG hl
  have hl : lv_has ls 5 [(0, .ref N0), (1, .int 2), (2, .int 2), (3, .ref (N0 + 229))] := hl
  have lt_h0 := hG.1.lt h0
  have lt_h1 := hG.1.lt h1
  have lt_h2 := hG.1.lt h2
  have lt_h3 := hG.1.lt h3
  have lt_h4 := hG.1.lt h4
  have lt_h5 := hG.1.lt h5
  have lt_h6 := hG.1.lt h6
  have lt_h7 := hG.1.lt h7
  have lt_h8 := hG.1.lt h8
  have lt_h9 := hG.1.lt h9
  have lt_h10 := hG.1.lt h10
  have lt_h11 := hG.1.lt h11
  have lt_h12 := hG.1.lt h12
  refine lv_aload_n S.1 S.2.1 dL_distance_0 rfl (lv_at hl 3 rfl) ?_
  refine lv_iconst (v := 0) S.1 S.2.1 dL_distance_1 (by decide) ?_
  refine lv_aload_n S.1 S.2.1 dL_distance_2 rfl (lv_at hl 0 rfl) ?_
  refine lv_iload_n S.1 S.2.1 dL_distance_3 rfl (lv_at hl 1 rfl) ?_
  refine lv_iload_n S.1 S.2.1 dL_distance_4 rfl (lv_at hl 2 rfl) ?_
  refine fx_cVi (As := [.int 2, .int 2]) (rest := [.int 0, .ref (N0 + 229)]) S hG (k1282_X7_distance (by omega) h0 h1 h2 h3 h4 h5 h6 h7 h8 h9 h10 h11) h0 rfl (cwV 2 S.2.2.2.2 gL_distance_X7_distance rfl rfl rfl (by decide +kernel) ⟨Nat.le_of_ble_eq_true rfl, Nat.le_of_ble_eq_true rfl⟩) rfl hl.1 rfl (Nat.le_of_ble_eq_true rfl) dL_distance_5 ⟨Nat.le_of_ble_eq_true rfl, Nat.le_of_ble_eq_true rfl⟩ (fun rv_1 _ H locs hp hG => ?_)
  subst rv_1
  refine lv_i2l (v := 0) S.1 S.2.1 dL_distance_8 (by decide) ?_
  refine gx_last (f' := vp_updL (fun _ => 0) 0 0) S hG 2 (fu_at (by omega) (fu_at (by omega) (fu_at (by omega) (fu_at (by omega) (fu_at (by omega) h12))))) rfl (fin_l (by decide)) dL_distance_9 rfl (fun H locs hG => ?_)
  refine lv_goto (tgt := 17) S.1 S.2.1 dL_distance_10 (by decide) ?_
  refine lv_iconst (v := 0) S.1 S.2.1 dL_distance_17 (by decide) ?_
  exact fx_iret S hr hlocks () hG (rfl) dL_distance_18
theorem k1284_X10_left {n b1 : Nat} (hn : N0 + 231 ≤ n) (hb1 : N0 + 231 ≤ b1) (h0 : F b1 = some (.inl (cI, 0, .inl (fun _ => 0)))) (h1 : F (b1 + 1) = some (.inl (cI, 0, .inl (fun _ => 0)))) : Met l yX10_left wsX10_left ({ frames := 0, cells := 2, slots := 2, locals := 0 }) (va_Pc [.ref (N0 + 164), .ref (N0 + 176), .ref b1, .ref (N0 + 176), .ref (b1 + 1)] (fP N0 D vwCl (fty cI cC cL cD cII cTr cTm cIt cB) (fen ql) F n)) (fQr N0 D vwCl (fty cI cC cL cD cII cTr cTm cIt cB) (fun (r : Nat) (_ : Unit) => r = n) (fun _ => (fblk F n [.inl (cII, 1, .inr (.inr (.inr (.inr (fun j => if j < 1 then some ((n + 1) + j) else none))))), .inl (cI, 1, .inl (fun _ => 0))])) (fun _ => (n + 2))) 2 2 (fA N0) := by
  refine fx_start 9 rfl rfl (Nat.le_of_ble_eq_true rfl) ?_ rfl
  intro p e s m below meth c ls S hr hlocks hin hG hl
  have hl : lv_has ls 9 [(0, .ref (N0 + 164)), (1, .ref (N0 + 176)), (2, .ref b1), (3, .ref (N0 + 176)), (4, .ref (b1 + 1))] := hl
  have lt_h0 := hG.1.lt h0
  have lt_h1 := hG.1.lt h1
  refine lv_aload_n S.1 S.2.1 dX10_left_0 rfl (lv_at hl 2 rfl) ?_
  refine gx_alen (v := 0) S hG 0 h0 rfl (rfl) dX10_left_1 ?_
  refine lv_iconst (v := 1) S.1 S.2.1 dX10_left_2 (by decide) ?_
  refine lv_iadd S.1 S.2.1 dX10_left_3 ?_
  refine fx_topi (y := 1) (by decide) ?_
  refine lv_aload S.1 S.2.1 dX10_left_4 (lv_at hl 4 rfl) ?_
  refine gx_alen (v := 0) S hG 0 h1 rfl (rfl) dX10_left_6 ?_
  refine lv_iconst (v := 1) S.1 S.2.1 dX10_left_7 (by decide) ?_
  refine lv_iadd S.1 S.2.1 dX10_left_8 ?_
  refine fx_topi (y := 1) (by decide) ?_
  refine gx_mna (N' := 1) (K' := 1) S hG (by decide +kernel) (by decide +kernel) 0 4 rfl rfl (by decide) (by decide) (by decide) (by decide) (by decide) (by decide) (by decide) (by decide) dX10_left_9 (fun H hG => ?_)
  refine W.widen (k := 2) (n := 2) (by decide) (by decide) ?_
  refine lv_astore (lv' := [(5, .ref n), (0, .ref (N0 + 164)), (1, .ref (N0 + 176)), (2, .ref b1), (3, .ref (N0 + 176)), (4, .ref (b1 + 1))]) S.1 S.2.1 dX10_left_13 hl (by decide) rfl (fun ls hl => ?_)
  refine lv_aload_n S.1 S.2.1 dX10_left_15 rfl (lv_at hl 3 rfl) ?_
  refine gx_alen (v := 0) S hG 0 (fblk_sk 1 rfl (by omega) (fu_at (by omega) h0)) rfl (rfl) dX10_left_16 ?_
  refine lv_istore (lv' := [(6, .int 0), (5, .ref n), (0, .ref (N0 + 164)), (1, .ref (N0 + 176)), (2, .ref b1), (3, .ref (N0 + 176)), (4, .ref (b1 + 1))]) S.1 S.2.1 dX10_left_17 hl (by decide) rfl (fun ls hl => ?_)
  refine lv_iload S.1 S.2.1 dX10_left_19 (lv_at hl 0 rfl) ?_
  refine lv_if_lt (tgt := 228) S.1 S.2.1 dX10_left_21 (by decide) (fun c => absurd c (by decide)) (fun _ => ?_)
  refine lv_aload S.1 S.2.1 dX10_left_24 (lv_at hl 6 rfl) ?_
  refine gx_alen (v := 0) S hG 0 (fblk_sk 1 rfl (by omega) (fu_at (by omega) h1)) rfl (rfl) dX10_left_26 ?_
  refine lv_istore (lv' := [(7, .int 0), (6, .int 0), (5, .ref n), (0, .ref (N0 + 164)), (1, .ref (N0 + 176)), (2, .ref b1), (3, .ref (N0 + 176)), (4, .ref (b1 + 1))]) S.1 S.2.1 dX10_left_27 hl (by decide) rfl (fun ls hl => ?_)
  refine lv_iload S.1 S.2.1 dX10_left_29 (lv_at hl 0 rfl) ?_
  refine lv_if_lt (tgt := 222) S.1 S.2.1 dX10_left_31 (by decide) (fun c => absurd c (by decide)) (fun _ => ?_)
  refine lv_iload S.1 S.2.1 dX10_left_34 (lv_at hl 1 rfl) ?_
  refine lv_aload_n S.1 S.2.1 dX10_left_36 rfl (lv_at hl 5 rfl) ?_
  refine gx_alen (v := 0) S hG 0 (fblk_sk 1 rfl (by omega) (fu_at (by omega) h0)) rfl (rfl) dX10_left_37 ?_
  refine lv_icmp_ne (tgt := 52) S.1 S.2.1 dX10_left_38 (by decide) (fun c => absurd (by decide) c) (fun _ => ?_)
  refine lv_iload S.1 S.2.1 dX10_left_41 (lv_at hl 0 rfl) ?_
  refine lv_aload S.1 S.2.1 dX10_left_43 (lv_at hl 7 rfl) ?_
  refine gx_alen (v := 0) S hG 0 (fblk_sk 1 rfl (by omega) (fu_at (by omega) h1)) rfl (rfl) dX10_left_45 ?_
  refine lv_icmp_ne (tgt := 52) S.1 S.2.1 dX10_left_46 (by decide) (fun c => absurd (by decide) c) (fun _ => ?_)
  refine lv_goto (tgt := 216) S.1 S.2.1 dX10_left_49 (by decide) ?_
  refine lv_iinc (v := (-1)) (lv' := [(7, .int (-1)), (6, .int 0), (5, .ref n), (0, .ref (N0 + 164)), (1, .ref (N0 + 176)), (2, .ref b1), (3, .ref (N0 + 176)), (4, .ref (b1 + 1))]) S.1 S.2.1 dX10_left_216 hl (k := 0) rfl (by decide) (by decide) rfl (fun ls hl => ?_)
  refine lv_goto (tgt := 29) S.1 S.2.1 dX10_left_219 (by decide) ?_
  refine lv_iload S.1 S.2.1 dX10_left_29 (lv_at hl 0 rfl) ?_
  refine lv_if_lt (tgt := 222) S.1 S.2.1 dX10_left_31 (by decide) (fun _ => ?_) (fun c => absurd (by decide) c)
  refine lv_iinc (v := (-1)) (lv' := [(6, .int (-1)), (7, .int (-1)), (5, .ref n), (0, .ref (N0 + 164)), (1, .ref (N0 + 176)), (2, .ref b1), (3, .ref (N0 + 176)), (4, .ref (b1 + 1))]) S.1 S.2.1 dX10_left_222 hl (k := 1) rfl (by decide) (by decide) rfl (fun ls hl => ?_)
  refine lv_goto (tgt := 19) S.1 S.2.1 dX10_left_225 (by decide) ?_
  refine lv_iload S.1 S.2.1 dX10_left_19 (lv_at hl 0 rfl) ?_
  refine lv_if_lt (tgt := 228) S.1 S.2.1 dX10_left_21 (by decide) (fun _ => ?_) (fun c => absurd (by decide) c)
  refine lv_aload S.1 S.2.1 dX10_left_228 (lv_at hl 2 rfl) ?_
  have hG : fG N0 D vwCl (fty cI cC cL cD cII cTr cTm cIt cB) (fen ql) s (fblk F n [.inl (cII, 1, .inr (.inr (.inr (.inr (fun j => if j < 1 then some ((n + 1) + j) else none))))), .inl (cI, 1, .inl (fun _ => 0))]) (n + 2) H _ := hG.weak (fun a e h => by
    rcases fblk_cases 2 rfl h with ⟨k, rfl, hlt, hk⟩ | ⟨hout, h⟩
    · rcases (show k = 0 ∨ k = 1 by omega) with rfl | rfl
      · cases (show some (.inl (cII, 1, .inr (.inr (.inr (.inr (fun j => if j < 1 then some ((n + 1) + j) else none)))))) = some e from hk); exact (fblk_sk 1 rfl (by omega) fu_s)
      · cases (show some (.inl (cI, 1, .inl (fun _ => 0))) = some e from hk); exact (fblk_at 0 (by omega) rfl)
    · exact (fblk_sk 1 rfl (by omega) (fu_at (by omega) h)))
  exact fx_aret S hr (Or.inr ⟨_, rfl⟩) hlocks () hG (rfl) dX10_left_230
set_option maxHeartbeats 16000000 in
theorem k1285_X10_fills {n : Nat} (hn : N0 + 231 ≤ n) (h0 : F (N0 + 176) = some (.inr (11, [.ref (N0 + 177), .ref (N0 + 178), .ref (N0 + 179), .ref (N0 + 180), .int 1]))) (h1 : F (N0 + 177) = some (.inl (cI, 20, .inl (upd (fun _ => 0) 0 97)))) (h2 : F (N0 + 179) = some (.inl (cI, 20, .inl (upd (fun _ => 0) 0 0)))) (h3 : F (N0 + 164) = some (.inr (12, [.ref (N0 + 165), .int 0, .ref (N0 + 181), .int 0, .int 0, .int 0, .int (-1), .ref (ql 24), .ref (N0 + 182), .ref (N0 + 187), .ref (N0 + 208), .ref (N0 + 209), .ref (N0 + 210), .ref (N0 + 211), .ref (N0 + 212), .int 0, .ref (N0 + 213), .ref (N0 + 218), .ref (N0 + 223), .ref (N0 + 224), .ref (N0 + 225), .ref (N0 + 226), .ref (N0 + 227), .int 0, .int 0, .ref (N0 + 228), .null, .int (-1), .int 0, .int 0, .int 0]))) (h4 : F (N0 + 187) = some (.inl (cII, 20, .inr (.inr (.inr (.inr (fun j => if j < 20 then some ((N0 + 188) + j) else none))))))) (h5 : F (N0 + 188) = some (.inl (cI, 20, .inl (fun _ => 0)))) : Met l yX10_fills wsX10_fills ({ frames := 2, cells := 4, slots := 2, locals := 47 }) (va_Pc [.ref (N0 + 164), .ref (N0 + 176), .ref (N0 + 176)] (fP N0 D vwCl (fty cI cC cL cD cII cTr cTm cIt cB) (fen ql) F n)) (fQi N0 D vwCl (fty cI cC cL cD cII cTr cTm cIt cB) (fun (r : Int32) (_ : Unit) => r = 0) (fun _ => (fblk (fu F (N0 + 188) (.inl (cI, 20, .inl (upd (fun _ => 0) 0 0)))) n [.inl (cI, 0, .inl (fun _ => 0)), .inl (cI, 0, .inl (fun _ => 0)), .inl (cII, 1, .inr (.inr (.inr (.inr (fun j => if j < 1 then some ((n + 3) + j) else none))))), .inl (cI, 1, .inl (fun _ => 0))])) (fun _ => (n + 4))) 4 2 (fA N0) := by
  refine fx_start 6 rfl rfl (Nat.le_of_ble_eq_true rfl) ?_ rfl
  intro p e s m below meth c ls S hr hlocks hin hG hl
  have hl : lv_has ls 6 [(0, .ref (N0 + 164)), (1, .ref (N0 + 176)), (2, .ref (N0 + 176))] := hl
  have lt_h0 := hG.1.lt h0
  have lt_h1 := hG.1.lt h1
  have lt_h2 := hG.1.lt h2
  have lt_h3 := hG.1.lt h3
  have lt_h4 := hG.1.lt h4
  have lt_h5 := hG.1.lt h5
  refine lv_aload_n S.1 S.2.1 dX10_fills_0 rfl (lv_at hl 1 rfl) ?_
  refine gx_getN (C := RX9) (T := TX9) (N := 5) S hG h0 i_X10_fills_X9 rfl 4 (by decide) (List.mem_of_getElem? (i := 4) rfl) rfl dX10_fills_1 ?_
  refine lv_iconst (v := 1) S.1 S.2.1 dX10_fills_4 (by decide) ?_
  refine lv_isub S.1 S.2.1 dX10_fills_5 ?_
  refine fx_topi (y := 0) (by decide) ?_
  refine lv_istore_n (lv' := [(3, .int 0), (0, .ref (N0 + 164)), (1, .ref (N0 + 176)), (2, .ref (N0 + 176))]) S.1 S.2.1 dX10_fills_6 rfl hl (by decide) rfl (fun ls hl => ?_)
  refine lv_iload_n S.1 S.2.1 dX10_fills_7 rfl (lv_at hl 0 rfl) ?_
  refine lv_if_lt (tgt := 114) S.1 S.2.1 dX10_fills_8 (by decide) (fun c => absurd c (by decide)) (fun _ => ?_)
  refine lv_aload_n S.1 S.2.1 dX10_fills_11 rfl (lv_at hl 3 rfl) ?_
  refine gx_getN (C := RX9) (T := TX9) (N := 5) S hG h0 i_X10_fills_X9 rfl 4 (by decide) (List.mem_of_getElem? (i := 4) rfl) rfl dX10_fills_12 ?_
  refine lv_iconst (v := 1) S.1 S.2.1 dX10_fills_15 (by decide) ?_
  refine lv_isub S.1 S.2.1 dX10_fills_16 ?_
  refine fx_topi (y := 0) (by decide) ?_
  refine lv_istore (lv' := [(4, .int 0), (3, .int 0), (0, .ref (N0 + 164)), (1, .ref (N0 + 176)), (2, .ref (N0 + 176))]) S.1 S.2.1 dX10_fills_17 hl (by decide) rfl (fun ls hl => ?_)
  refine lv_iload S.1 S.2.1 dX10_fills_19 (lv_at hl 0 rfl) ?_
  refine lv_if_lt (tgt := 108) S.1 S.2.1 dX10_fills_21 (by decide) (fun c => absurd c (by decide)) (fun _ => ?_)
  refine lv_aload_n S.1 S.2.1 dX10_fills_24 rfl (lv_at hl 3 rfl) ?_
  refine gx_getN (C := RX9) (T := TX9) (N := 5) S hG h0 i_X10_fills_X9 rfl 0 (by decide) (List.mem_of_getElem? (i := 1) rfl) rfl dX10_fills_25 ?_
  refine lv_iload_n S.1 S.2.1 dX10_fills_28 rfl (lv_at hl 1 rfl) ?_
  refine gx_iald (v := 97) S hG 0 h1 rfl (fin_l (by decide)) (by decide) dX10_fills_29 ?_
  refine lv_aload_n S.1 S.2.1 dX10_fills_30 rfl (lv_at hl 4 rfl) ?_
  refine gx_getN (C := RX9) (T := TX9) (N := 5) S hG h0 i_X10_fills_X9 rfl 0 (by decide) (List.mem_of_getElem? (i := 1) rfl) rfl dX10_fills_31 ?_
  refine lv_iload S.1 S.2.1 dX10_fills_34 (lv_at hl 0 rfl) ?_
  refine gx_iald (v := 97) S hG 0 h1 rfl (fin_l (by decide)) (by decide) dX10_fills_36 ?_
  refine lv_icmp_ne (tgt := 44) S.1 S.2.1 dX10_fills_37 (by decide) (fun c => absurd (by decide) c) (fun _ => ?_)
  refine lv_iconst (v := 0) S.1 S.2.1 dX10_fills_40 (by decide) ?_
  refine lv_goto (tgt := 45) S.1 S.2.1 dX10_fills_41 (by decide) ?_
  refine lv_aload_n S.1 S.2.1 dX10_fills_45 rfl (lv_at hl 3 rfl) ?_
  refine gx_getN (C := RX9) (T := TX9) (N := 5) S hG h0 i_X10_fills_X9 rfl 2 (by decide) (List.mem_of_getElem? (i := 3) rfl) rfl dX10_fills_46 ?_
  refine lv_iload_n S.1 S.2.1 dX10_fills_49 rfl (lv_at hl 1 rfl) ?_
  refine gx_iald (v := 0) S hG 0 h2 rfl (fin_l (by decide)) (by decide) dX10_fills_50 ?_
  refine lv_aload_n S.1 S.2.1 dX10_fills_51 rfl (lv_at hl 4 rfl) ?_
  refine gx_getN (C := RX9) (T := TX9) (N := 5) S hG h0 i_X10_fills_X9 rfl 2 (by decide) (List.mem_of_getElem? (i := 3) rfl) rfl dX10_fills_52 ?_
  refine lv_iload S.1 S.2.1 dX10_fills_55 (lv_at hl 0 rfl) ?_
  refine gx_iald (v := 0) S hG 0 h2 rfl (fin_l (by decide)) (by decide) dX10_fills_57 ?_
  refine lv_icmp_ne (tgt := 65) S.1 S.2.1 dX10_fills_58 (by decide) (fun c => absurd (by decide) c) (fun _ => ?_)
  refine lv_iconst (v := 0) S.1 S.2.1 dX10_fills_61 (by decide) ?_
  refine lv_goto (tgt := 66) S.1 S.2.1 dX10_fills_62 (by decide) ?_
  refine lv_iadd S.1 S.2.1 dX10_fills_66 ?_
  refine fx_topi (y := 0) (by decide) ?_
  refine lv_istore (lv' := [(5, .int 0), (4, .int 0), (3, .int 0), (0, .ref (N0 + 164)), (1, .ref (N0 + 176)), (2, .ref (N0 + 176))]) S.1 S.2.1 dX10_fills_67 hl (by decide) rfl (fun ls hl => ?_)
  refine lv_aload_n S.1 S.2.1 dX10_fills_69 rfl (lv_at hl 3 rfl) ?_
  refine gx_get (C := RX10) (T := TX10) (N := 31) S hG h3 i_X10_fills_X10 rfl 9 (by decide) (by decide +kernel) rfl dX10_fills_70 ?_
  refine lv_iload_n S.1 S.2.1 dX10_fills_73 rfl (lv_at hl 2 rfl) ?_
  refine gx_aldq (x := (N0 + 188)) S hG 4 rfl h4 rfl (fin_l (by decide)) (rfl) dX10_fills_74 ?_
  refine lv_iload S.1 S.2.1 dX10_fills_75 (lv_at hl 1 rfl) ?_
  refine lv_iload S.1 S.2.1 dX10_fills_77 (lv_at hl 0 rfl) ?_
  refine lv_aload_n S.1 S.2.1 dX10_fills_79 rfl (lv_at hl 3 rfl) ?_
  refine lv_aload_n S.1 S.2.1 dX10_fills_80 rfl (lv_at hl 4 rfl) ?_
  refine lv_aload_n S.1 S.2.1 dX10_fills_81 rfl (lv_at hl 4 rfl) ?_
  refine lv_iload_n S.1 S.2.1 dX10_fills_82 rfl (lv_at hl 2 rfl) ?_
  refine fx_cVNr (host := "TreeDifferModel") (As := [.int 0]) (rest := [.ref (N0 + 176), .ref (N0 + 164), .int 0, .int 0, .ref (N0 + 188)]) S hG (k195_X9_kids (by omega) h0) h0 rfl ⟨(va_cnB 1 S.2.2.2.2 gX10_fills_X9_kids_n173 rfl rfl rfl (hG.nest (show _ ∈ fen2.2.2.1 from by decide)) (S.2.2.2.2 (.initialized RX9) (by decide +kernel)) (by decide +kernel) ⟨Nat.le_of_ble_eq_true rfl, Nat.le_of_ble_eq_true rfl⟩), S.2.2.2.2 (.instanceMethod yX9_kids) (by decide +kernel), S.2.2.2.2 (.selects RX9 yX9_kids yX9_kids) (by decide +kernel)⟩ rfl hl.1 rfl (Nat.le_of_ble_eq_true rfl) dX10_fills_83 ⟨Nat.le_of_ble_eq_true rfl, Nat.le_of_ble_eq_true rfl⟩ (fun rv_1 _ H locs hp hG => ?_)
  subst rv_1
  refine W.widen (k := 1) (n := 0) (by decide) (by decide) ?_
  refine lv_aload_n S.1 S.2.1 dX10_fills_86 rfl (lv_at hl 5 rfl) ?_
  refine lv_aload_n S.1 S.2.1 dX10_fills_87 rfl (lv_at hl 5 rfl) ?_
  refine lv_iload S.1 S.2.1 dX10_fills_88 (lv_at hl 1 rfl) ?_
  refine fx_cVNr (host := "TreeDifferModel") (As := [.int 0]) (rest := [.ref (N0 + 176), .ref n, .ref (N0 + 176), .ref (N0 + 164), .int 0, .int 0, .ref (N0 + 188)]) S hG (k195_X9_kids (by omega) (fblk_sk 1 rfl (by omega) h0)) (fblk_sk 1 rfl (by omega) h0) rfl ⟨(va_cnB 1 S.2.2.2.2 gX10_fills_X9_kids_n173 rfl rfl rfl (hG.nest (show _ ∈ fen2.2.2.1 from by decide)) (S.2.2.2.2 (.initialized RX9) (by decide +kernel)) (by decide +kernel) ⟨Nat.le_of_ble_eq_true rfl, Nat.le_of_ble_eq_true rfl⟩), S.2.2.2.2 (.instanceMethod yX9_kids) (by decide +kernel), S.2.2.2.2 (.selects RX9 yX9_kids yX9_kids) (by decide +kernel)⟩ rfl hl.1 rfl (Nat.le_of_ble_eq_true rfl) dX10_fills_90 ⟨Nat.le_of_ble_eq_true rfl, Nat.le_of_ble_eq_true rfl⟩ (fun rv_2 _ H locs hp hG => ?_)
  subst rv_2
  refine W.widen (k := 2) (n := 0) (by decide) (by decide) ?_
  refine fx_cVr (As := [.ref (N0 + 176), .ref n, .ref (N0 + 176), .ref (n + 1)]) (rest := [.int 0, .int 0, .ref (N0 + 188)]) S hG (k1284_X10_left (by omega) (by omega) (fblk_sk 1 rfl (by omega) (fblk_at 0 (by omega) rfl)) (fblk_at 0 (by omega) rfl)) (fblk_sk 1 rfl (by omega) (fblk_sk 1 rfl (by omega) h3)) rfl (cwV 4 S.2.2.2.2 gX10_fills_X10_left rfl rfl rfl (by decide +kernel) ⟨Nat.le_of_ble_eq_true rfl, Nat.le_of_ble_eq_true rfl⟩) rfl hl.1 rfl (Nat.le_of_ble_eq_true rfl) dX10_fills_93 ⟨Nat.le_of_ble_eq_true rfl, Nat.le_of_ble_eq_true rfl⟩ (fun rv_3 _ H locs hp hG => ?_)
  subst rv_3
  refine W.widen (k := 4) (n := 2) (by decide) (by decide) ?_
  refine lv_iconst (v := 0) S.1 S.2.1 dX10_fills_96 (by decide) ?_
  refine gx_aldq (x := (n + 3)) S hG 4 rfl (fblk_at 0 (by omega) rfl) rfl (fin_l (by decide)) (rfl) dX10_fills_97 ?_
  refine lv_iconst (v := 0) S.1 S.2.1 dX10_fills_98 (by decide) ?_
  refine gx_iald (v := 0) S hG 0 (fblk_at 1 (by omega) rfl) rfl (fin_l (by decide)) (by decide) dX10_fills_99 ?_
  refine lv_iadd S.1 S.2.1 dX10_fills_100 ?_
  refine fx_topi (y := 0) (by decide) ?_
  refine gx_iast (f' := upd (fun _ => 0) 0 0) S hG 0 (fblk_sk 2 rfl (by omega) (fblk_sk 1 rfl (by omega) (fblk_sk 1 rfl (by omega) h5))) rfl (fin_l (by decide)) dX10_fills_101 (rfl) (fun H locs hG => ?_)
  refine lv_iinc (v := (-1)) (lv' := [(4, .int (-1)), (5, .int 0), (3, .int 0), (0, .ref (N0 + 164)), (1, .ref (N0 + 176)), (2, .ref (N0 + 176))]) S.1 S.2.1 dX10_fills_102 hl (k := 1) rfl (by decide) (by decide) rfl (fun ls hl => ?_)
  refine lv_goto (tgt := 19) S.1 S.2.1 dX10_fills_105 (by decide) ?_
  refine lv_iload S.1 S.2.1 dX10_fills_19 (lv_at hl 0 rfl) ?_
  refine lv_if_lt (tgt := 108) S.1 S.2.1 dX10_fills_21 (by decide) (fun _ => ?_) (fun c => absurd (by decide) c)
  refine lv_iinc (v := (-1)) (lv' := [(3, .int (-1)), (4, .int (-1)), (5, .int 0), (0, .ref (N0 + 164)), (1, .ref (N0 + 176)), (2, .ref (N0 + 176))]) S.1 S.2.1 dX10_fills_108 hl (k := 2) rfl (by decide) (by decide) rfl (fun ls hl => ?_)
  refine lv_goto (tgt := 7) S.1 S.2.1 dX10_fills_111 (by decide) ?_
  refine lv_iload_n S.1 S.2.1 dX10_fills_7 rfl (lv_at hl 0 rfl) ?_
  refine lv_if_lt (tgt := 114) S.1 S.2.1 dX10_fills_8 (by decide) (fun _ => ?_) (fun c => absurd (by decide) c)
  refine lv_aload_n S.1 S.2.1 dX10_fills_114 rfl (lv_at hl 3 rfl) ?_
  refine gx_get (C := RX10) (T := TX10) (N := 31) S hG (fu_at (by omega) (fblk_sk 2 rfl (by omega) (fblk_sk 1 rfl (by omega) (fblk_sk 1 rfl (by omega) h3)))) i_X10_fills_X10 rfl 9 (by decide) (by decide +kernel) rfl dX10_fills_115 ?_
  refine lv_iconst (v := 0) S.1 S.2.1 dX10_fills_118 (by decide) ?_
  refine gx_aldq (x := (N0 + 188)) S hG 4 rfl (fu_at (by omega) (fblk_sk 2 rfl (by omega) (fblk_sk 1 rfl (by omega) (fblk_sk 1 rfl (by omega) h4)))) rfl (fin_l (by decide)) (rfl) dX10_fills_119 ?_
  refine lv_iconst (v := 0) S.1 S.2.1 dX10_fills_120 (by decide) ?_
  refine gx_iald (v := 0) S hG 0 fu_s rfl (fin_l (by decide)) (by decide) dX10_fills_121 ?_
  have hG : fG N0 D vwCl (fty cI cC cL cD cII cTr cTm cIt cB) (fen ql) s (fblk (fu F (N0 + 188) (.inl (cI, 20, .inl (upd (fun _ => 0) 0 0)))) n [.inl (cI, 0, .inl (fun _ => 0)), .inl (cI, 0, .inl (fun _ => 0)), .inl (cII, 1, .inr (.inr (.inr (.inr (fun j => if j < 1 then some ((n + 3) + j) else none))))), .inl (cI, 1, .inl (fun _ => 0))]) (n + 4) H locs := hG.weak (fun a e h => by
    rcases fblk_cases 4 rfl h with ⟨k, rfl, hlt, hk⟩ | ⟨hout, h⟩
    · rcases (show k = 0 ∨ k = 1 ∨ k = 2 ∨ k = 3 by omega) with rfl | rfl | rfl | rfl
      · cases (show some (.inl (cI, 0, .inl (fun _ => 0))) = some e from hk); exact (fu_at (by omega) (fblk_sk 2 rfl (by omega) (fblk_sk 1 rfl (by omega) (fblk_at 0 (by omega) rfl))))
      · cases (show some (.inl (cI, 0, .inl (fun _ => 0))) = some e from hk); exact (fu_at (by omega) (fblk_sk 2 rfl (by omega) (fblk_at 0 (by omega) rfl)))
      · cases (show some (.inl (cII, 1, .inr (.inr (.inr (.inr (fun j => if j < 1 then some ((n + 3) + j) else none)))))) = some e from hk); exact (fu_at (by omega) (fblk_at 0 (by omega) rfl))
      · cases (show some (.inl (cI, 1, .inl (fun _ => 0))) = some e from hk); exact (fu_at (by omega) (fblk_at 1 (by omega) rfl))
    · rcases fu_cases h with ⟨rfl, he⟩ | ⟨hne0, h⟩
      · cases he; exact fu_s
      · exact (fu_at (by omega) (fblk_sk 2 rfl (by omega) (fblk_sk 1 rfl (by omega) (fblk_sk 1 rfl (by omega) h)))))
  exact fx_iret S hr hlocks () hG (rfl) dX10_fills_122
theorem k1286_X10_distance {n : Nat} (hn : N0 + 231 ≤ n) (h0 : F (N0 + 164) = some (.inr (12, [.ref (N0 + 165), .int 0, .ref (N0 + 181), .int 0, .int 0, .int 0, .int (-1), .ref (ql 24), .ref (N0 + 182), .ref (N0 + 187), .ref (N0 + 208), .ref (N0 + 209), .ref (N0 + 210), .ref (N0 + 211), .ref (N0 + 212), .int 0, .ref (N0 + 213), .ref (N0 + 218), .ref (N0 + 223), .ref (N0 + 224), .ref (N0 + 225), .ref (N0 + 226), .ref (N0 + 227), .int 0, .int 0, .ref (N0 + 228), .null, .int (-1), .int 0, .int 0, .int 0]))) (h1 : F (N0 + 165) = some (.inl (cTm, 3, .inr (.inr (.inr (.inr (va_up (va_up (va_up (fun _ => none) 0 (some (N0 + 166))) 1 (some (N0 + 171))) 2 (some (N0 + 176))))))))) (h2 : F (N0 + 176) = some (.inr (11, [.ref (N0 + 177), .ref (N0 + 178), .ref (N0 + 179), .ref (N0 + 180), .int 1]))) (h3 : F (N0 + 177) = some (.inl (cI, 20, .inl (upd (fun _ => 0) 0 97)))) (h4 : F (N0 + 179) = some (.inl (cI, 20, .inl (upd (fun _ => 0) 0 0)))) (h5 : F (N0 + 187) = some (.inl (cII, 20, .inr (.inr (.inr (.inr (fun j => if j < 20 then some ((N0 + 188) + j) else none))))))) (h6 : F (N0 + 188) = some (.inl (cI, 20, .inl (fun _ => 0)))) : Met l yX10_distance wsX10_distance ({ frames := 3, cells := 4, slots := 2, locals := 72 }) (va_Pc [.ref (N0 + 164), .int 2, .int 2] (fP N0 D vwCl (fty cI cC cL cD cII cTr cTm cIt cB) (fen ql) F n)) (fQi N0 D vwCl (fty cI cC cL cD cII cTr cTm cIt cB) (fun (r : Int32) (_ : Unit) => r = 0) (fun _ => (fblk (fu (fu F (N0 + 164) (.inr (12, [.ref (N0 + 165), .int 0, .ref (N0 + 181), .int 0, .int 0, .int 0, .int (-1), .ref (ql 24), .ref (N0 + 182), .ref (N0 + 187), .ref (N0 + 208), .ref (N0 + 209), .ref (N0 + 210), .ref (N0 + 211), .ref (N0 + 212), .int 0, .ref (N0 + 213), .ref (N0 + 218), .ref (N0 + 223), .ref (N0 + 224), .ref (N0 + 225), .ref (N0 + 226), .ref (N0 + 227), .int 0, .int 0, .ref (N0 + 228), .null, .int (-1), .int 0, .int 0, .int 0]))) (N0 + 188) (.inl (cI, 20, .inl (upd (fun _ => 0) 0 0)))) n [.inl (cI, 0, .inl (fun _ => 0)), .inl (cI, 0, .inl (fun _ => 0)), .inl (cII, 1, .inr (.inr (.inr (.inr (fun j => if j < 1 then some ((n + 3) + j) else none))))), .inl (cI, 1, .inl (fun _ => 0))])) (fun _ => (n + 4))) 4 2 (fA N0) := by
  refine fx_start 3 rfl rfl (Nat.le_of_ble_eq_true rfl) ?_ rfl
  intro p e s m below meth c ls S hr hlocks hin hG hl
  have hl : lv_has ls 3 [(0, .ref (N0 + 164)), (1, .int 2), (2, .int 2)] := hl
  have lt_h0 := hG.1.lt h0
  have lt_h1 := hG.1.lt h1
  have lt_h2 := hG.1.lt h2
  have lt_h3 := hG.1.lt h3
  have lt_h4 := hG.1.lt h4
  have lt_h5 := hG.1.lt h5
  have lt_h6 := hG.1.lt h6
  refine lv_aload_n S.1 S.2.1 dX10_distance_0 rfl (lv_at hl 0 rfl) ?_
  refine lv_iload_n S.1 S.2.1 dX10_distance_1 rfl (lv_at hl 1 rfl) ?_
  refine lv_iload_n S.1 S.2.1 dX10_distance_2 rfl (lv_at hl 2 rfl) ?_
  refine fx_cVi (As := [.int 2, .int 2]) (rest := []) S hG (k530_X10_areNone (by omega) h0) h0 rfl (cwV 2 S.2.2.2.2 gX10_distance_X10_areNone rfl rfl rfl (by decide +kernel) ⟨Nat.le_of_ble_eq_true rfl, Nat.le_of_ble_eq_true rfl⟩) rfl hl.1 rfl (Nat.le_of_ble_eq_true rfl) dX10_distance_3 ⟨Nat.le_of_ble_eq_true rfl, Nat.le_of_ble_eq_true rfl⟩ (fun rv_1 _ H locs hp hG => ?_)
  subst rv_1
  refine lv_if_eq (tgt := 13) S.1 S.2.1 dX10_distance_6 (by decide) (fun _ => ?_) (fun c => absurd (by decide) c)
  refine lv_aload_n S.1 S.2.1 dX10_distance_13 rfl (lv_at hl 0 rfl) ?_
  refine lv_aload_n S.1 S.2.1 dX10_distance_14 rfl (lv_at hl 0 rfl) ?_
  refine gx_get (C := RX10) (T := TX10) (N := 31) S hG fu_s i_X10_distance_X10 rfl 0 (by decide) (by decide +kernel) rfl dX10_distance_15 ?_
  refine lv_iload_n S.1 S.2.1 dX10_distance_18 rfl (lv_at hl 1 rfl) ?_
  refine gx_aldq (x := (N0 + 176)) S hG 6 rfl (fu_at (by omega) h1) rfl (fin_l (by decide)) (rfl) dX10_distance_19 ?_
  refine lv_aload_n S.1 S.2.1 dX10_distance_20 rfl (lv_at hl 0 rfl) ?_
  refine gx_get (C := RX10) (T := TX10) (N := 31) S hG fu_s i_X10_distance_X10 rfl 0 (by decide) (by decide +kernel) rfl dX10_distance_21 ?_
  refine lv_iload_n S.1 S.2.1 dX10_distance_24 rfl (lv_at hl 2 rfl) ?_
  refine gx_aldq (x := (N0 + 176)) S hG 6 rfl (fu_at (by omega) h1) rfl (fin_l (by decide)) (rfl) dX10_distance_25 ?_
  refine fx_cVi (As := [.ref (N0 + 176), .ref (N0 + 176)]) (rest := []) S hG (k1285_X10_fills (by omega) (fu_at (by omega) h2) (fu_at (by omega) h3) (fu_at (by omega) h4) fu_s (fu_at (by omega) h5) (fu_at (by omega) h6)) fu_s rfl (cwV 2 S.2.2.2.2 gX10_distance_X10_fills rfl rfl rfl (by decide +kernel) ⟨Nat.le_of_ble_eq_true rfl, Nat.le_of_ble_eq_true rfl⟩) rfl hl.1 rfl (Nat.le_of_ble_eq_true rfl) dX10_distance_26 ⟨Nat.le_of_ble_eq_true rfl, Nat.le_of_ble_eq_true rfl⟩ (fun rv_2 _ H locs hp hG => ?_)
  subst rv_2
  refine W.widen (k := 4) (n := 2) (by decide) (by decide) ?_
  have hG : fG N0 D vwCl (fty cI cC cL cD cII cTr cTm cIt cB) (fen ql) s (fblk (fu (fu F (N0 + 164) (.inr (12, [.ref (N0 + 165), .int 0, .ref (N0 + 181), .int 0, .int 0, .int 0, .int (-1), .ref (ql 24), .ref (N0 + 182), .ref (N0 + 187), .ref (N0 + 208), .ref (N0 + 209), .ref (N0 + 210), .ref (N0 + 211), .ref (N0 + 212), .int 0, .ref (N0 + 213), .ref (N0 + 218), .ref (N0 + 223), .ref (N0 + 224), .ref (N0 + 225), .ref (N0 + 226), .ref (N0 + 227), .int 0, .int 0, .ref (N0 + 228), .null, .int (-1), .int 0, .int 0, .int 0]))) (N0 + 188) (.inl (cI, 20, .inl (upd (fun _ => 0) 0 0)))) n [.inl (cI, 0, .inl (fun _ => 0)), .inl (cI, 0, .inl (fun _ => 0)), .inl (cII, 1, .inr (.inr (.inr (.inr (fun j => if j < 1 then some ((n + 3) + j) else none))))), .inl (cI, 1, .inl (fun _ => 0))]) (n + 4) H locs := hG.weak (fun a e h => by
    rcases fblk_cases 4 rfl h with ⟨k, rfl, hlt, hk⟩ | ⟨hout, h⟩
    · rcases (show k = 0 ∨ k = 1 ∨ k = 2 ∨ k = 3 by omega) with rfl | rfl | rfl | rfl
      · cases (show some (.inl (cI, 0, .inl (fun _ => 0))) = some e from hk); exact (fblk_at 0 (by omega) rfl)
      · cases (show some (.inl (cI, 0, .inl (fun _ => 0))) = some e from hk); exact (fblk_at 1 (by omega) rfl)
      · cases (show some (.inl (cII, 1, .inr (.inr (.inr (.inr (fun j => if j < 1 then some ((n + 3) + j) else none)))))) = some e from hk); exact (fblk_at 2 (by omega) rfl)
      · cases (show some (.inl (cI, 1, .inl (fun _ => 0))) = some e from hk); exact (fblk_at 3 (by omega) rfl)
    · rcases fu_cases h with ⟨rfl, he⟩ | ⟨hne0, h⟩
      · cases he; exact (fblk_sk 4 rfl (by omega) fu_s)
      · skip
        rcases fu_cases h with ⟨rfl, he⟩ | ⟨hne1, h⟩
        · cases he; exact (fblk_sk 4 rfl (by omega) (fu_at (by omega) fu_s))
        · exact (fblk_sk 4 rfl (by omega) (fu_at (by omega) (fu_at (by omega) h))))
  exact fx_iret S hr hlocks () hG (rfl) dX10_distance_29
theorem k1287_X7_distance {n : Nat} {a2 : Int32} (g_a2_ge_3 : 3 ≤ a2) (hst : l.stackTraces = false) (hn : N0 + 231 ≤ n) (h0 : F N0 = some (.inr (9, [.ref (N0 + 1), .ref (N0 + 2), .ref (N0 + 11), .ref (N0 + 13), .ref (N0 + 63), .ref (N0 + 65), .ref (N0 + 85), .int (-1), .int (-1), .int 32]))) (h1 : F (N0 + 1) = some (.inl (cTr, 3, .inr (.inr (.inr (.inr (va_up (va_up (va_up (fun _ => none) 0 (some (N0 + 143))) 1 (some (N0 + 150))) 2 (some (N0 + 157))))))))) : vx_Met l yX7_distance wsX7_distance ({ frames := 7, cells := 1, slots := 6, locals := 103 }) (va_Pc [.ref N0, .int 2, .int a2] (fP N0 D vwCl (fty cI cC cL cD cII cTr cTm cIt cB) (fen ql) F n)) (fNo N0 D vwCl (fty cI cC cL cD cII cTr cTm cIt cB) F n) (fXC N0 D vwCl (fty cI cC cL cD cII cTr cTm cIt cB) "java/lang/IndexOutOfBoundsException" F n) 1 6 (fA N0) := by
  refine fx_startX 5 rfl rfl (Nat.le_of_ble_eq_true rfl) ?_ rfl
  intro p e s m below meth c ls S htab hlocks hG hl
  have hl : lv_has ls 5 [(0, .ref N0), (1, .int 2), (2, .int a2)] := hl
  have lt_h0 := hG.1.lt h0
  have lt_h1 := hG.1.lt h1
  refine lv_aload_n S.1 S.2.1 dX7_distance_0 rfl (lv_at hl 0 rfl) ?_
  refine lv_iload_n S.1 S.2.1 dX7_distance_1 rfl (lv_at hl 1 rfl) ?_
  refine fx_cVr (As := [.int 2]) (rest := []) S hG (k48_X7_treeAt (by omega) h0 h1) h0 rfl (cwV 1 S.2.2.2.2 gX7_distance_X7_treeAt rfl rfl rfl (by decide +kernel) ⟨Nat.le_of_ble_eq_true rfl, Nat.le_of_ble_eq_true rfl⟩) rfl hl.1 rfl (Nat.le_of_ble_eq_true rfl) dX7_distance_2 ⟨Nat.le_of_ble_eq_true rfl, Nat.le_of_ble_eq_true rfl⟩ (fun rv_1 _ H locs hp hG => ?_)
  subst rv_1
  refine lv_astore_n (lv' := [(3, .ref (N0 + 157)), (0, .ref N0), (1, .int 2), (2, .int a2)]) S.1 S.2.1 dX7_distance_5 rfl hl (by decide) rfl (fun ls hl => ?_)
  refine lv_aload_n S.1 S.2.1 dX7_distance_6 rfl (lv_at hl 1 rfl) ?_
  refine lv_iload_n S.1 S.2.1 dX7_distance_7 rfl (lv_at hl 3 rfl) ?_
  refine fx_xV (As := [.int a2]) (rest := []) S hG (k478_X7_treeAt g_a2_ge_3 hst (by omega)) h0 rfl (cwV 1 S.2.2.2.2 gX7_distance_X7_treeAt rfl rfl rfl (by decide +kernel) ⟨Nat.le_of_ble_eq_true rfl, Nat.le_of_ble_eq_true rfl⟩) rfl hl.1 rfl (Nat.le_of_ble_eq_true rfl) dX7_distance_8 ⟨Nat.le_of_ble_eq_true rfl, Nat.le_of_ble_eq_true rfl⟩ (fun ceq_2 q_2 H locs n_3 hn_3 hG h1q_2 h2q_2 h3q_2 => ?_)
  exact fx_out htab hlocks hG (by omega) h1q_2 h2q_2 h3q_2 (by decide) (by decide)
theorem k1288_L_distance {n : Nat} {a2 : Int32} (g_a2_ge_3 : 3 ≤ a2) (hst : l.stackTraces = false) (hn : N0 + 231 ≤ n) (h0 : F N0 = some (.inr (9, [.ref (N0 + 1), .ref (N0 + 2), .ref (N0 + 11), .ref (N0 + 13), .ref (N0 + 63), .ref (N0 + 65), .ref (N0 + 85), .int (-1), .int (-1), .int 32]))) (h1 : F (N0 + 1) = some (.inl (cTr, 3, .inr (.inr (.inr (.inr (va_up (va_up (va_up (fun _ => none) 0 (some (N0 + 143))) 1 (some (N0 + 150))) 2 (some (N0 + 157))))))))) : Met l yL_distance wsL_distance ({ frames := 8, cells := 1, slots := 6, locals := 127 }) (va_Pc [.ref N0, .int 2, .int a2, .ref (N0 + 229)] (fP N0 D vwCl (fty cI cC cL cD cII cTr cTm cIt cB) (fen ql) F n)) (fQi N0 D vwCl (fty cI cC cL cD cII cTr cTm cIt cB) (fun (r : Int32) (u : Nat) => r = 1 ∧ n ≤ u) (fun _ => F) (fun u => u)) 1 6 (fA N0) := by
  refine fx_startW (hh := [(0, 10, 13, 19)]) 5 rfl rfl (Nat.le_of_ble_eq_true rfl) ?_ rfl
  intro p e s m below meth c ls S htab hr hlocks hG hl
  have hl : lv_has ls 5 [(0, .ref N0), (1, .int 2), (2, .int a2), (3, .ref (N0 + 229))] := hl
  have lt_h0 := hG.1.lt h0
  have lt_h1 := hG.1.lt h1
  refine lv_aload_n S.1 S.2.1 dL_distance_0 rfl (lv_at hl 3 rfl) ?_
  refine lv_iconst (v := 0) S.1 S.2.1 dL_distance_1 (by decide) ?_
  refine lv_aload_n S.1 S.2.1 dL_distance_2 rfl (lv_at hl 0 rfl) ?_
  refine lv_iload_n S.1 S.2.1 dL_distance_3 rfl (lv_at hl 1 rfl) ?_
  refine lv_iload_n S.1 S.2.1 dL_distance_4 rfl (lv_at hl 2 rfl) ?_
  refine fx_xV (As := [.int 2, .int a2]) (rest := [.int 0, .ref (N0 + 229)]) S hG (k1287_X7_distance g_a2_ge_3 hst (by omega) h0 h1) h0 rfl (cwV 2 S.2.2.2.2 gL_distance_X7_distance rfl rfl rfl (by decide +kernel) ⟨Nat.le_of_ble_eq_true rfl, Nat.le_of_ble_eq_true rfl⟩) rfl hl.1 rfl (Nat.le_of_ble_eq_true rfl) dL_distance_5 ⟨Nat.le_of_ble_eq_true rfl, Nat.le_of_ble_eq_true rfl⟩ (fun ceq_1 q_1 H locs n_2 hn_2 hG h1q_1 h2q_1 h3q_1 => ?_)
  refine fx_catch (hh := [(0, 10, 13, 19)]) S htab hG h1q_1 h2q_1 h3q_1 [] ⟨0, 10, 13, 19⟩ [] rfl [] (fun z hz => absurd hz List.not_mem_nil) (by decide) (by decide) (by decide +kernel) (List.mem_of_getElem? (i := 2) rfl) ?_
  refine lv_astore (lv' := [(4, .ref q_1), (0, .ref N0), (1, .int 2), (2, .int a2), (3, .ref (N0 + 229))]) S.1 S.2.1 dL_distance_13 hl (by decide) rfl (fun ls hl => ?_)
  refine lv_iconst (v := 1) S.1 S.2.1 dL_distance_15 (by decide) ?_
  exact fx_iret S hr hlocks n_2 hG (⟨rfl, hn_2⟩) dL_distance_16
theorem k1289_X10_distance {n : Nat} {a2 : Int32} (g_a2_ge_3 : 3 ≤ a2) (hn : N0 + 231 ≤ n) (h0 : F (N0 + 164) = some (.inr (12, [.ref (N0 + 165), .int 0, .ref (N0 + 181), .int 0, .int 0, .int 0, .int (-1), .ref (ql 24), .ref (N0 + 182), .ref (N0 + 187), .ref (N0 + 208), .ref (N0 + 209), .ref (N0 + 210), .ref (N0 + 211), .ref (N0 + 212), .int 0, .ref (N0 + 213), .ref (N0 + 218), .ref (N0 + 223), .ref (N0 + 224), .ref (N0 + 225), .ref (N0 + 226), .ref (N0 + 227), .int 0, .int 0, .ref (N0 + 228), .null, .int (-1), .int 0, .int 0, .int 0]))) : Met l yX10_distance wsX10_distance ({ frames := 3, cells := 0, slots := 0, locals := 64 }) (va_Pc [.ref (N0 + 164), .int 2, .int a2] (fP N0 D vwCl (fty cI cC cL cD cII cTr cTm cIt cB) (fen ql) F n)) (fQi N0 D vwCl (fty cI cC cL cD cII cTr cTm cIt cB) (fun (r : Int32) (_ : Unit) => r = 0) (fun _ => (fu F (N0 + 164) (.inr (12, [.ref (N0 + 165), .int 1, .ref (N0 + 181), .int 0, .int 0, .int 0, .int (-1), .ref (ql 24), .ref (N0 + 182), .ref (N0 + 187), .ref (N0 + 208), .ref (N0 + 209), .ref (N0 + 210), .ref (N0 + 211), .ref (N0 + 212), .int 0, .ref (N0 + 213), .ref (N0 + 218), .ref (N0 + 223), .ref (N0 + 224), .ref (N0 + 225), .ref (N0 + 226), .ref (N0 + 227), .int 0, .int 0, .ref (N0 + 228), .null, .int (-1), .int 0, .int 0, .int 0])))) (fun _ => n)) 0 0 (fA N0) := by
  refine fx_start 3 rfl rfl (Nat.le_of_ble_eq_true rfl) ?_ rfl
  intro p e s m below meth c ls S hr hlocks hin hG hl
  have hl : lv_has ls 3 [(0, .ref (N0 + 164)), (1, .int 2), (2, .int a2)] := hl
  have lt_h0 := hG.1.lt h0
  refine lv_aload_n S.1 S.2.1 dX10_distance_0 rfl (lv_at hl 0 rfl) ?_
  refine lv_iload_n S.1 S.2.1 dX10_distance_1 rfl (lv_at hl 1 rfl) ?_
  refine lv_iload_n S.1 S.2.1 dX10_distance_2 rfl (lv_at hl 2 rfl) ?_
  refine fx_cVi (As := [.int 2, .int a2]) (rest := []) S hG (k535_X10_areNone g_a2_ge_3 (by omega) h0) h0 rfl (cwV 2 S.2.2.2.2 gX10_distance_X10_areNone rfl rfl rfl (by decide +kernel) ⟨Nat.le_of_ble_eq_true rfl, Nat.le_of_ble_eq_true rfl⟩) rfl hl.1 rfl (Nat.le_of_ble_eq_true rfl) dX10_distance_3 ⟨Nat.le_of_ble_eq_true rfl, Nat.le_of_ble_eq_true rfl⟩ (fun rv_1 _ H locs hp hG => ?_)
  subst rv_1
  refine lv_if_eq (tgt := 13) S.1 S.2.1 dX10_distance_6 (by decide) (fun c => absurd c (by decide)) (fun _ => ?_)
  refine lv_iconst (v := 0) S.1 S.2.1 dX10_distance_9 (by decide) ?_
  refine lv_goto (tgt := 29) S.1 S.2.1 dX10_distance_10 (by decide) ?_
  exact fx_iret S hr hlocks () hG (rfl) dX10_distance_29
theorem k1290_X7_distance {n : Nat} {a1 : Int32} {a2 : Int32} (g_a1_ge_3 : 3 ≤ a1) (hst : l.stackTraces = false) (hn : N0 + 231 ≤ n) (h0 : F N0 = some (.inr (9, [.ref (N0 + 1), .ref (N0 + 2), .ref (N0 + 11), .ref (N0 + 13), .ref (N0 + 63), .ref (N0 + 65), .ref (N0 + 85), .int (-1), .int (-1), .int 32]))) : vx_Met l yX7_distance wsX7_distance ({ frames := 7, cells := 1, slots := 6, locals := 103 }) (va_Pc [.ref N0, .int a1, .int a2] (fP N0 D vwCl (fty cI cC cL cD cII cTr cTm cIt cB) (fen ql) F n)) (fNo N0 D vwCl (fty cI cC cL cD cII cTr cTm cIt cB) F n) (fXC N0 D vwCl (fty cI cC cL cD cII cTr cTm cIt cB) "java/lang/IndexOutOfBoundsException" F n) 1 6 (fA N0) := by
  refine fx_startX 5 rfl rfl (Nat.le_of_ble_eq_true rfl) ?_ rfl
  intro p e s m below meth c ls S htab hlocks hG hl
  have hl : lv_has ls 5 [(0, .ref N0), (1, .int a1), (2, .int a2)] := hl
  have lt_h0 := hG.1.lt h0
  refine lv_aload_n S.1 S.2.1 dX7_distance_0 rfl (lv_at hl 0 rfl) ?_
  refine lv_iload_n S.1 S.2.1 dX7_distance_1 rfl (lv_at hl 1 rfl) ?_
  refine fx_xV (As := [.int a1]) (rest := []) S hG (k54_X7_treeAt g_a1_ge_3 hst (by omega)) h0 rfl (cwV 1 S.2.2.2.2 gX7_distance_X7_treeAt rfl rfl rfl (by decide +kernel) ⟨Nat.le_of_ble_eq_true rfl, Nat.le_of_ble_eq_true rfl⟩) rfl hl.1 rfl (Nat.le_of_ble_eq_true rfl) dX7_distance_2 ⟨Nat.le_of_ble_eq_true rfl, Nat.le_of_ble_eq_true rfl⟩ (fun ceq_1 q_1 H locs n_2 hn_2 hG h1q_1 h2q_1 h3q_1 => ?_)
  exact fx_out htab hlocks hG (by omega) h1q_1 h2q_1 h3q_1 (by decide) (by decide)
theorem k1291_L_distance {n : Nat} {a1 : Int32} {a2 : Int32} (g_a1_ge_3 : 3 ≤ a1) (hst : l.stackTraces = false) (hn : N0 + 231 ≤ n) (h0 : F N0 = some (.inr (9, [.ref (N0 + 1), .ref (N0 + 2), .ref (N0 + 11), .ref (N0 + 13), .ref (N0 + 63), .ref (N0 + 65), .ref (N0 + 85), .int (-1), .int (-1), .int 32]))) : Met l yL_distance wsL_distance ({ frames := 8, cells := 1, slots := 6, locals := 127 }) (va_Pc [.ref N0, .int a1, .int a2, .ref (N0 + 229)] (fP N0 D vwCl (fty cI cC cL cD cII cTr cTm cIt cB) (fen ql) F n)) (fQi N0 D vwCl (fty cI cC cL cD cII cTr cTm cIt cB) (fun (r : Int32) (u : Nat) => r = 1 ∧ n ≤ u) (fun _ => F) (fun u => u)) 1 6 (fA N0) := by
  refine fx_startW (hh := [(0, 10, 13, 19)]) 5 rfl rfl (Nat.le_of_ble_eq_true rfl) ?_ rfl
  intro p e s m below meth c ls S htab hr hlocks hG hl
  have hl : lv_has ls 5 [(0, .ref N0), (1, .int a1), (2, .int a2), (3, .ref (N0 + 229))] := hl
  have lt_h0 := hG.1.lt h0
  refine lv_aload_n S.1 S.2.1 dL_distance_0 rfl (lv_at hl 3 rfl) ?_
  refine lv_iconst (v := 0) S.1 S.2.1 dL_distance_1 (by decide) ?_
  refine lv_aload_n S.1 S.2.1 dL_distance_2 rfl (lv_at hl 0 rfl) ?_
  refine lv_iload_n S.1 S.2.1 dL_distance_3 rfl (lv_at hl 1 rfl) ?_
  refine lv_iload_n S.1 S.2.1 dL_distance_4 rfl (lv_at hl 2 rfl) ?_
  refine fx_xV (As := [.int a1, .int a2]) (rest := [.int 0, .ref (N0 + 229)]) S hG (k1290_X7_distance g_a1_ge_3 hst (by omega) h0) h0 rfl (cwV 2 S.2.2.2.2 gL_distance_X7_distance rfl rfl rfl (by decide +kernel) ⟨Nat.le_of_ble_eq_true rfl, Nat.le_of_ble_eq_true rfl⟩) rfl hl.1 rfl (Nat.le_of_ble_eq_true rfl) dL_distance_5 ⟨Nat.le_of_ble_eq_true rfl, Nat.le_of_ble_eq_true rfl⟩ (fun ceq_1 q_1 H locs n_2 hn_2 hG h1q_1 h2q_1 h3q_1 => ?_)
  refine fx_catch (hh := [(0, 10, 13, 19)]) S htab hG h1q_1 h2q_1 h3q_1 [] ⟨0, 10, 13, 19⟩ [] rfl [] (fun z hz => absurd hz List.not_mem_nil) (by decide) (by decide) (by decide +kernel) (List.mem_of_getElem? (i := 2) rfl) ?_
  refine lv_astore (lv' := [(4, .ref q_1), (0, .ref N0), (1, .int a1), (2, .int a2), (3, .ref (N0 + 229))]) S.1 S.2.1 dL_distance_13 hl (by decide) rfl (fun ls hl => ?_)
  refine lv_iconst (v := 1) S.1 S.2.1 dL_distance_15 (by decide) ?_
  exact fx_iret S hr hlocks n_2 hG (⟨rfl, hn_2⟩) dL_distance_16
theorem k1292_X10_distance {n : Nat} {a1 : Int32} {a2 : Int32} (g_a1_ge_3 : 3 ≤ a1) (hn : N0 + 231 ≤ n) (h0 : F (N0 + 164) = some (.inr (12, [.ref (N0 + 165), .int 0, .ref (N0 + 181), .int 0, .int 0, .int 0, .int (-1), .ref (ql 24), .ref (N0 + 182), .ref (N0 + 187), .ref (N0 + 208), .ref (N0 + 209), .ref (N0 + 210), .ref (N0 + 211), .ref (N0 + 212), .int 0, .ref (N0 + 213), .ref (N0 + 218), .ref (N0 + 223), .ref (N0 + 224), .ref (N0 + 225), .ref (N0 + 226), .ref (N0 + 227), .int 0, .int 0, .ref (N0 + 228), .null, .int (-1), .int 0, .int 0, .int 0]))) : Met l yX10_distance wsX10_distance ({ frames := 3, cells := 0, slots := 0, locals := 64 }) (va_Pc [.ref (N0 + 164), .int a1, .int a2] (fP N0 D vwCl (fty cI cC cL cD cII cTr cTm cIt cB) (fen ql) F n)) (fQi N0 D vwCl (fty cI cC cL cD cII cTr cTm cIt cB) (fun (r : Int32) (_ : Unit) => r = 0) (fun _ => (fu F (N0 + 164) (.inr (12, [.ref (N0 + 165), .int 1, .ref (N0 + 181), .int 0, .int 0, .int 0, .int (-1), .ref (ql 24), .ref (N0 + 182), .ref (N0 + 187), .ref (N0 + 208), .ref (N0 + 209), .ref (N0 + 210), .ref (N0 + 211), .ref (N0 + 212), .int 0, .ref (N0 + 213), .ref (N0 + 218), .ref (N0 + 223), .ref (N0 + 224), .ref (N0 + 225), .ref (N0 + 226), .ref (N0 + 227), .int 0, .int 0, .ref (N0 + 228), .null, .int (-1), .int 0, .int 0, .int 0])))) (fun _ => n)) 0 0 (fA N0) := by
  refine fx_start 3 rfl rfl (Nat.le_of_ble_eq_true rfl) ?_ rfl
  intro p e s m below meth c ls S hr hlocks hin hG hl
  have hl : lv_has ls 3 [(0, .ref (N0 + 164)), (1, .int a1), (2, .int a2)] := hl
  have lt_h0 := hG.1.lt h0
  refine lv_aload_n S.1 S.2.1 dX10_distance_0 rfl (lv_at hl 0 rfl) ?_
  refine lv_iload_n S.1 S.2.1 dX10_distance_1 rfl (lv_at hl 1 rfl) ?_
  refine lv_iload_n S.1 S.2.1 dX10_distance_2 rfl (lv_at hl 2 rfl) ?_
  refine fx_cVi (As := [.int a1, .int a2]) (rest := []) S hG (k539_X10_areNone g_a1_ge_3 (by omega) h0) h0 rfl (cwV 2 S.2.2.2.2 gX10_distance_X10_areNone rfl rfl rfl (by decide +kernel) ⟨Nat.le_of_ble_eq_true rfl, Nat.le_of_ble_eq_true rfl⟩) rfl hl.1 rfl (Nat.le_of_ble_eq_true rfl) dX10_distance_3 ⟨Nat.le_of_ble_eq_true rfl, Nat.le_of_ble_eq_true rfl⟩ (fun rv_1 _ H locs hp hG => ?_)
  subst rv_1
  refine lv_if_eq (tgt := 13) S.1 S.2.1 dX10_distance_6 (by decide) (fun c => absurd c (by decide)) (fun _ => ?_)
  refine lv_iconst (v := 0) S.1 S.2.1 dX10_distance_9 (by decide) ?_
  refine lv_goto (tgt := 29) S.1 S.2.1 dX10_distance_10 (by decide) ?_
  exact fx_iret S hr hlocks () hG (rfl) dX10_distance_29
theorem l23_0 {p : Program} {e : Env} {s : State} {m : MethodId} {below : List Frame} {meth : Method} {c : Code} {b : Nat} {xs : Nat → Int32} {H : Heap} {locs : List Loc} {ls : Array Slot} {n : Nat} {a1 a2 a3 a4 : Int32} (g_a1_le_m1 : a1 ≤ (-1)) (S : CallFix p m c cL_law 9 s #[.ref b] wsL_law "TreeDifferLaw") (hr : meth.sig.returnType = ret) (hlocks : meth.locks = false) (hst : l.stackTraces = false) (hX : va_X b 5 xs s s.heap) (hbl : b < s.heap.size ∧ b < N0) (hN : s.heap.size = N0) (hn : N0 + 231 ≤ n) (hx1 : xs 1 = a1) (hx2 : xs 2 = a2) (hx3 : xs 3 = a3) (hx4 : xs 4 = a4) (h0 : F N0 = some (.inr (9, [.ref (N0 + 1), .ref (N0 + 2), .ref (N0 + 11), .ref (N0 + 13), .ref (N0 + 63), .ref (N0 + 65), .ref (N0 + 85), .int (-1), .int (-1), .int 32]))) (h1 : F (N0 + 164) = some (.inr (12, [.ref (N0 + 165), .int 0, .ref (N0 + 181), .int 0, .int 0, .int 0, .int (-1), .ref (ql 24), .ref (N0 + 182), .ref (N0 + 187), .ref (N0 + 208), .ref (N0 + 209), .ref (N0 + 210), .ref (N0 + 211), .ref (N0 + 212), .int 0, .ref (N0 + 213), .ref (N0 + 218), .ref (N0 + 223), .ref (N0 + 224), .ref (N0 + 225), .ref (N0 + 226), .ref (N0 + 227), .int 0, .int 0, .ref (N0 + 228), .null, .int (-1), .int 0, .int 0, .int 0]))) (hG : fG N0 D vwCl (fty cI cC cL cD cII cTr cTm cIt cB) (fen ql) s F n H locs) (hl : lv_has ls 9 [(0, .ref b), (1, .ref N0), (2, .ref (N0 + 164)), (3, .ref (N0 + 229)), (4, .ref (N0 + 230)), (5, .int 0)]) : W p l e { frames := 2048, cells := 600002, slots := 7302232, locals := 84000 } s m #[.ref b] below meth c H locs 231 4980 (lw_Z below #[.ref b] s) (F0 m 1793 ls []) := by
  have lt_h0 := hG.1.lt h0
  have lt_h1 := hG.1.lt h1
  refine lv_aload_n S.1 S.2.1 dL_law_1793 rfl (lv_at hl 1 rfl) ?_
  refine lv_aload_n S.1 S.2.1 dL_law_1794 rfl (lv_at hl 0 rfl) ?_
  refine lv_iload S.1 S.2.1 dL_law_1795 (lv_at hl 5 rfl) ?_
  refine lv_iconst (v := 1) S.1 S.2.1 dL_law_1797 (by decide) ?_
  refine lv_iadd S.1 S.2.1 dL_law_1798 ?_
  refine fx_topi (y := 1) (by decide) ?_
  refine gx_sld (v := a1) S hG hX hbl (fin_l (by decide)) hx1 dL_law_1799 ?_
  refine lv_aload_n S.1 S.2.1 dL_law_1800 rfl (lv_at hl 0 rfl) ?_
  refine lv_iload S.1 S.2.1 dL_law_1801 (lv_at hl 5 rfl) ?_
  refine lv_iconst (v := 2) S.1 S.2.1 dL_law_1803 (by decide) ?_
  refine lv_iadd S.1 S.2.1 dL_law_1804 ?_
  refine fx_topi (y := 2) (by decide) ?_
  refine gx_sld (v := a2) S hG hX hbl (fin_l (by decide)) hx2 dL_law_1805 ?_
  refine lv_aload_n S.1 S.2.1 dL_law_1806 rfl (lv_at hl 3 rfl) ?_
  refine fx_cTi (As := [.ref N0, .int a1, .int a2, .ref (N0 + 229)]) (rest := []) S hG (k1177_L_distance g_a1_le_m1 hst (by omega) h0) (vx_cwSW 4 S.2.2.2.2 gL_law_L_distance rfl rfl rfl (by decide +kernel) ⟨Nat.le_of_ble_eq_true rfl, Nat.le_of_ble_eq_true rfl⟩) rfl hl.1 rfl (Nat.le_of_ble_eq_true rfl) dL_law_1807 ⟨Nat.le_of_ble_eq_true rfl, Nat.le_of_ble_eq_true rfl⟩ (fun rv_u_1 u_1 H locs hp hG => ?_)
  obtain ⟨rfl, hu_1⟩ := hp
  refine W.widen (k := 232) (n := 4986) (by decide) (by decide) ?_
  refine lv_istore (lv' := [(6, .int 1), (0, .ref b), (1, .ref N0), (2, .ref (N0 + 164)), (3, .ref (N0 + 229)), (4, .ref (N0 + 230)), (5, .int 0)]) S.1 S.2.1 dL_law_1810 hl (by decide) rfl (fun ls hl => ?_)
  refine lv_aload_n S.1 S.2.1 dL_law_1812 rfl (lv_at hl 3 rfl) ?_
  refine lv_aload_n S.1 S.2.1 dL_law_1813 rfl (lv_at hl 1 rfl) ?_
  refine lv_iload S.1 S.2.1 dL_law_1814 (lv_at hl 6 rfl) ?_
  refine lv_iconst (v := 1) S.1 S.2.1 dL_law_1816 (by decide) ?_
  refine lv_iadd S.1 S.2.1 dL_law_1817 ?_
  refine fx_topi (y := 1) (by decide) ?_
  refine gx_sld (v := a1) S hG hX hbl (fin_l (by decide)) hx1 dL_law_1818 ?_
  refine lv_aload_n S.1 S.2.1 dL_law_1819 rfl (lv_at hl 1 rfl) ?_
  refine lv_iload S.1 S.2.1 dL_law_1820 (lv_at hl 6 rfl) ?_
  refine lv_iconst (v := 2) S.1 S.2.1 dL_law_1822 (by decide) ?_
  refine lv_iadd S.1 S.2.1 dL_law_1823 ?_
  refine fx_topi (y := 2) (by decide) ?_
  refine gx_sld (v := a2) S hG hX hbl (fin_l (by decide)) hx2 dL_law_1824 ?_
  refine fx_cVi (As := [.int a1, .int a2]) (rest := []) S hG (k1178_X10_distance g_a1_le_m1 (by omega) h1) h1 rfl (cwV 2 S.2.2.2.2 gL_law_X10_distance rfl rfl rfl (by decide +kernel) ⟨Nat.le_of_ble_eq_true rfl, Nat.le_of_ble_eq_true rfl⟩) rfl hl.1 rfl (Nat.le_of_ble_eq_true rfl) dL_law_1825 ⟨Nat.le_of_ble_eq_true rfl, Nat.le_of_ble_eq_true rfl⟩ (fun rv_2 _ H locs hp hG => ?_)
  subst rv_2
  refine lv_istore (lv' := [(7, .int 0), (6, .int 1), (0, .ref b), (1, .ref N0), (2, .ref (N0 + 164)), (3, .ref (N0 + 229)), (4, .ref (N0 + 230)), (5, .int 0)]) S.1 S.2.1 dL_law_1828 hl (by decide) rfl (fun ls hl => ?_)
  refine lv_aload_n S.1 S.2.1 dL_law_1830 rfl (lv_at hl 4 rfl) ?_
  refine fx_cVi (As := []) (rest := []) S hG (k25_X10_thrown (by omega) fu_s) fu_s rfl (cwV 0 S.2.2.2.2 gL_law_X10_thrown rfl rfl rfl (by decide +kernel) ⟨Nat.le_of_ble_eq_true rfl, Nat.le_of_ble_eq_true rfl⟩) rfl hl.1 rfl (Nat.le_of_ble_eq_true rfl) dL_law_1831 ⟨Nat.le_of_ble_eq_true rfl, Nat.le_of_ble_eq_true rfl⟩ (fun rv_3 _ H locs hp hG => ?_)
  subst rv_3
  refine lv_iload S.1 S.2.1 dL_law_1834 (lv_at hl 1 rfl) ?_
  refine lv_icmp_eq (tgt := 1841) S.1 S.2.1 dL_law_1836 (by decide) (fun _ => ?_) (fun c => absurd (by decide) c)
  refine lv_iload S.1 S.2.1 dL_law_1841 (lv_at hl 1 rfl) ?_
  refine lv_if_ne (tgt := 1858) S.1 S.2.1 dL_law_1843 (by decide) (fun _ => ?_) (fun c => absurd c (by decide))
  refine lv_goto (tgt := 2650) S.1 S.2.1 dL_law_1858 (by decide) ?_
  refine lv_iinc (v := 5) (lv' := [(5, .int 5), (7, .int 0), (6, .int 1), (0, .ref b), (1, .ref N0), (2, .ref (N0 + 164)), (3, .ref (N0 + 229)), (4, .ref (N0 + 230))]) S.1 S.2.1 dL_law_2650 hl (k := 7) rfl (by decide) (by decide) rfl (fun ls hl => ?_)
  refine lv_goto (tgt := 28) S.1 S.2.1 dL_law_2653 (by decide) ?_
  refine lv_iload S.1 S.2.1 dL_law_28 (lv_at hl 0 rfl) ?_
  refine lv_aload_n S.1 S.2.1 dL_law_30 rfl (lv_at hl 3 rfl) ?_
  refine gx_slen (v := 5) S hG hX hbl rfl dL_law_31 ?_
  refine lv_iconst (v := 5) S.1 S.2.1 dL_law_32 (by decide) ?_
  refine lv_isub S.1 S.2.1 dL_law_33 ?_
  refine fx_topi (y := 0) (by decide) ?_
  refine lv_icmp_gt (tgt := 2656) S.1 S.2.1 dL_law_34 (by decide) (fun _ => ?_) (fun c => absurd (by decide) c)
  refine lv_iconst (v := 1) S.1 S.2.1 dL_law_2656 (by decide) ?_
  refine va_forget (fun q hq => by rw [hN]; exact hG.2.1.2.2 q hq) ?_
  refine W.widen (k := 600002) (n := 7302232) (by decide) (by decide) ?_
  exact lw_ret (d0 := s.drawn) (Drawn.sameBut.refl _ _) S.1 S.2.1 hr hlocks dL_law_2657
theorem l23_1 {p : Program} {e : Env} {s : State} {m : MethodId} {below : List Frame} {meth : Method} {c : Code} {b : Nat} {xs : Nat → Int32} {H : Heap} {locs : List Loc} {ls : Array Slot} {n : Nat} {a2 a3 a4 : Int32} (g_a2_le_m1 : a2 ≤ (-1)) (S : CallFix p m c cL_law 9 s #[.ref b] wsL_law "TreeDifferLaw") (hr : meth.sig.returnType = ret) (hlocks : meth.locks = false) (hst : l.stackTraces = false) (hX : va_X b 5 xs s s.heap) (hbl : b < s.heap.size ∧ b < N0) (hN : s.heap.size = N0) (hn : N0 + 231 ≤ n) (hx1 : xs 1 = 0) (hx2 : xs 2 = a2) (hx3 : xs 3 = a3) (hx4 : xs 4 = a4) (h0 : F N0 = some (.inr (9, [.ref (N0 + 1), .ref (N0 + 2), .ref (N0 + 11), .ref (N0 + 13), .ref (N0 + 63), .ref (N0 + 65), .ref (N0 + 85), .int (-1), .int (-1), .int 32]))) (h1 : F (N0 + 1) = some (.inl (cTr, 3, .inr (.inr (.inr (.inr (va_up (va_up (va_up (fun _ => none) 0 (some (N0 + 143))) 1 (some (N0 + 150))) 2 (some (N0 + 157))))))))) (h2 : F (N0 + 164) = some (.inr (12, [.ref (N0 + 165), .int 0, .ref (N0 + 181), .int 0, .int 0, .int 0, .int (-1), .ref (ql 24), .ref (N0 + 182), .ref (N0 + 187), .ref (N0 + 208), .ref (N0 + 209), .ref (N0 + 210), .ref (N0 + 211), .ref (N0 + 212), .int 0, .ref (N0 + 213), .ref (N0 + 218), .ref (N0 + 223), .ref (N0 + 224), .ref (N0 + 225), .ref (N0 + 226), .ref (N0 + 227), .int 0, .int 0, .ref (N0 + 228), .null, .int (-1), .int 0, .int 0, .int 0]))) (hG : fG N0 D vwCl (fty cI cC cL cD cII cTr cTm cIt cB) (fen ql) s F n H locs) (hl : lv_has ls 9 [(0, .ref b), (1, .ref N0), (2, .ref (N0 + 164)), (3, .ref (N0 + 229)), (4, .ref (N0 + 230)), (5, .int 0)]) : W p l e { frames := 2048, cells := 600002, slots := 7302232, locals := 84000 } s m #[.ref b] below meth c H locs 231 4980 (lw_Z below #[.ref b] s) (F0 m 1793 ls []) := by
  have lt_h0 := hG.1.lt h0
  have lt_h1 := hG.1.lt h1
  have lt_h2 := hG.1.lt h2
  refine lv_aload_n S.1 S.2.1 dL_law_1793 rfl (lv_at hl 1 rfl) ?_
  refine lv_aload_n S.1 S.2.1 dL_law_1794 rfl (lv_at hl 0 rfl) ?_
  refine lv_iload S.1 S.2.1 dL_law_1795 (lv_at hl 5 rfl) ?_
  refine lv_iconst (v := 1) S.1 S.2.1 dL_law_1797 (by decide) ?_
  refine lv_iadd S.1 S.2.1 dL_law_1798 ?_
  refine fx_topi (y := 1) (by decide) ?_
  refine gx_sld (v := 0) S hG hX hbl (fin_l (by decide)) hx1 dL_law_1799 ?_
  refine lv_aload_n S.1 S.2.1 dL_law_1800 rfl (lv_at hl 0 rfl) ?_
  refine lv_iload S.1 S.2.1 dL_law_1801 (lv_at hl 5 rfl) ?_
  refine lv_iconst (v := 2) S.1 S.2.1 dL_law_1803 (by decide) ?_
  refine lv_iadd S.1 S.2.1 dL_law_1804 ?_
  refine fx_topi (y := 2) (by decide) ?_
  refine gx_sld (v := a2) S hG hX hbl (fin_l (by decide)) hx2 dL_law_1805 ?_
  refine lv_aload_n S.1 S.2.1 dL_law_1806 rfl (lv_at hl 3 rfl) ?_
  refine fx_cTi (As := [.ref N0, .int 0, .int a2, .ref (N0 + 229)]) (rest := []) S hG (k1180_L_distance g_a2_le_m1 hst (by omega) h0 h1) (vx_cwSW 4 S.2.2.2.2 gL_law_L_distance rfl rfl rfl (by decide +kernel) ⟨Nat.le_of_ble_eq_true rfl, Nat.le_of_ble_eq_true rfl⟩) rfl hl.1 rfl (Nat.le_of_ble_eq_true rfl) dL_law_1807 ⟨Nat.le_of_ble_eq_true rfl, Nat.le_of_ble_eq_true rfl⟩ (fun rv_u_1 u_1 H locs hp hG => ?_)
  obtain ⟨rfl, hu_1⟩ := hp
  refine W.widen (k := 232) (n := 4986) (by decide) (by decide) ?_
  refine lv_istore (lv' := [(6, .int 1), (0, .ref b), (1, .ref N0), (2, .ref (N0 + 164)), (3, .ref (N0 + 229)), (4, .ref (N0 + 230)), (5, .int 0)]) S.1 S.2.1 dL_law_1810 hl (by decide) rfl (fun ls hl => ?_)
  refine lv_aload_n S.1 S.2.1 dL_law_1812 rfl (lv_at hl 3 rfl) ?_
  refine lv_aload_n S.1 S.2.1 dL_law_1813 rfl (lv_at hl 1 rfl) ?_
  refine lv_iload S.1 S.2.1 dL_law_1814 (lv_at hl 6 rfl) ?_
  refine lv_iconst (v := 1) S.1 S.2.1 dL_law_1816 (by decide) ?_
  refine lv_iadd S.1 S.2.1 dL_law_1817 ?_
  refine fx_topi (y := 1) (by decide) ?_
  refine gx_sld (v := 0) S hG hX hbl (fin_l (by decide)) hx1 dL_law_1818 ?_
  refine lv_aload_n S.1 S.2.1 dL_law_1819 rfl (lv_at hl 1 rfl) ?_
  refine lv_iload S.1 S.2.1 dL_law_1820 (lv_at hl 6 rfl) ?_
  refine lv_iconst (v := 2) S.1 S.2.1 dL_law_1822 (by decide) ?_
  refine lv_iadd S.1 S.2.1 dL_law_1823 ?_
  refine fx_topi (y := 2) (by decide) ?_
  refine gx_sld (v := a2) S hG hX hbl (fin_l (by decide)) hx2 dL_law_1824 ?_
  refine fx_cVi (As := [.int 0, .int a2]) (rest := []) S hG (k1181_X10_distance g_a2_le_m1 (by omega) h2) h2 rfl (cwV 2 S.2.2.2.2 gL_law_X10_distance rfl rfl rfl (by decide +kernel) ⟨Nat.le_of_ble_eq_true rfl, Nat.le_of_ble_eq_true rfl⟩) rfl hl.1 rfl (Nat.le_of_ble_eq_true rfl) dL_law_1825 ⟨Nat.le_of_ble_eq_true rfl, Nat.le_of_ble_eq_true rfl⟩ (fun rv_2 _ H locs hp hG => ?_)
  subst rv_2
  refine lv_istore (lv' := [(7, .int 0), (6, .int 1), (0, .ref b), (1, .ref N0), (2, .ref (N0 + 164)), (3, .ref (N0 + 229)), (4, .ref (N0 + 230)), (5, .int 0)]) S.1 S.2.1 dL_law_1828 hl (by decide) rfl (fun ls hl => ?_)
  refine lv_aload_n S.1 S.2.1 dL_law_1830 rfl (lv_at hl 4 rfl) ?_
  refine fx_cVi (As := []) (rest := []) S hG (k25_X10_thrown (by omega) fu_s) fu_s rfl (cwV 0 S.2.2.2.2 gL_law_X10_thrown rfl rfl rfl (by decide +kernel) ⟨Nat.le_of_ble_eq_true rfl, Nat.le_of_ble_eq_true rfl⟩) rfl hl.1 rfl (Nat.le_of_ble_eq_true rfl) dL_law_1831 ⟨Nat.le_of_ble_eq_true rfl, Nat.le_of_ble_eq_true rfl⟩ (fun rv_3 _ H locs hp hG => ?_)
  subst rv_3
  refine lv_iload S.1 S.2.1 dL_law_1834 (lv_at hl 1 rfl) ?_
  refine lv_icmp_eq (tgt := 1841) S.1 S.2.1 dL_law_1836 (by decide) (fun _ => ?_) (fun c => absurd (by decide) c)
  refine lv_iload S.1 S.2.1 dL_law_1841 (lv_at hl 1 rfl) ?_
  refine lv_if_ne (tgt := 1858) S.1 S.2.1 dL_law_1843 (by decide) (fun _ => ?_) (fun c => absurd c (by decide))
  refine lv_goto (tgt := 2650) S.1 S.2.1 dL_law_1858 (by decide) ?_
  refine lv_iinc (v := 5) (lv' := [(5, .int 5), (7, .int 0), (6, .int 1), (0, .ref b), (1, .ref N0), (2, .ref (N0 + 164)), (3, .ref (N0 + 229)), (4, .ref (N0 + 230))]) S.1 S.2.1 dL_law_2650 hl (k := 7) rfl (by decide) (by decide) rfl (fun ls hl => ?_)
  refine lv_goto (tgt := 28) S.1 S.2.1 dL_law_2653 (by decide) ?_
  refine lv_iload S.1 S.2.1 dL_law_28 (lv_at hl 0 rfl) ?_
  refine lv_aload_n S.1 S.2.1 dL_law_30 rfl (lv_at hl 3 rfl) ?_
  refine gx_slen (v := 5) S hG hX hbl rfl dL_law_31 ?_
  refine lv_iconst (v := 5) S.1 S.2.1 dL_law_32 (by decide) ?_
  refine lv_isub S.1 S.2.1 dL_law_33 ?_
  refine fx_topi (y := 0) (by decide) ?_
  refine lv_icmp_gt (tgt := 2656) S.1 S.2.1 dL_law_34 (by decide) (fun _ => ?_) (fun c => absurd (by decide) c)
  refine lv_iconst (v := 1) S.1 S.2.1 dL_law_2656 (by decide) ?_
  refine va_forget (fun q hq => by rw [hN]; exact hG.2.1.2.2 q hq) ?_
  refine W.widen (k := 600002) (n := 7302232) (by decide) (by decide) ?_
  exact lw_ret (d0 := s.drawn) (Drawn.sameBut.refl _ _) S.1 S.2.1 hr hlocks dL_law_2657
theorem l23_2 {p : Program} {e : Env} {s : State} {m : MethodId} {below : List Frame} {meth : Method} {c : Code} {b : Nat} {xs : Nat → Int32} {H : Heap} {locs : List Loc} {ls : Array Slot} {n : Nat} {a3 a4 : Int32} (S : CallFix p m c cL_law 9 s #[.ref b] wsL_law "TreeDifferLaw") (hr : meth.sig.returnType = ret) (hlocks : meth.locks = false) (hst : l.stackTraces = false) (hX : va_X b 5 xs s s.heap) (hbl : b < s.heap.size ∧ b < N0) (hN : s.heap.size = N0) (hn : N0 + 231 ≤ n) (hx1 : xs 1 = 0) (hx2 : xs 2 = 0) (hx3 : xs 3 = a3) (hx4 : xs 4 = a4) (h0 : F N0 = some (.inr (9, [.ref (N0 + 1), .ref (N0 + 2), .ref (N0 + 11), .ref (N0 + 13), .ref (N0 + 63), .ref (N0 + 65), .ref (N0 + 85), .int (-1), .int (-1), .int 32]))) (h1 : F (N0 + 1) = some (.inl (cTr, 3, .inr (.inr (.inr (.inr (va_up (va_up (va_up (fun _ => none) 0 (some (N0 + 143))) 1 (some (N0 + 150))) 2 (some (N0 + 157))))))))) (h2 : F (N0 + 13) = some (.inr (3, [.ref (N0 + 14), .ref (N0 + 35), .ref (N0 + 57), .ref (N0 + 58), .ref (N0 + 59), .ref (N0 + 60), .int 0, .int 0, .ref (N0 + 61), .ref (N0 + 62)]))) (h3 : F (N0 + 143) = some (.inr (7, [.ref (N0 + 144), .ref (N0 + 145), .ref (N0 + 146), .ref (N0 + 147), .ref (N0 + 148), .ref (N0 + 149), .int 1]))) (h4 : F (N0 + 57) = some (.inl (cI, 20, .inl (fun _ => 0)))) (h5 : F (N0 + 58) = some (.inl (cI, 20, .inl (fun _ => 0)))) (h6 : F (N0 + 35) = some (.inl (cII, 21, .inr (.inr (.inr (.inr (fun j => if j < 21 then some ((N0 + 36) + j) else none))))))) (h7 : F (N0 + 36) = some (.inl (cI, 21, .inl (fun _ => 0)))) (h8 : F (N0 + 14) = some (.inl (cII, 20, .inr (.inr (.inr (.inr (fun j => if j < 20 then some ((N0 + 15) + j) else none))))))) (h9 : F (N0 + 144) = some (.inl (cC, 20, .inl (upd (fun _ => 0) 0 97)))) (h10 : F (N0 + 146) = some (.inl (cI, 20, .inl (fun _ => 0)))) (h11 : F (N0 + 15) = some (.inl (cI, 20, .inl (fun _ => 0)))) (h12 : F (N0 + 229) = some (.inl (cL, 1, .inr (.inl (fun _ => 0))))) (h13 : F (N0 + 164) = some (.inr (12, [.ref (N0 + 165), .int 0, .ref (N0 + 181), .int 0, .int 0, .int 0, .int (-1), .ref (ql 24), .ref (N0 + 182), .ref (N0 + 187), .ref (N0 + 208), .ref (N0 + 209), .ref (N0 + 210), .ref (N0 + 211), .ref (N0 + 212), .int 0, .ref (N0 + 213), .ref (N0 + 218), .ref (N0 + 223), .ref (N0 + 224), .ref (N0 + 225), .ref (N0 + 226), .ref (N0 + 227), .int 0, .int 0, .ref (N0 + 228), .null, .int (-1), .int 0, .int 0, .int 0]))) (h14 : F (N0 + 165) = some (.inl (cTm, 3, .inr (.inr (.inr (.inr (va_up (va_up (va_up (fun _ => none) 0 (some (N0 + 166))) 1 (some (N0 + 171))) 2 (some (N0 + 176))))))))) (h15 : F (N0 + 166) = some (.inr (11, [.ref (N0 + 167), .ref (N0 + 168), .ref (N0 + 169), .ref (N0 + 170), .int 1]))) (h16 : F (N0 + 167) = some (.inl (cI, 20, .inl (upd (fun _ => 0) 0 97)))) (h17 : F (N0 + 169) = some (.inl (cI, 20, .inl (upd (fun _ => 0) 0 0)))) (h18 : F (N0 + 187) = some (.inl (cII, 20, .inr (.inr (.inr (.inr (fun j => if j < 20 then some ((N0 + 188) + j) else none))))))) (h19 : F (N0 + 188) = some (.inl (cI, 20, .inl (fun _ => 0)))) (hG : fG N0 D vwCl (fty cI cC cL cD cII cTr cTm cIt cB) (fen ql) s F n H locs) (hl : lv_has ls 9 [(0, .ref b), (1, .ref N0), (2, .ref (N0 + 164)), (3, .ref (N0 + 229)), (4, .ref (N0 + 230)), (5, .int 0)]) : W p l e { frames := 2048, cells := 600002, slots := 7302232, locals := 84000 } s m #[.ref b] below meth c H locs 231 4980 (lw_Z below #[.ref b] s) (F0 m 1793 ls []) := by
  have lt_h0 := hG.1.lt h0
  have lt_h1 := hG.1.lt h1
  have lt_h2 := hG.1.lt h2
  have lt_h3 := hG.1.lt h3
  have lt_h4 := hG.1.lt h4
  have lt_h5 := hG.1.lt h5
  have lt_h6 := hG.1.lt h6
  have lt_h7 := hG.1.lt h7
  have lt_h8 := hG.1.lt h8
  have lt_h9 := hG.1.lt h9
  have lt_h10 := hG.1.lt h10
  have lt_h11 := hG.1.lt h11
  have lt_h12 := hG.1.lt h12
  have lt_h13 := hG.1.lt h13
  have lt_h14 := hG.1.lt h14
  have lt_h15 := hG.1.lt h15
  have lt_h16 := hG.1.lt h16
  have lt_h17 := hG.1.lt h17
  have lt_h18 := hG.1.lt h18
  have lt_h19 := hG.1.lt h19
  refine lv_aload_n S.1 S.2.1 dL_law_1793 rfl (lv_at hl 1 rfl) ?_
  refine lv_aload_n S.1 S.2.1 dL_law_1794 rfl (lv_at hl 0 rfl) ?_
  refine lv_iload S.1 S.2.1 dL_law_1795 (lv_at hl 5 rfl) ?_
  refine lv_iconst (v := 1) S.1 S.2.1 dL_law_1797 (by decide) ?_
  refine lv_iadd S.1 S.2.1 dL_law_1798 ?_
  refine fx_topi (y := 1) (by decide) ?_
  refine gx_sld (v := 0) S hG hX hbl (fin_l (by decide)) hx1 dL_law_1799 ?_
  refine lv_aload_n S.1 S.2.1 dL_law_1800 rfl (lv_at hl 0 rfl) ?_
  refine lv_iload S.1 S.2.1 dL_law_1801 (lv_at hl 5 rfl) ?_
  refine lv_iconst (v := 2) S.1 S.2.1 dL_law_1803 (by decide) ?_
  refine lv_iadd S.1 S.2.1 dL_law_1804 ?_
  refine fx_topi (y := 2) (by decide) ?_
  refine gx_sld (v := 0) S hG hX hbl (fin_l (by decide)) hx2 dL_law_1805 ?_
  refine lv_aload_n S.1 S.2.1 dL_law_1806 rfl (lv_at hl 3 rfl) ?_
  refine fx_cTi (As := [.ref N0, .int 0, .int 0, .ref (N0 + 229)]) (rest := []) S hG (k1191_L_distance (by omega) h0 h1 h2 h3 h4 h5 h6 h7 h8 h9 h10 h11 h12) (vx_cwSW 4 S.2.2.2.2 gL_law_L_distance rfl rfl rfl (by decide +kernel) ⟨Nat.le_of_ble_eq_true rfl, Nat.le_of_ble_eq_true rfl⟩) rfl hl.1 rfl (Nat.le_of_ble_eq_true rfl) dL_law_1807 ⟨Nat.le_of_ble_eq_true rfl, Nat.le_of_ble_eq_true rfl⟩ (fun rv_1 _ H locs hp hG => ?_)
  subst rv_1
  refine lv_istore (lv' := [(6, .int 0), (0, .ref b), (1, .ref N0), (2, .ref (N0 + 164)), (3, .ref (N0 + 229)), (4, .ref (N0 + 230)), (5, .int 0)]) S.1 S.2.1 dL_law_1810 hl (by decide) rfl (fun ls hl => ?_)
  refine lv_aload_n S.1 S.2.1 dL_law_1812 rfl (lv_at hl 3 rfl) ?_
  refine lv_aload_n S.1 S.2.1 dL_law_1813 rfl (lv_at hl 1 rfl) ?_
  refine lv_iload S.1 S.2.1 dL_law_1814 (lv_at hl 6 rfl) ?_
  refine lv_iconst (v := 1) S.1 S.2.1 dL_law_1816 (by decide) ?_
  refine lv_iadd S.1 S.2.1 dL_law_1817 ?_
  refine fx_topi (y := 1) (by decide) ?_
  refine gx_sld (v := 0) S hG hX hbl (fin_l (by decide)) hx1 dL_law_1818 ?_
  refine lv_aload_n S.1 S.2.1 dL_law_1819 rfl (lv_at hl 1 rfl) ?_
  refine lv_iload S.1 S.2.1 dL_law_1820 (lv_at hl 6 rfl) ?_
  refine lv_iconst (v := 2) S.1 S.2.1 dL_law_1822 (by decide) ?_
  refine lv_iadd S.1 S.2.1 dL_law_1823 ?_
  refine fx_topi (y := 2) (by decide) ?_
  refine gx_sld (v := 0) S hG hX hbl (fin_l (by decide)) hx2 dL_law_1824 ?_
  refine fx_cVi (As := [.int 0, .int 0]) (rest := []) S hG (k1194_X10_distance (by omega) (fu_at (by omega) (fu_at (by omega) (fu_at (by omega) (fu_at (by omega) (fu_at (by omega) (fu_at (by omega) h13)))))) (fu_at (by omega) (fu_at (by omega) (fu_at (by omega) (fu_at (by omega) (fu_at (by omega) (fu_at (by omega) h14)))))) (fu_at (by omega) (fu_at (by omega) (fu_at (by omega) (fu_at (by omega) (fu_at (by omega) (fu_at (by omega) h15)))))) (fu_at (by omega) (fu_at (by omega) (fu_at (by omega) (fu_at (by omega) (fu_at (by omega) (fu_at (by omega) h16)))))) (fu_at (by omega) (fu_at (by omega) (fu_at (by omega) (fu_at (by omega) (fu_at (by omega) (fu_at (by omega) h17)))))) (fu_at (by omega) (fu_at (by omega) (fu_at (by omega) (fu_at (by omega) (fu_at (by omega) (fu_at (by omega) h18)))))) (fu_at (by omega) (fu_at (by omega) (fu_at (by omega) (fu_at (by omega) (fu_at (by omega) (fu_at (by omega) h19))))))) (fu_at (by omega) (fu_at (by omega) (fu_at (by omega) (fu_at (by omega) (fu_at (by omega) (fu_at (by omega) h13)))))) rfl (cwV 2 S.2.2.2.2 gL_law_X10_distance rfl rfl rfl (by decide +kernel) ⟨Nat.le_of_ble_eq_true rfl, Nat.le_of_ble_eq_true rfl⟩) rfl hl.1 rfl (Nat.le_of_ble_eq_true rfl) dL_law_1825 ⟨Nat.le_of_ble_eq_true rfl, Nat.le_of_ble_eq_true rfl⟩ (fun rv_2 _ H locs hp hG => ?_)
  subst rv_2
  refine W.widen (k := 235) (n := 4982) (by decide) (by decide) ?_
  refine lv_istore (lv' := [(7, .int 0), (6, .int 0), (0, .ref b), (1, .ref N0), (2, .ref (N0 + 164)), (3, .ref (N0 + 229)), (4, .ref (N0 + 230)), (5, .int 0)]) S.1 S.2.1 dL_law_1828 hl (by decide) rfl (fun ls hl => ?_)
  refine lv_aload_n S.1 S.2.1 dL_law_1830 rfl (lv_at hl 4 rfl) ?_
  refine fx_cVi (As := []) (rest := []) S hG (k117_X10_thrown (by omega) (fblk_sk 4 rfl (by omega) (fu_at (by omega) fu_s))) (fblk_sk 4 rfl (by omega) (fu_at (by omega) fu_s)) rfl (cwV 0 S.2.2.2.2 gL_law_X10_thrown rfl rfl rfl (by decide +kernel) ⟨Nat.le_of_ble_eq_true rfl, Nat.le_of_ble_eq_true rfl⟩) rfl hl.1 rfl (Nat.le_of_ble_eq_true rfl) dL_law_1831 ⟨Nat.le_of_ble_eq_true rfl, Nat.le_of_ble_eq_true rfl⟩ (fun rv_3 _ H locs hp hG => ?_)
  subst rv_3
  refine lv_iload S.1 S.2.1 dL_law_1834 (lv_at hl 1 rfl) ?_
  refine lv_icmp_eq (tgt := 1841) S.1 S.2.1 dL_law_1836 (by decide) (fun _ => ?_) (fun c => absurd (by decide) c)
  refine lv_iload S.1 S.2.1 dL_law_1841 (lv_at hl 1 rfl) ?_
  refine lv_if_ne (tgt := 1858) S.1 S.2.1 dL_law_1843 (by decide) (fun c => absurd (by decide) c) (fun _ => ?_)
  refine lv_aload_n S.1 S.2.1 dL_law_1846 rfl (lv_at hl 5 rfl) ?_
  refine lv_iconst (v := 0) S.1 S.2.1 dL_law_1847 (by decide) ?_
  refine gx_lald (v := 0) S hG 2 (fblk_sk 4 rfl (by omega) (fu_at (by omega) (fu_at (by omega) fu_s))) rfl (fin_l (by decide)) rfl dL_law_1848 ?_
  refine lv_iload S.1 S.2.1 dL_law_1849 (lv_at hl 0 rfl) ?_
  refine lv_i2l (v := 0) S.1 S.2.1 dL_law_1851 (by decide) ?_
  refine gx_lcmpEq S rfl dL_law_1852 ?_
  refine lv_if_eq (tgt := 1858) S.1 S.2.1 dL_law_1853 (by decide) (fun _ => ?_) (fun c => absurd (by decide) c)
  refine lv_goto (tgt := 2650) S.1 S.2.1 dL_law_1858 (by decide) ?_
  refine lv_iinc (v := 5) (lv' := [(5, .int 5), (7, .int 0), (6, .int 0), (0, .ref b), (1, .ref N0), (2, .ref (N0 + 164)), (3, .ref (N0 + 229)), (4, .ref (N0 + 230))]) S.1 S.2.1 dL_law_2650 hl (k := 7) rfl (by decide) (by decide) rfl (fun ls hl => ?_)
  refine lv_goto (tgt := 28) S.1 S.2.1 dL_law_2653 (by decide) ?_
  refine lv_iload S.1 S.2.1 dL_law_28 (lv_at hl 0 rfl) ?_
  refine lv_aload_n S.1 S.2.1 dL_law_30 rfl (lv_at hl 3 rfl) ?_
  refine gx_slen (v := 5) S hG hX hbl rfl dL_law_31 ?_
  refine lv_iconst (v := 5) S.1 S.2.1 dL_law_32 (by decide) ?_
  refine lv_isub S.1 S.2.1 dL_law_33 ?_
  refine fx_topi (y := 0) (by decide) ?_
  refine lv_icmp_gt (tgt := 2656) S.1 S.2.1 dL_law_34 (by decide) (fun _ => ?_) (fun c => absurd (by decide) c)
  refine lv_iconst (v := 1) S.1 S.2.1 dL_law_2656 (by decide) ?_
  refine va_forget (fun q hq => by rw [hN]; exact hG.2.1.2.2 q hq) ?_
  refine W.widen (k := 600002) (n := 7302232) (by decide) (by decide) ?_
  exact lw_ret (d0 := s.drawn) (Drawn.sameBut.refl _ _) S.1 S.2.1 hr hlocks dL_law_2657
theorem l23_3 {p : Program} {e : Env} {s : State} {m : MethodId} {below : List Frame} {meth : Method} {c : Code} {b : Nat} {xs : Nat → Int32} {H : Heap} {locs : List Loc} {ls : Array Slot} {n : Nat} {a3 a4 : Int32} (S : CallFix p m c cL_law 9 s #[.ref b] wsL_law "TreeDifferLaw") (hr : meth.sig.returnType = ret) (hlocks : meth.locks = false) (hst : l.stackTraces = false) (hX : va_X b 5 xs s s.heap) (hbl : b < s.heap.size ∧ b < N0) (hN : s.heap.size = N0) (hn : N0 + 231 ≤ n) (hx1 : xs 1 = 0) (hx2 : xs 2 = 1) (hx3 : xs 3 = a3) (hx4 : xs 4 = a4) (h0 : F N0 = some (.inr (9, [.ref (N0 + 1), .ref (N0 + 2), .ref (N0 + 11), .ref (N0 + 13), .ref (N0 + 63), .ref (N0 + 65), .ref (N0 + 85), .int (-1), .int (-1), .int 32]))) (h1 : F (N0 + 1) = some (.inl (cTr, 3, .inr (.inr (.inr (.inr (va_up (va_up (va_up (fun _ => none) 0 (some (N0 + 143))) 1 (some (N0 + 150))) 2 (some (N0 + 157))))))))) (h2 : F (N0 + 13) = some (.inr (3, [.ref (N0 + 14), .ref (N0 + 35), .ref (N0 + 57), .ref (N0 + 58), .ref (N0 + 59), .ref (N0 + 60), .int 0, .int 0, .ref (N0 + 61), .ref (N0 + 62)]))) (h3 : F (N0 + 143) = some (.inr (7, [.ref (N0 + 144), .ref (N0 + 145), .ref (N0 + 146), .ref (N0 + 147), .ref (N0 + 148), .ref (N0 + 149), .int 1]))) (h4 : F (N0 + 57) = some (.inl (cI, 20, .inl (fun _ => 0)))) (h5 : F (N0 + 150) = some (.inr (7, [.ref (N0 + 151), .ref (N0 + 152), .ref (N0 + 153), .ref (N0 + 154), .ref (N0 + 155), .ref (N0 + 156), .int 1]))) (h6 : F (N0 + 58) = some (.inl (cI, 20, .inl (fun _ => 0)))) (h7 : F (N0 + 35) = some (.inl (cII, 21, .inr (.inr (.inr (.inr (fun j => if j < 21 then some ((N0 + 36) + j) else none))))))) (h8 : F (N0 + 36) = some (.inl (cI, 21, .inl (fun _ => 0)))) (h9 : F (N0 + 14) = some (.inl (cII, 20, .inr (.inr (.inr (.inr (fun j => if j < 20 then some ((N0 + 15) + j) else none))))))) (h10 : F (N0 + 144) = some (.inl (cC, 20, .inl (upd (fun _ => 0) 0 97)))) (h11 : F (N0 + 151) = some (.inl (cC, 20, .inl (upd (fun _ => 0) 0 97)))) (h12 : F (N0 + 146) = some (.inl (cI, 20, .inl (fun _ => 0)))) (h13 : F (N0 + 153) = some (.inl (cI, 20, .inl (fun _ => 0)))) (h14 : F (N0 + 15) = some (.inl (cI, 20, .inl (fun _ => 0)))) (h15 : F (N0 + 229) = some (.inl (cL, 1, .inr (.inl (fun _ => 0))))) (h16 : F (N0 + 164) = some (.inr (12, [.ref (N0 + 165), .int 0, .ref (N0 + 181), .int 0, .int 0, .int 0, .int (-1), .ref (ql 24), .ref (N0 + 182), .ref (N0 + 187), .ref (N0 + 208), .ref (N0 + 209), .ref (N0 + 210), .ref (N0 + 211), .ref (N0 + 212), .int 0, .ref (N0 + 213), .ref (N0 + 218), .ref (N0 + 223), .ref (N0 + 224), .ref (N0 + 225), .ref (N0 + 226), .ref (N0 + 227), .int 0, .int 0, .ref (N0 + 228), .null, .int (-1), .int 0, .int 0, .int 0]))) (h17 : F (N0 + 165) = some (.inl (cTm, 3, .inr (.inr (.inr (.inr (va_up (va_up (va_up (fun _ => none) 0 (some (N0 + 166))) 1 (some (N0 + 171))) 2 (some (N0 + 176))))))))) (h18 : F (N0 + 166) = some (.inr (11, [.ref (N0 + 167), .ref (N0 + 168), .ref (N0 + 169), .ref (N0 + 170), .int 1]))) (h19 : F (N0 + 171) = some (.inr (11, [.ref (N0 + 172), .ref (N0 + 173), .ref (N0 + 174), .ref (N0 + 175), .int 1]))) (h20 : F (N0 + 167) = some (.inl (cI, 20, .inl (upd (fun _ => 0) 0 97)))) (h21 : F (N0 + 172) = some (.inl (cI, 20, .inl (upd (fun _ => 0) 0 97)))) (h22 : F (N0 + 169) = some (.inl (cI, 20, .inl (upd (fun _ => 0) 0 0)))) (h23 : F (N0 + 174) = some (.inl (cI, 20, .inl (upd (fun _ => 0) 0 0)))) (h24 : F (N0 + 187) = some (.inl (cII, 20, .inr (.inr (.inr (.inr (fun j => if j < 20 then some ((N0 + 188) + j) else none))))))) (h25 : F (N0 + 188) = some (.inl (cI, 20, .inl (fun _ => 0)))) (hG : fG N0 D vwCl (fty cI cC cL cD cII cTr cTm cIt cB) (fen ql) s F n H locs) (hl : lv_has ls 9 [(0, .ref b), (1, .ref N0), (2, .ref (N0 + 164)), (3, .ref (N0 + 229)), (4, .ref (N0 + 230)), (5, .int 0)]) : W p l e { frames := 2048, cells := 600002, slots := 7302232, locals := 84000 } s m #[.ref b] below meth c H locs 231 4980 (lw_Z below #[.ref b] s) (F0 m 1793 ls []) := by
  have lt_h0 := hG.1.lt h0
  have lt_h1 := hG.1.lt h1
  have lt_h2 := hG.1.lt h2
  have lt_h3 := hG.1.lt h3
  have lt_h4 := hG.1.lt h4
  have lt_h5 := hG.1.lt h5
  have lt_h6 := hG.1.lt h6
  have lt_h7 := hG.1.lt h7
  have lt_h8 := hG.1.lt h8
  have lt_h9 := hG.1.lt h9
  have lt_h10 := hG.1.lt h10
  have lt_h11 := hG.1.lt h11
  have lt_h12 := hG.1.lt h12
  have lt_h13 := hG.1.lt h13
  have lt_h14 := hG.1.lt h14
  have lt_h15 := hG.1.lt h15
  have lt_h16 := hG.1.lt h16
  have lt_h17 := hG.1.lt h17
  have lt_h18 := hG.1.lt h18
  have lt_h19 := hG.1.lt h19
  have lt_h20 := hG.1.lt h20
  have lt_h21 := hG.1.lt h21
  have lt_h22 := hG.1.lt h22
  have lt_h23 := hG.1.lt h23
  have lt_h24 := hG.1.lt h24
  have lt_h25 := hG.1.lt h25
  refine lv_aload_n S.1 S.2.1 dL_law_1793 rfl (lv_at hl 1 rfl) ?_
  refine lv_aload_n S.1 S.2.1 dL_law_1794 rfl (lv_at hl 0 rfl) ?_
  refine lv_iload S.1 S.2.1 dL_law_1795 (lv_at hl 5 rfl) ?_
  refine lv_iconst (v := 1) S.1 S.2.1 dL_law_1797 (by decide) ?_
  refine lv_iadd S.1 S.2.1 dL_law_1798 ?_
  refine fx_topi (y := 1) (by decide) ?_
  refine gx_sld (v := 0) S hG hX hbl (fin_l (by decide)) hx1 dL_law_1799 ?_
  refine lv_aload_n S.1 S.2.1 dL_law_1800 rfl (lv_at hl 0 rfl) ?_
  refine lv_iload S.1 S.2.1 dL_law_1801 (lv_at hl 5 rfl) ?_
  refine lv_iconst (v := 2) S.1 S.2.1 dL_law_1803 (by decide) ?_
  refine lv_iadd S.1 S.2.1 dL_law_1804 ?_
  refine fx_topi (y := 2) (by decide) ?_
  refine gx_sld (v := 1) S hG hX hbl (fin_l (by decide)) hx2 dL_law_1805 ?_
  refine lv_aload_n S.1 S.2.1 dL_law_1806 rfl (lv_at hl 3 rfl) ?_
  refine fx_cTi (As := [.ref N0, .int 0, .int 1, .ref (N0 + 229)]) (rest := []) S hG (k1202_L_distance (by omega) h0 h1 h2 h3 h4 h5 h6 h7 h8 h9 h10 h11 h12 h13 h14 h15) (vx_cwSW 4 S.2.2.2.2 gL_law_L_distance rfl rfl rfl (by decide +kernel) ⟨Nat.le_of_ble_eq_true rfl, Nat.le_of_ble_eq_true rfl⟩) rfl hl.1 rfl (Nat.le_of_ble_eq_true rfl) dL_law_1807 ⟨Nat.le_of_ble_eq_true rfl, Nat.le_of_ble_eq_true rfl⟩ (fun rv_1 _ H locs hp hG => ?_)
  subst rv_1
  refine lv_istore (lv' := [(6, .int 0), (0, .ref b), (1, .ref N0), (2, .ref (N0 + 164)), (3, .ref (N0 + 229)), (4, .ref (N0 + 230)), (5, .int 0)]) S.1 S.2.1 dL_law_1810 hl (by decide) rfl (fun ls hl => ?_)
  refine lv_aload_n S.1 S.2.1 dL_law_1812 rfl (lv_at hl 3 rfl) ?_
  refine lv_aload_n S.1 S.2.1 dL_law_1813 rfl (lv_at hl 1 rfl) ?_
  refine lv_iload S.1 S.2.1 dL_law_1814 (lv_at hl 6 rfl) ?_
  refine lv_iconst (v := 1) S.1 S.2.1 dL_law_1816 (by decide) ?_
  refine lv_iadd S.1 S.2.1 dL_law_1817 ?_
  refine fx_topi (y := 1) (by decide) ?_
  refine gx_sld (v := 0) S hG hX hbl (fin_l (by decide)) hx1 dL_law_1818 ?_
  refine lv_aload_n S.1 S.2.1 dL_law_1819 rfl (lv_at hl 1 rfl) ?_
  refine lv_iload S.1 S.2.1 dL_law_1820 (lv_at hl 6 rfl) ?_
  refine lv_iconst (v := 2) S.1 S.2.1 dL_law_1822 (by decide) ?_
  refine lv_iadd S.1 S.2.1 dL_law_1823 ?_
  refine fx_topi (y := 2) (by decide) ?_
  refine gx_sld (v := 1) S hG hX hbl (fin_l (by decide)) hx2 dL_law_1824 ?_
  refine fx_cVi (As := [.int 0, .int 1]) (rest := []) S hG (k1205_X10_distance (by omega) (fu_at (by omega) (fu_at (by omega) (fu_at (by omega) (fu_at (by omega) (fu_at (by omega) (fu_at (by omega) h16)))))) (fu_at (by omega) (fu_at (by omega) (fu_at (by omega) (fu_at (by omega) (fu_at (by omega) (fu_at (by omega) h17)))))) (fu_at (by omega) (fu_at (by omega) (fu_at (by omega) (fu_at (by omega) (fu_at (by omega) (fu_at (by omega) h18)))))) (fu_at (by omega) (fu_at (by omega) (fu_at (by omega) (fu_at (by omega) (fu_at (by omega) (fu_at (by omega) h19)))))) (fu_at (by omega) (fu_at (by omega) (fu_at (by omega) (fu_at (by omega) (fu_at (by omega) (fu_at (by omega) h20)))))) (fu_at (by omega) (fu_at (by omega) (fu_at (by omega) (fu_at (by omega) (fu_at (by omega) (fu_at (by omega) h21)))))) (fu_at (by omega) (fu_at (by omega) (fu_at (by omega) (fu_at (by omega) (fu_at (by omega) (fu_at (by omega) h22)))))) (fu_at (by omega) (fu_at (by omega) (fu_at (by omega) (fu_at (by omega) (fu_at (by omega) (fu_at (by omega) h23)))))) (fu_at (by omega) (fu_at (by omega) (fu_at (by omega) (fu_at (by omega) (fu_at (by omega) (fu_at (by omega) h24)))))) (fu_at (by omega) (fu_at (by omega) (fu_at (by omega) (fu_at (by omega) (fu_at (by omega) (fu_at (by omega) h25))))))) (fu_at (by omega) (fu_at (by omega) (fu_at (by omega) (fu_at (by omega) (fu_at (by omega) (fu_at (by omega) h16)))))) rfl (cwV 2 S.2.2.2.2 gL_law_X10_distance rfl rfl rfl (by decide +kernel) ⟨Nat.le_of_ble_eq_true rfl, Nat.le_of_ble_eq_true rfl⟩) rfl hl.1 rfl (Nat.le_of_ble_eq_true rfl) dL_law_1825 ⟨Nat.le_of_ble_eq_true rfl, Nat.le_of_ble_eq_true rfl⟩ (fun rv_2 _ H locs hp hG => ?_)
  subst rv_2
  refine W.widen (k := 235) (n := 4982) (by decide) (by decide) ?_
  refine lv_istore (lv' := [(7, .int 0), (6, .int 0), (0, .ref b), (1, .ref N0), (2, .ref (N0 + 164)), (3, .ref (N0 + 229)), (4, .ref (N0 + 230)), (5, .int 0)]) S.1 S.2.1 dL_law_1828 hl (by decide) rfl (fun ls hl => ?_)
  refine lv_aload_n S.1 S.2.1 dL_law_1830 rfl (lv_at hl 4 rfl) ?_
  refine fx_cVi (As := []) (rest := []) S hG (k117_X10_thrown (by omega) (fblk_sk 4 rfl (by omega) (fu_at (by omega) fu_s))) (fblk_sk 4 rfl (by omega) (fu_at (by omega) fu_s)) rfl (cwV 0 S.2.2.2.2 gL_law_X10_thrown rfl rfl rfl (by decide +kernel) ⟨Nat.le_of_ble_eq_true rfl, Nat.le_of_ble_eq_true rfl⟩) rfl hl.1 rfl (Nat.le_of_ble_eq_true rfl) dL_law_1831 ⟨Nat.le_of_ble_eq_true rfl, Nat.le_of_ble_eq_true rfl⟩ (fun rv_3 _ H locs hp hG => ?_)
  subst rv_3
  refine lv_iload S.1 S.2.1 dL_law_1834 (lv_at hl 1 rfl) ?_
  refine lv_icmp_eq (tgt := 1841) S.1 S.2.1 dL_law_1836 (by decide) (fun _ => ?_) (fun c => absurd (by decide) c)
  refine lv_iload S.1 S.2.1 dL_law_1841 (lv_at hl 1 rfl) ?_
  refine lv_if_ne (tgt := 1858) S.1 S.2.1 dL_law_1843 (by decide) (fun c => absurd (by decide) c) (fun _ => ?_)
  refine lv_aload_n S.1 S.2.1 dL_law_1846 rfl (lv_at hl 5 rfl) ?_
  refine lv_iconst (v := 0) S.1 S.2.1 dL_law_1847 (by decide) ?_
  refine gx_lald (v := 0) S hG 2 (fblk_sk 4 rfl (by omega) (fu_at (by omega) (fu_at (by omega) fu_s))) rfl (fin_l (by decide)) rfl dL_law_1848 ?_
  refine lv_iload S.1 S.2.1 dL_law_1849 (lv_at hl 0 rfl) ?_
  refine lv_i2l (v := 0) S.1 S.2.1 dL_law_1851 (by decide) ?_
  refine gx_lcmpEq S rfl dL_law_1852 ?_
  refine lv_if_eq (tgt := 1858) S.1 S.2.1 dL_law_1853 (by decide) (fun _ => ?_) (fun c => absurd (by decide) c)
  refine lv_goto (tgt := 2650) S.1 S.2.1 dL_law_1858 (by decide) ?_
  refine lv_iinc (v := 5) (lv' := [(5, .int 5), (7, .int 0), (6, .int 0), (0, .ref b), (1, .ref N0), (2, .ref (N0 + 164)), (3, .ref (N0 + 229)), (4, .ref (N0 + 230))]) S.1 S.2.1 dL_law_2650 hl (k := 7) rfl (by decide) (by decide) rfl (fun ls hl => ?_)
  refine lv_goto (tgt := 28) S.1 S.2.1 dL_law_2653 (by decide) ?_
  refine lv_iload S.1 S.2.1 dL_law_28 (lv_at hl 0 rfl) ?_
  refine lv_aload_n S.1 S.2.1 dL_law_30 rfl (lv_at hl 3 rfl) ?_
  refine gx_slen (v := 5) S hG hX hbl rfl dL_law_31 ?_
  refine lv_iconst (v := 5) S.1 S.2.1 dL_law_32 (by decide) ?_
  refine lv_isub S.1 S.2.1 dL_law_33 ?_
  refine fx_topi (y := 0) (by decide) ?_
  refine lv_icmp_gt (tgt := 2656) S.1 S.2.1 dL_law_34 (by decide) (fun _ => ?_) (fun c => absurd (by decide) c)
  refine lv_iconst (v := 1) S.1 S.2.1 dL_law_2656 (by decide) ?_
  refine va_forget (fun q hq => by rw [hN]; exact hG.2.1.2.2 q hq) ?_
  refine W.widen (k := 600002) (n := 7302232) (by decide) (by decide) ?_
  exact lw_ret (d0 := s.drawn) (Drawn.sameBut.refl _ _) S.1 S.2.1 hr hlocks dL_law_2657
theorem l23_4 {p : Program} {e : Env} {s : State} {m : MethodId} {below : List Frame} {meth : Method} {c : Code} {b : Nat} {xs : Nat → Int32} {H : Heap} {locs : List Loc} {ls : Array Slot} {n : Nat} {a3 a4 : Int32} (S : CallFix p m c cL_law 9 s #[.ref b] wsL_law "TreeDifferLaw") (hr : meth.sig.returnType = ret) (hlocks : meth.locks = false) (hst : l.stackTraces = false) (hX : va_X b 5 xs s s.heap) (hbl : b < s.heap.size ∧ b < N0) (hN : s.heap.size = N0) (hn : N0 + 231 ≤ n) (hx1 : xs 1 = 0) (hx2 : xs 2 = 2) (hx3 : xs 3 = a3) (hx4 : xs 4 = a4) (h0 : F N0 = some (.inr (9, [.ref (N0 + 1), .ref (N0 + 2), .ref (N0 + 11), .ref (N0 + 13), .ref (N0 + 63), .ref (N0 + 65), .ref (N0 + 85), .int (-1), .int (-1), .int 32]))) (h1 : F (N0 + 1) = some (.inl (cTr, 3, .inr (.inr (.inr (.inr (va_up (va_up (va_up (fun _ => none) 0 (some (N0 + 143))) 1 (some (N0 + 150))) 2 (some (N0 + 157))))))))) (h2 : F (N0 + 13) = some (.inr (3, [.ref (N0 + 14), .ref (N0 + 35), .ref (N0 + 57), .ref (N0 + 58), .ref (N0 + 59), .ref (N0 + 60), .int 0, .int 0, .ref (N0 + 61), .ref (N0 + 62)]))) (h3 : F (N0 + 143) = some (.inr (7, [.ref (N0 + 144), .ref (N0 + 145), .ref (N0 + 146), .ref (N0 + 147), .ref (N0 + 148), .ref (N0 + 149), .int 1]))) (h4 : F (N0 + 57) = some (.inl (cI, 20, .inl (fun _ => 0)))) (h5 : F (N0 + 157) = some (.inr (7, [.ref (N0 + 158), .ref (N0 + 159), .ref (N0 + 160), .ref (N0 + 161), .ref (N0 + 162), .ref (N0 + 163), .int 1]))) (h6 : F (N0 + 58) = some (.inl (cI, 20, .inl (fun _ => 0)))) (h7 : F (N0 + 35) = some (.inl (cII, 21, .inr (.inr (.inr (.inr (fun j => if j < 21 then some ((N0 + 36) + j) else none))))))) (h8 : F (N0 + 36) = some (.inl (cI, 21, .inl (fun _ => 0)))) (h9 : F (N0 + 14) = some (.inl (cII, 20, .inr (.inr (.inr (.inr (fun j => if j < 20 then some ((N0 + 15) + j) else none))))))) (h10 : F (N0 + 144) = some (.inl (cC, 20, .inl (upd (fun _ => 0) 0 97)))) (h11 : F (N0 + 158) = some (.inl (cC, 20, .inl (upd (fun _ => 0) 0 97)))) (h12 : F (N0 + 146) = some (.inl (cI, 20, .inl (fun _ => 0)))) (h13 : F (N0 + 160) = some (.inl (cI, 20, .inl (fun _ => 0)))) (h14 : F (N0 + 15) = some (.inl (cI, 20, .inl (fun _ => 0)))) (h15 : F (N0 + 229) = some (.inl (cL, 1, .inr (.inl (fun _ => 0))))) (h16 : F (N0 + 164) = some (.inr (12, [.ref (N0 + 165), .int 0, .ref (N0 + 181), .int 0, .int 0, .int 0, .int (-1), .ref (ql 24), .ref (N0 + 182), .ref (N0 + 187), .ref (N0 + 208), .ref (N0 + 209), .ref (N0 + 210), .ref (N0 + 211), .ref (N0 + 212), .int 0, .ref (N0 + 213), .ref (N0 + 218), .ref (N0 + 223), .ref (N0 + 224), .ref (N0 + 225), .ref (N0 + 226), .ref (N0 + 227), .int 0, .int 0, .ref (N0 + 228), .null, .int (-1), .int 0, .int 0, .int 0]))) (h17 : F (N0 + 165) = some (.inl (cTm, 3, .inr (.inr (.inr (.inr (va_up (va_up (va_up (fun _ => none) 0 (some (N0 + 166))) 1 (some (N0 + 171))) 2 (some (N0 + 176))))))))) (h18 : F (N0 + 166) = some (.inr (11, [.ref (N0 + 167), .ref (N0 + 168), .ref (N0 + 169), .ref (N0 + 170), .int 1]))) (h19 : F (N0 + 176) = some (.inr (11, [.ref (N0 + 177), .ref (N0 + 178), .ref (N0 + 179), .ref (N0 + 180), .int 1]))) (h20 : F (N0 + 167) = some (.inl (cI, 20, .inl (upd (fun _ => 0) 0 97)))) (h21 : F (N0 + 177) = some (.inl (cI, 20, .inl (upd (fun _ => 0) 0 97)))) (h22 : F (N0 + 169) = some (.inl (cI, 20, .inl (upd (fun _ => 0) 0 0)))) (h23 : F (N0 + 179) = some (.inl (cI, 20, .inl (upd (fun _ => 0) 0 0)))) (h24 : F (N0 + 187) = some (.inl (cII, 20, .inr (.inr (.inr (.inr (fun j => if j < 20 then some ((N0 + 188) + j) else none))))))) (h25 : F (N0 + 188) = some (.inl (cI, 20, .inl (fun _ => 0)))) (hG : fG N0 D vwCl (fty cI cC cL cD cII cTr cTm cIt cB) (fen ql) s F n H locs) (hl : lv_has ls 9 [(0, .ref b), (1, .ref N0), (2, .ref (N0 + 164)), (3, .ref (N0 + 229)), (4, .ref (N0 + 230)), (5, .int 0)]) : W p l e { frames := 2048, cells := 600002, slots := 7302232, locals := 84000 } s m #[.ref b] below meth c H locs 231 4980 (lw_Z below #[.ref b] s) (F0 m 1793 ls []) := by
  have lt_h0 := hG.1.lt h0
  have lt_h1 := hG.1.lt h1
  have lt_h2 := hG.1.lt h2
  have lt_h3 := hG.1.lt h3
  have lt_h4 := hG.1.lt h4
  have lt_h5 := hG.1.lt h5
  have lt_h6 := hG.1.lt h6
  have lt_h7 := hG.1.lt h7
  have lt_h8 := hG.1.lt h8
  have lt_h9 := hG.1.lt h9
  have lt_h10 := hG.1.lt h10
  have lt_h11 := hG.1.lt h11
  have lt_h12 := hG.1.lt h12
  have lt_h13 := hG.1.lt h13
  have lt_h14 := hG.1.lt h14
  have lt_h15 := hG.1.lt h15
  have lt_h16 := hG.1.lt h16
  have lt_h17 := hG.1.lt h17
  have lt_h18 := hG.1.lt h18
  have lt_h19 := hG.1.lt h19
  have lt_h20 := hG.1.lt h20
  have lt_h21 := hG.1.lt h21
  have lt_h22 := hG.1.lt h22
  have lt_h23 := hG.1.lt h23
  have lt_h24 := hG.1.lt h24
  have lt_h25 := hG.1.lt h25
  refine lv_aload_n S.1 S.2.1 dL_law_1793 rfl (lv_at hl 1 rfl) ?_
  refine lv_aload_n S.1 S.2.1 dL_law_1794 rfl (lv_at hl 0 rfl) ?_
  refine lv_iload S.1 S.2.1 dL_law_1795 (lv_at hl 5 rfl) ?_
  refine lv_iconst (v := 1) S.1 S.2.1 dL_law_1797 (by decide) ?_
  refine lv_iadd S.1 S.2.1 dL_law_1798 ?_
  refine fx_topi (y := 1) (by decide) ?_
  refine gx_sld (v := 0) S hG hX hbl (fin_l (by decide)) hx1 dL_law_1799 ?_
  refine lv_aload_n S.1 S.2.1 dL_law_1800 rfl (lv_at hl 0 rfl) ?_
  refine lv_iload S.1 S.2.1 dL_law_1801 (lv_at hl 5 rfl) ?_
  refine lv_iconst (v := 2) S.1 S.2.1 dL_law_1803 (by decide) ?_
  refine lv_iadd S.1 S.2.1 dL_law_1804 ?_
  refine fx_topi (y := 2) (by decide) ?_
  refine gx_sld (v := 2) S hG hX hbl (fin_l (by decide)) hx2 dL_law_1805 ?_
  refine lv_aload_n S.1 S.2.1 dL_law_1806 rfl (lv_at hl 3 rfl) ?_
  refine fx_cTi (As := [.ref N0, .int 0, .int 2, .ref (N0 + 229)]) (rest := []) S hG (k1213_L_distance (by omega) h0 h1 h2 h3 h4 h5 h6 h7 h8 h9 h10 h11 h12 h13 h14 h15) (vx_cwSW 4 S.2.2.2.2 gL_law_L_distance rfl rfl rfl (by decide +kernel) ⟨Nat.le_of_ble_eq_true rfl, Nat.le_of_ble_eq_true rfl⟩) rfl hl.1 rfl (Nat.le_of_ble_eq_true rfl) dL_law_1807 ⟨Nat.le_of_ble_eq_true rfl, Nat.le_of_ble_eq_true rfl⟩ (fun rv_1 _ H locs hp hG => ?_)
  subst rv_1
  refine lv_istore (lv' := [(6, .int 0), (0, .ref b), (1, .ref N0), (2, .ref (N0 + 164)), (3, .ref (N0 + 229)), (4, .ref (N0 + 230)), (5, .int 0)]) S.1 S.2.1 dL_law_1810 hl (by decide) rfl (fun ls hl => ?_)
  refine lv_aload_n S.1 S.2.1 dL_law_1812 rfl (lv_at hl 3 rfl) ?_
  refine lv_aload_n S.1 S.2.1 dL_law_1813 rfl (lv_at hl 1 rfl) ?_
  refine lv_iload S.1 S.2.1 dL_law_1814 (lv_at hl 6 rfl) ?_
  refine lv_iconst (v := 1) S.1 S.2.1 dL_law_1816 (by decide) ?_
  refine lv_iadd S.1 S.2.1 dL_law_1817 ?_
  refine fx_topi (y := 1) (by decide) ?_
  refine gx_sld (v := 0) S hG hX hbl (fin_l (by decide)) hx1 dL_law_1818 ?_
  refine lv_aload_n S.1 S.2.1 dL_law_1819 rfl (lv_at hl 1 rfl) ?_
  refine lv_iload S.1 S.2.1 dL_law_1820 (lv_at hl 6 rfl) ?_
  refine lv_iconst (v := 2) S.1 S.2.1 dL_law_1822 (by decide) ?_
  refine lv_iadd S.1 S.2.1 dL_law_1823 ?_
  refine fx_topi (y := 2) (by decide) ?_
  refine gx_sld (v := 2) S hG hX hbl (fin_l (by decide)) hx2 dL_law_1824 ?_
  refine fx_cVi (As := [.int 0, .int 2]) (rest := []) S hG (k1216_X10_distance (by omega) (fu_at (by omega) (fu_at (by omega) (fu_at (by omega) (fu_at (by omega) (fu_at (by omega) (fu_at (by omega) h16)))))) (fu_at (by omega) (fu_at (by omega) (fu_at (by omega) (fu_at (by omega) (fu_at (by omega) (fu_at (by omega) h17)))))) (fu_at (by omega) (fu_at (by omega) (fu_at (by omega) (fu_at (by omega) (fu_at (by omega) (fu_at (by omega) h18)))))) (fu_at (by omega) (fu_at (by omega) (fu_at (by omega) (fu_at (by omega) (fu_at (by omega) (fu_at (by omega) h19)))))) (fu_at (by omega) (fu_at (by omega) (fu_at (by omega) (fu_at (by omega) (fu_at (by omega) (fu_at (by omega) h20)))))) (fu_at (by omega) (fu_at (by omega) (fu_at (by omega) (fu_at (by omega) (fu_at (by omega) (fu_at (by omega) h21)))))) (fu_at (by omega) (fu_at (by omega) (fu_at (by omega) (fu_at (by omega) (fu_at (by omega) (fu_at (by omega) h22)))))) (fu_at (by omega) (fu_at (by omega) (fu_at (by omega) (fu_at (by omega) (fu_at (by omega) (fu_at (by omega) h23)))))) (fu_at (by omega) (fu_at (by omega) (fu_at (by omega) (fu_at (by omega) (fu_at (by omega) (fu_at (by omega) h24)))))) (fu_at (by omega) (fu_at (by omega) (fu_at (by omega) (fu_at (by omega) (fu_at (by omega) (fu_at (by omega) h25))))))) (fu_at (by omega) (fu_at (by omega) (fu_at (by omega) (fu_at (by omega) (fu_at (by omega) (fu_at (by omega) h16)))))) rfl (cwV 2 S.2.2.2.2 gL_law_X10_distance rfl rfl rfl (by decide +kernel) ⟨Nat.le_of_ble_eq_true rfl, Nat.le_of_ble_eq_true rfl⟩) rfl hl.1 rfl (Nat.le_of_ble_eq_true rfl) dL_law_1825 ⟨Nat.le_of_ble_eq_true rfl, Nat.le_of_ble_eq_true rfl⟩ (fun rv_2 _ H locs hp hG => ?_)
  subst rv_2
  refine W.widen (k := 235) (n := 4982) (by decide) (by decide) ?_
  refine lv_istore (lv' := [(7, .int 0), (6, .int 0), (0, .ref b), (1, .ref N0), (2, .ref (N0 + 164)), (3, .ref (N0 + 229)), (4, .ref (N0 + 230)), (5, .int 0)]) S.1 S.2.1 dL_law_1828 hl (by decide) rfl (fun ls hl => ?_)
  refine lv_aload_n S.1 S.2.1 dL_law_1830 rfl (lv_at hl 4 rfl) ?_
  refine fx_cVi (As := []) (rest := []) S hG (k117_X10_thrown (by omega) (fblk_sk 4 rfl (by omega) (fu_at (by omega) fu_s))) (fblk_sk 4 rfl (by omega) (fu_at (by omega) fu_s)) rfl (cwV 0 S.2.2.2.2 gL_law_X10_thrown rfl rfl rfl (by decide +kernel) ⟨Nat.le_of_ble_eq_true rfl, Nat.le_of_ble_eq_true rfl⟩) rfl hl.1 rfl (Nat.le_of_ble_eq_true rfl) dL_law_1831 ⟨Nat.le_of_ble_eq_true rfl, Nat.le_of_ble_eq_true rfl⟩ (fun rv_3 _ H locs hp hG => ?_)
  subst rv_3
  refine lv_iload S.1 S.2.1 dL_law_1834 (lv_at hl 1 rfl) ?_
  refine lv_icmp_eq (tgt := 1841) S.1 S.2.1 dL_law_1836 (by decide) (fun _ => ?_) (fun c => absurd (by decide) c)
  refine lv_iload S.1 S.2.1 dL_law_1841 (lv_at hl 1 rfl) ?_
  refine lv_if_ne (tgt := 1858) S.1 S.2.1 dL_law_1843 (by decide) (fun c => absurd (by decide) c) (fun _ => ?_)
  refine lv_aload_n S.1 S.2.1 dL_law_1846 rfl (lv_at hl 5 rfl) ?_
  refine lv_iconst (v := 0) S.1 S.2.1 dL_law_1847 (by decide) ?_
  refine gx_lald (v := 0) S hG 2 (fblk_sk 4 rfl (by omega) (fu_at (by omega) (fu_at (by omega) fu_s))) rfl (fin_l (by decide)) rfl dL_law_1848 ?_
  refine lv_iload S.1 S.2.1 dL_law_1849 (lv_at hl 0 rfl) ?_
  refine lv_i2l (v := 0) S.1 S.2.1 dL_law_1851 (by decide) ?_
  refine gx_lcmpEq S rfl dL_law_1852 ?_
  refine lv_if_eq (tgt := 1858) S.1 S.2.1 dL_law_1853 (by decide) (fun _ => ?_) (fun c => absurd (by decide) c)
  refine lv_goto (tgt := 2650) S.1 S.2.1 dL_law_1858 (by decide) ?_
  refine lv_iinc (v := 5) (lv' := [(5, .int 5), (7, .int 0), (6, .int 0), (0, .ref b), (1, .ref N0), (2, .ref (N0 + 164)), (3, .ref (N0 + 229)), (4, .ref (N0 + 230))]) S.1 S.2.1 dL_law_2650 hl (k := 7) rfl (by decide) (by decide) rfl (fun ls hl => ?_)
  refine lv_goto (tgt := 28) S.1 S.2.1 dL_law_2653 (by decide) ?_
  refine lv_iload S.1 S.2.1 dL_law_28 (lv_at hl 0 rfl) ?_
  refine lv_aload_n S.1 S.2.1 dL_law_30 rfl (lv_at hl 3 rfl) ?_
  refine gx_slen (v := 5) S hG hX hbl rfl dL_law_31 ?_
  refine lv_iconst (v := 5) S.1 S.2.1 dL_law_32 (by decide) ?_
  refine lv_isub S.1 S.2.1 dL_law_33 ?_
  refine fx_topi (y := 0) (by decide) ?_
  refine lv_icmp_gt (tgt := 2656) S.1 S.2.1 dL_law_34 (by decide) (fun _ => ?_) (fun c => absurd (by decide) c)
  refine lv_iconst (v := 1) S.1 S.2.1 dL_law_2656 (by decide) ?_
  refine va_forget (fun q hq => by rw [hN]; exact hG.2.1.2.2 q hq) ?_
  refine W.widen (k := 600002) (n := 7302232) (by decide) (by decide) ?_
  exact lw_ret (d0 := s.drawn) (Drawn.sameBut.refl _ _) S.1 S.2.1 hr hlocks dL_law_2657
theorem l23_5 {p : Program} {e : Env} {s : State} {m : MethodId} {below : List Frame} {meth : Method} {c : Code} {b : Nat} {xs : Nat → Int32} {H : Heap} {locs : List Loc} {ls : Array Slot} {n : Nat} {a2 a3 a4 : Int32} (g_a2_ge_3 : 3 ≤ a2) (S : CallFix p m c cL_law 9 s #[.ref b] wsL_law "TreeDifferLaw") (hr : meth.sig.returnType = ret) (hlocks : meth.locks = false) (hst : l.stackTraces = false) (hX : va_X b 5 xs s s.heap) (hbl : b < s.heap.size ∧ b < N0) (hN : s.heap.size = N0) (hn : N0 + 231 ≤ n) (hx1 : xs 1 = 0) (hx2 : xs 2 = a2) (hx3 : xs 3 = a3) (hx4 : xs 4 = a4) (h0 : F N0 = some (.inr (9, [.ref (N0 + 1), .ref (N0 + 2), .ref (N0 + 11), .ref (N0 + 13), .ref (N0 + 63), .ref (N0 + 65), .ref (N0 + 85), .int (-1), .int (-1), .int 32]))) (h1 : F (N0 + 1) = some (.inl (cTr, 3, .inr (.inr (.inr (.inr (va_up (va_up (va_up (fun _ => none) 0 (some (N0 + 143))) 1 (some (N0 + 150))) 2 (some (N0 + 157))))))))) (h2 : F (N0 + 164) = some (.inr (12, [.ref (N0 + 165), .int 0, .ref (N0 + 181), .int 0, .int 0, .int 0, .int (-1), .ref (ql 24), .ref (N0 + 182), .ref (N0 + 187), .ref (N0 + 208), .ref (N0 + 209), .ref (N0 + 210), .ref (N0 + 211), .ref (N0 + 212), .int 0, .ref (N0 + 213), .ref (N0 + 218), .ref (N0 + 223), .ref (N0 + 224), .ref (N0 + 225), .ref (N0 + 226), .ref (N0 + 227), .int 0, .int 0, .ref (N0 + 228), .null, .int (-1), .int 0, .int 0, .int 0]))) (hG : fG N0 D vwCl (fty cI cC cL cD cII cTr cTm cIt cB) (fen ql) s F n H locs) (hl : lv_has ls 9 [(0, .ref b), (1, .ref N0), (2, .ref (N0 + 164)), (3, .ref (N0 + 229)), (4, .ref (N0 + 230)), (5, .int 0)]) : W p l e { frames := 2048, cells := 600002, slots := 7302232, locals := 84000 } s m #[.ref b] below meth c H locs 231 4980 (lw_Z below #[.ref b] s) (F0 m 1793 ls []) := by
  have lt_h0 := hG.1.lt h0
  have lt_h1 := hG.1.lt h1
  have lt_h2 := hG.1.lt h2
  refine lv_aload_n S.1 S.2.1 dL_law_1793 rfl (lv_at hl 1 rfl) ?_
  refine lv_aload_n S.1 S.2.1 dL_law_1794 rfl (lv_at hl 0 rfl) ?_
  refine lv_iload S.1 S.2.1 dL_law_1795 (lv_at hl 5 rfl) ?_
  refine lv_iconst (v := 1) S.1 S.2.1 dL_law_1797 (by decide) ?_
  refine lv_iadd S.1 S.2.1 dL_law_1798 ?_
  refine fx_topi (y := 1) (by decide) ?_
  refine gx_sld (v := 0) S hG hX hbl (fin_l (by decide)) hx1 dL_law_1799 ?_
  refine lv_aload_n S.1 S.2.1 dL_law_1800 rfl (lv_at hl 0 rfl) ?_
  refine lv_iload S.1 S.2.1 dL_law_1801 (lv_at hl 5 rfl) ?_
  refine lv_iconst (v := 2) S.1 S.2.1 dL_law_1803 (by decide) ?_
  refine lv_iadd S.1 S.2.1 dL_law_1804 ?_
  refine fx_topi (y := 2) (by decide) ?_
  refine gx_sld (v := a2) S hG hX hbl (fin_l (by decide)) hx2 dL_law_1805 ?_
  refine lv_aload_n S.1 S.2.1 dL_law_1806 rfl (lv_at hl 3 rfl) ?_
  refine fx_cTi (As := [.ref N0, .int 0, .int a2, .ref (N0 + 229)]) (rest := []) S hG (k1218_L_distance g_a2_ge_3 hst (by omega) h0 h1) (vx_cwSW 4 S.2.2.2.2 gL_law_L_distance rfl rfl rfl (by decide +kernel) ⟨Nat.le_of_ble_eq_true rfl, Nat.le_of_ble_eq_true rfl⟩) rfl hl.1 rfl (Nat.le_of_ble_eq_true rfl) dL_law_1807 ⟨Nat.le_of_ble_eq_true rfl, Nat.le_of_ble_eq_true rfl⟩ (fun rv_u_1 u_1 H locs hp hG => ?_)
  obtain ⟨rfl, hu_1⟩ := hp
  refine W.widen (k := 232) (n := 4986) (by decide) (by decide) ?_
  refine lv_istore (lv' := [(6, .int 1), (0, .ref b), (1, .ref N0), (2, .ref (N0 + 164)), (3, .ref (N0 + 229)), (4, .ref (N0 + 230)), (5, .int 0)]) S.1 S.2.1 dL_law_1810 hl (by decide) rfl (fun ls hl => ?_)
  refine lv_aload_n S.1 S.2.1 dL_law_1812 rfl (lv_at hl 3 rfl) ?_
  refine lv_aload_n S.1 S.2.1 dL_law_1813 rfl (lv_at hl 1 rfl) ?_
  refine lv_iload S.1 S.2.1 dL_law_1814 (lv_at hl 6 rfl) ?_
  refine lv_iconst (v := 1) S.1 S.2.1 dL_law_1816 (by decide) ?_
  refine lv_iadd S.1 S.2.1 dL_law_1817 ?_
  refine fx_topi (y := 1) (by decide) ?_
  refine gx_sld (v := 0) S hG hX hbl (fin_l (by decide)) hx1 dL_law_1818 ?_
  refine lv_aload_n S.1 S.2.1 dL_law_1819 rfl (lv_at hl 1 rfl) ?_
  refine lv_iload S.1 S.2.1 dL_law_1820 (lv_at hl 6 rfl) ?_
  refine lv_iconst (v := 2) S.1 S.2.1 dL_law_1822 (by decide) ?_
  refine lv_iadd S.1 S.2.1 dL_law_1823 ?_
  refine fx_topi (y := 2) (by decide) ?_
  refine gx_sld (v := a2) S hG hX hbl (fin_l (by decide)) hx2 dL_law_1824 ?_
  refine fx_cVi (As := [.int 0, .int a2]) (rest := []) S hG (k1219_X10_distance g_a2_ge_3 (by omega) h2) h2 rfl (cwV 2 S.2.2.2.2 gL_law_X10_distance rfl rfl rfl (by decide +kernel) ⟨Nat.le_of_ble_eq_true rfl, Nat.le_of_ble_eq_true rfl⟩) rfl hl.1 rfl (Nat.le_of_ble_eq_true rfl) dL_law_1825 ⟨Nat.le_of_ble_eq_true rfl, Nat.le_of_ble_eq_true rfl⟩ (fun rv_2 _ H locs hp hG => ?_)
  subst rv_2
  refine lv_istore (lv' := [(7, .int 0), (6, .int 1), (0, .ref b), (1, .ref N0), (2, .ref (N0 + 164)), (3, .ref (N0 + 229)), (4, .ref (N0 + 230)), (5, .int 0)]) S.1 S.2.1 dL_law_1828 hl (by decide) rfl (fun ls hl => ?_)
  refine lv_aload_n S.1 S.2.1 dL_law_1830 rfl (lv_at hl 4 rfl) ?_
  refine fx_cVi (As := []) (rest := []) S hG (k25_X10_thrown (by omega) fu_s) fu_s rfl (cwV 0 S.2.2.2.2 gL_law_X10_thrown rfl rfl rfl (by decide +kernel) ⟨Nat.le_of_ble_eq_true rfl, Nat.le_of_ble_eq_true rfl⟩) rfl hl.1 rfl (Nat.le_of_ble_eq_true rfl) dL_law_1831 ⟨Nat.le_of_ble_eq_true rfl, Nat.le_of_ble_eq_true rfl⟩ (fun rv_3 _ H locs hp hG => ?_)
  subst rv_3
  refine lv_iload S.1 S.2.1 dL_law_1834 (lv_at hl 1 rfl) ?_
  refine lv_icmp_eq (tgt := 1841) S.1 S.2.1 dL_law_1836 (by decide) (fun _ => ?_) (fun c => absurd (by decide) c)
  refine lv_iload S.1 S.2.1 dL_law_1841 (lv_at hl 1 rfl) ?_
  refine lv_if_ne (tgt := 1858) S.1 S.2.1 dL_law_1843 (by decide) (fun _ => ?_) (fun c => absurd c (by decide))
  refine lv_goto (tgt := 2650) S.1 S.2.1 dL_law_1858 (by decide) ?_
  refine lv_iinc (v := 5) (lv' := [(5, .int 5), (7, .int 0), (6, .int 1), (0, .ref b), (1, .ref N0), (2, .ref (N0 + 164)), (3, .ref (N0 + 229)), (4, .ref (N0 + 230))]) S.1 S.2.1 dL_law_2650 hl (k := 7) rfl (by decide) (by decide) rfl (fun ls hl => ?_)
  refine lv_goto (tgt := 28) S.1 S.2.1 dL_law_2653 (by decide) ?_
  refine lv_iload S.1 S.2.1 dL_law_28 (lv_at hl 0 rfl) ?_
  refine lv_aload_n S.1 S.2.1 dL_law_30 rfl (lv_at hl 3 rfl) ?_
  refine gx_slen (v := 5) S hG hX hbl rfl dL_law_31 ?_
  refine lv_iconst (v := 5) S.1 S.2.1 dL_law_32 (by decide) ?_
  refine lv_isub S.1 S.2.1 dL_law_33 ?_
  refine fx_topi (y := 0) (by decide) ?_
  refine lv_icmp_gt (tgt := 2656) S.1 S.2.1 dL_law_34 (by decide) (fun _ => ?_) (fun c => absurd (by decide) c)
  refine lv_iconst (v := 1) S.1 S.2.1 dL_law_2656 (by decide) ?_
  refine va_forget (fun q hq => by rw [hN]; exact hG.2.1.2.2 q hq) ?_
  refine W.widen (k := 600002) (n := 7302232) (by decide) (by decide) ?_
  exact lw_ret (d0 := s.drawn) (Drawn.sameBut.refl _ _) S.1 S.2.1 hr hlocks dL_law_2657
theorem l23_6 {p : Program} {e : Env} {s : State} {m : MethodId} {below : List Frame} {meth : Method} {c : Code} {b : Nat} {xs : Nat → Int32} {H : Heap} {locs : List Loc} {ls : Array Slot} {n : Nat} {a2 a3 a4 : Int32} (g_a2_le_m1 : a2 ≤ (-1)) (S : CallFix p m c cL_law 9 s #[.ref b] wsL_law "TreeDifferLaw") (hr : meth.sig.returnType = ret) (hlocks : meth.locks = false) (hst : l.stackTraces = false) (hX : va_X b 5 xs s s.heap) (hbl : b < s.heap.size ∧ b < N0) (hN : s.heap.size = N0) (hn : N0 + 231 ≤ n) (hx1 : xs 1 = 1) (hx2 : xs 2 = a2) (hx3 : xs 3 = a3) (hx4 : xs 4 = a4) (h0 : F N0 = some (.inr (9, [.ref (N0 + 1), .ref (N0 + 2), .ref (N0 + 11), .ref (N0 + 13), .ref (N0 + 63), .ref (N0 + 65), .ref (N0 + 85), .int (-1), .int (-1), .int 32]))) (h1 : F (N0 + 1) = some (.inl (cTr, 3, .inr (.inr (.inr (.inr (va_up (va_up (va_up (fun _ => none) 0 (some (N0 + 143))) 1 (some (N0 + 150))) 2 (some (N0 + 157))))))))) (h2 : F (N0 + 164) = some (.inr (12, [.ref (N0 + 165), .int 0, .ref (N0 + 181), .int 0, .int 0, .int 0, .int (-1), .ref (ql 24), .ref (N0 + 182), .ref (N0 + 187), .ref (N0 + 208), .ref (N0 + 209), .ref (N0 + 210), .ref (N0 + 211), .ref (N0 + 212), .int 0, .ref (N0 + 213), .ref (N0 + 218), .ref (N0 + 223), .ref (N0 + 224), .ref (N0 + 225), .ref (N0 + 226), .ref (N0 + 227), .int 0, .int 0, .ref (N0 + 228), .null, .int (-1), .int 0, .int 0, .int 0]))) (hG : fG N0 D vwCl (fty cI cC cL cD cII cTr cTm cIt cB) (fen ql) s F n H locs) (hl : lv_has ls 9 [(0, .ref b), (1, .ref N0), (2, .ref (N0 + 164)), (3, .ref (N0 + 229)), (4, .ref (N0 + 230)), (5, .int 0)]) : W p l e { frames := 2048, cells := 600002, slots := 7302232, locals := 84000 } s m #[.ref b] below meth c H locs 231 4980 (lw_Z below #[.ref b] s) (F0 m 1793 ls []) := by
  have lt_h0 := hG.1.lt h0
  have lt_h1 := hG.1.lt h1
  have lt_h2 := hG.1.lt h2
  refine lv_aload_n S.1 S.2.1 dL_law_1793 rfl (lv_at hl 1 rfl) ?_
  refine lv_aload_n S.1 S.2.1 dL_law_1794 rfl (lv_at hl 0 rfl) ?_
  refine lv_iload S.1 S.2.1 dL_law_1795 (lv_at hl 5 rfl) ?_
  refine lv_iconst (v := 1) S.1 S.2.1 dL_law_1797 (by decide) ?_
  refine lv_iadd S.1 S.2.1 dL_law_1798 ?_
  refine fx_topi (y := 1) (by decide) ?_
  refine gx_sld (v := 1) S hG hX hbl (fin_l (by decide)) hx1 dL_law_1799 ?_
  refine lv_aload_n S.1 S.2.1 dL_law_1800 rfl (lv_at hl 0 rfl) ?_
  refine lv_iload S.1 S.2.1 dL_law_1801 (lv_at hl 5 rfl) ?_
  refine lv_iconst (v := 2) S.1 S.2.1 dL_law_1803 (by decide) ?_
  refine lv_iadd S.1 S.2.1 dL_law_1804 ?_
  refine fx_topi (y := 2) (by decide) ?_
  refine gx_sld (v := a2) S hG hX hbl (fin_l (by decide)) hx2 dL_law_1805 ?_
  refine lv_aload_n S.1 S.2.1 dL_law_1806 rfl (lv_at hl 3 rfl) ?_
  refine fx_cTi (As := [.ref N0, .int 1, .int a2, .ref (N0 + 229)]) (rest := []) S hG (k1221_L_distance g_a2_le_m1 hst (by omega) h0 h1) (vx_cwSW 4 S.2.2.2.2 gL_law_L_distance rfl rfl rfl (by decide +kernel) ⟨Nat.le_of_ble_eq_true rfl, Nat.le_of_ble_eq_true rfl⟩) rfl hl.1 rfl (Nat.le_of_ble_eq_true rfl) dL_law_1807 ⟨Nat.le_of_ble_eq_true rfl, Nat.le_of_ble_eq_true rfl⟩ (fun rv_u_1 u_1 H locs hp hG => ?_)
  obtain ⟨rfl, hu_1⟩ := hp
  refine W.widen (k := 232) (n := 4986) (by decide) (by decide) ?_
  refine lv_istore (lv' := [(6, .int 1), (0, .ref b), (1, .ref N0), (2, .ref (N0 + 164)), (3, .ref (N0 + 229)), (4, .ref (N0 + 230)), (5, .int 0)]) S.1 S.2.1 dL_law_1810 hl (by decide) rfl (fun ls hl => ?_)
  refine lv_aload_n S.1 S.2.1 dL_law_1812 rfl (lv_at hl 3 rfl) ?_
  refine lv_aload_n S.1 S.2.1 dL_law_1813 rfl (lv_at hl 1 rfl) ?_
  refine lv_iload S.1 S.2.1 dL_law_1814 (lv_at hl 6 rfl) ?_
  refine lv_iconst (v := 1) S.1 S.2.1 dL_law_1816 (by decide) ?_
  refine lv_iadd S.1 S.2.1 dL_law_1817 ?_
  refine fx_topi (y := 1) (by decide) ?_
  refine gx_sld (v := 1) S hG hX hbl (fin_l (by decide)) hx1 dL_law_1818 ?_
  refine lv_aload_n S.1 S.2.1 dL_law_1819 rfl (lv_at hl 1 rfl) ?_
  refine lv_iload S.1 S.2.1 dL_law_1820 (lv_at hl 6 rfl) ?_
  refine lv_iconst (v := 2) S.1 S.2.1 dL_law_1822 (by decide) ?_
  refine lv_iadd S.1 S.2.1 dL_law_1823 ?_
  refine fx_topi (y := 2) (by decide) ?_
  refine gx_sld (v := a2) S hG hX hbl (fin_l (by decide)) hx2 dL_law_1824 ?_
  refine fx_cVi (As := [.int 1, .int a2]) (rest := []) S hG (k1222_X10_distance g_a2_le_m1 (by omega) h2) h2 rfl (cwV 2 S.2.2.2.2 gL_law_X10_distance rfl rfl rfl (by decide +kernel) ⟨Nat.le_of_ble_eq_true rfl, Nat.le_of_ble_eq_true rfl⟩) rfl hl.1 rfl (Nat.le_of_ble_eq_true rfl) dL_law_1825 ⟨Nat.le_of_ble_eq_true rfl, Nat.le_of_ble_eq_true rfl⟩ (fun rv_2 _ H locs hp hG => ?_)
  subst rv_2
  refine lv_istore (lv' := [(7, .int 0), (6, .int 1), (0, .ref b), (1, .ref N0), (2, .ref (N0 + 164)), (3, .ref (N0 + 229)), (4, .ref (N0 + 230)), (5, .int 0)]) S.1 S.2.1 dL_law_1828 hl (by decide) rfl (fun ls hl => ?_)
  refine lv_aload_n S.1 S.2.1 dL_law_1830 rfl (lv_at hl 4 rfl) ?_
  refine fx_cVi (As := []) (rest := []) S hG (k25_X10_thrown (by omega) fu_s) fu_s rfl (cwV 0 S.2.2.2.2 gL_law_X10_thrown rfl rfl rfl (by decide +kernel) ⟨Nat.le_of_ble_eq_true rfl, Nat.le_of_ble_eq_true rfl⟩) rfl hl.1 rfl (Nat.le_of_ble_eq_true rfl) dL_law_1831 ⟨Nat.le_of_ble_eq_true rfl, Nat.le_of_ble_eq_true rfl⟩ (fun rv_3 _ H locs hp hG => ?_)
  subst rv_3
  refine lv_iload S.1 S.2.1 dL_law_1834 (lv_at hl 1 rfl) ?_
  refine lv_icmp_eq (tgt := 1841) S.1 S.2.1 dL_law_1836 (by decide) (fun _ => ?_) (fun c => absurd (by decide) c)
  refine lv_iload S.1 S.2.1 dL_law_1841 (lv_at hl 1 rfl) ?_
  refine lv_if_ne (tgt := 1858) S.1 S.2.1 dL_law_1843 (by decide) (fun _ => ?_) (fun c => absurd c (by decide))
  refine lv_goto (tgt := 2650) S.1 S.2.1 dL_law_1858 (by decide) ?_
  refine lv_iinc (v := 5) (lv' := [(5, .int 5), (7, .int 0), (6, .int 1), (0, .ref b), (1, .ref N0), (2, .ref (N0 + 164)), (3, .ref (N0 + 229)), (4, .ref (N0 + 230))]) S.1 S.2.1 dL_law_2650 hl (k := 7) rfl (by decide) (by decide) rfl (fun ls hl => ?_)
  refine lv_goto (tgt := 28) S.1 S.2.1 dL_law_2653 (by decide) ?_
  refine lv_iload S.1 S.2.1 dL_law_28 (lv_at hl 0 rfl) ?_
  refine lv_aload_n S.1 S.2.1 dL_law_30 rfl (lv_at hl 3 rfl) ?_
  refine gx_slen (v := 5) S hG hX hbl rfl dL_law_31 ?_
  refine lv_iconst (v := 5) S.1 S.2.1 dL_law_32 (by decide) ?_
  refine lv_isub S.1 S.2.1 dL_law_33 ?_
  refine fx_topi (y := 0) (by decide) ?_
  refine lv_icmp_gt (tgt := 2656) S.1 S.2.1 dL_law_34 (by decide) (fun _ => ?_) (fun c => absurd (by decide) c)
  refine lv_iconst (v := 1) S.1 S.2.1 dL_law_2656 (by decide) ?_
  refine va_forget (fun q hq => by rw [hN]; exact hG.2.1.2.2 q hq) ?_
  refine W.widen (k := 600002) (n := 7302232) (by decide) (by decide) ?_
  exact lw_ret (d0 := s.drawn) (Drawn.sameBut.refl _ _) S.1 S.2.1 hr hlocks dL_law_2657
theorem l23_7 {p : Program} {e : Env} {s : State} {m : MethodId} {below : List Frame} {meth : Method} {c : Code} {b : Nat} {xs : Nat → Int32} {H : Heap} {locs : List Loc} {ls : Array Slot} {n : Nat} {a3 a4 : Int32} (S : CallFix p m c cL_law 9 s #[.ref b] wsL_law "TreeDifferLaw") (hr : meth.sig.returnType = ret) (hlocks : meth.locks = false) (hst : l.stackTraces = false) (hX : va_X b 5 xs s s.heap) (hbl : b < s.heap.size ∧ b < N0) (hN : s.heap.size = N0) (hn : N0 + 231 ≤ n) (hx1 : xs 1 = 1) (hx2 : xs 2 = 0) (hx3 : xs 3 = a3) (hx4 : xs 4 = a4) (h0 : F N0 = some (.inr (9, [.ref (N0 + 1), .ref (N0 + 2), .ref (N0 + 11), .ref (N0 + 13), .ref (N0 + 63), .ref (N0 + 65), .ref (N0 + 85), .int (-1), .int (-1), .int 32]))) (h1 : F (N0 + 1) = some (.inl (cTr, 3, .inr (.inr (.inr (.inr (va_up (va_up (va_up (fun _ => none) 0 (some (N0 + 143))) 1 (some (N0 + 150))) 2 (some (N0 + 157))))))))) (h2 : F (N0 + 13) = some (.inr (3, [.ref (N0 + 14), .ref (N0 + 35), .ref (N0 + 57), .ref (N0 + 58), .ref (N0 + 59), .ref (N0 + 60), .int 0, .int 0, .ref (N0 + 61), .ref (N0 + 62)]))) (h3 : F (N0 + 150) = some (.inr (7, [.ref (N0 + 151), .ref (N0 + 152), .ref (N0 + 153), .ref (N0 + 154), .ref (N0 + 155), .ref (N0 + 156), .int 1]))) (h4 : F (N0 + 57) = some (.inl (cI, 20, .inl (fun _ => 0)))) (h5 : F (N0 + 143) = some (.inr (7, [.ref (N0 + 144), .ref (N0 + 145), .ref (N0 + 146), .ref (N0 + 147), .ref (N0 + 148), .ref (N0 + 149), .int 1]))) (h6 : F (N0 + 58) = some (.inl (cI, 20, .inl (fun _ => 0)))) (h7 : F (N0 + 35) = some (.inl (cII, 21, .inr (.inr (.inr (.inr (fun j => if j < 21 then some ((N0 + 36) + j) else none))))))) (h8 : F (N0 + 36) = some (.inl (cI, 21, .inl (fun _ => 0)))) (h9 : F (N0 + 14) = some (.inl (cII, 20, .inr (.inr (.inr (.inr (fun j => if j < 20 then some ((N0 + 15) + j) else none))))))) (h10 : F (N0 + 151) = some (.inl (cC, 20, .inl (upd (fun _ => 0) 0 97)))) (h11 : F (N0 + 144) = some (.inl (cC, 20, .inl (upd (fun _ => 0) 0 97)))) (h12 : F (N0 + 153) = some (.inl (cI, 20, .inl (fun _ => 0)))) (h13 : F (N0 + 146) = some (.inl (cI, 20, .inl (fun _ => 0)))) (h14 : F (N0 + 15) = some (.inl (cI, 20, .inl (fun _ => 0)))) (h15 : F (N0 + 229) = some (.inl (cL, 1, .inr (.inl (fun _ => 0))))) (h16 : F (N0 + 164) = some (.inr (12, [.ref (N0 + 165), .int 0, .ref (N0 + 181), .int 0, .int 0, .int 0, .int (-1), .ref (ql 24), .ref (N0 + 182), .ref (N0 + 187), .ref (N0 + 208), .ref (N0 + 209), .ref (N0 + 210), .ref (N0 + 211), .ref (N0 + 212), .int 0, .ref (N0 + 213), .ref (N0 + 218), .ref (N0 + 223), .ref (N0 + 224), .ref (N0 + 225), .ref (N0 + 226), .ref (N0 + 227), .int 0, .int 0, .ref (N0 + 228), .null, .int (-1), .int 0, .int 0, .int 0]))) (h17 : F (N0 + 165) = some (.inl (cTm, 3, .inr (.inr (.inr (.inr (va_up (va_up (va_up (fun _ => none) 0 (some (N0 + 166))) 1 (some (N0 + 171))) 2 (some (N0 + 176))))))))) (h18 : F (N0 + 171) = some (.inr (11, [.ref (N0 + 172), .ref (N0 + 173), .ref (N0 + 174), .ref (N0 + 175), .int 1]))) (h19 : F (N0 + 166) = some (.inr (11, [.ref (N0 + 167), .ref (N0 + 168), .ref (N0 + 169), .ref (N0 + 170), .int 1]))) (h20 : F (N0 + 172) = some (.inl (cI, 20, .inl (upd (fun _ => 0) 0 97)))) (h21 : F (N0 + 167) = some (.inl (cI, 20, .inl (upd (fun _ => 0) 0 97)))) (h22 : F (N0 + 174) = some (.inl (cI, 20, .inl (upd (fun _ => 0) 0 0)))) (h23 : F (N0 + 169) = some (.inl (cI, 20, .inl (upd (fun _ => 0) 0 0)))) (h24 : F (N0 + 187) = some (.inl (cII, 20, .inr (.inr (.inr (.inr (fun j => if j < 20 then some ((N0 + 188) + j) else none))))))) (h25 : F (N0 + 188) = some (.inl (cI, 20, .inl (fun _ => 0)))) (hG : fG N0 D vwCl (fty cI cC cL cD cII cTr cTm cIt cB) (fen ql) s F n H locs) (hl : lv_has ls 9 [(0, .ref b), (1, .ref N0), (2, .ref (N0 + 164)), (3, .ref (N0 + 229)), (4, .ref (N0 + 230)), (5, .int 0)]) : W p l e { frames := 2048, cells := 600002, slots := 7302232, locals := 84000 } s m #[.ref b] below meth c H locs 231 4980 (lw_Z below #[.ref b] s) (F0 m 1793 ls []) := by
  have lt_h0 := hG.1.lt h0
  have lt_h1 := hG.1.lt h1
  have lt_h2 := hG.1.lt h2
  have lt_h3 := hG.1.lt h3
  have lt_h4 := hG.1.lt h4
  have lt_h5 := hG.1.lt h5
  have lt_h6 := hG.1.lt h6
  have lt_h7 := hG.1.lt h7
  have lt_h8 := hG.1.lt h8
  have lt_h9 := hG.1.lt h9
  have lt_h10 := hG.1.lt h10
  have lt_h11 := hG.1.lt h11
  have lt_h12 := hG.1.lt h12
  have lt_h13 := hG.1.lt h13
  have lt_h14 := hG.1.lt h14
  have lt_h15 := hG.1.lt h15
  have lt_h16 := hG.1.lt h16
  have lt_h17 := hG.1.lt h17
  have lt_h18 := hG.1.lt h18
  have lt_h19 := hG.1.lt h19
  have lt_h20 := hG.1.lt h20
  have lt_h21 := hG.1.lt h21
  have lt_h22 := hG.1.lt h22
  have lt_h23 := hG.1.lt h23
  have lt_h24 := hG.1.lt h24
  have lt_h25 := hG.1.lt h25
  refine lv_aload_n S.1 S.2.1 dL_law_1793 rfl (lv_at hl 1 rfl) ?_
  refine lv_aload_n S.1 S.2.1 dL_law_1794 rfl (lv_at hl 0 rfl) ?_
  refine lv_iload S.1 S.2.1 dL_law_1795 (lv_at hl 5 rfl) ?_
  refine lv_iconst (v := 1) S.1 S.2.1 dL_law_1797 (by decide) ?_
  refine lv_iadd S.1 S.2.1 dL_law_1798 ?_
  refine fx_topi (y := 1) (by decide) ?_
  refine gx_sld (v := 1) S hG hX hbl (fin_l (by decide)) hx1 dL_law_1799 ?_
  refine lv_aload_n S.1 S.2.1 dL_law_1800 rfl (lv_at hl 0 rfl) ?_
  refine lv_iload S.1 S.2.1 dL_law_1801 (lv_at hl 5 rfl) ?_
  refine lv_iconst (v := 2) S.1 S.2.1 dL_law_1803 (by decide) ?_
  refine lv_iadd S.1 S.2.1 dL_law_1804 ?_
  refine fx_topi (y := 2) (by decide) ?_
  refine gx_sld (v := 0) S hG hX hbl (fin_l (by decide)) hx2 dL_law_1805 ?_
  refine lv_aload_n S.1 S.2.1 dL_law_1806 rfl (lv_at hl 3 rfl) ?_
  refine fx_cTi (As := [.ref N0, .int 1, .int 0, .ref (N0 + 229)]) (rest := []) S hG (k1230_L_distance (by omega) h0 h1 h2 h3 h4 h5 h6 h7 h8 h9 h10 h11 h12 h13 h14 h15) (vx_cwSW 4 S.2.2.2.2 gL_law_L_distance rfl rfl rfl (by decide +kernel) ⟨Nat.le_of_ble_eq_true rfl, Nat.le_of_ble_eq_true rfl⟩) rfl hl.1 rfl (Nat.le_of_ble_eq_true rfl) dL_law_1807 ⟨Nat.le_of_ble_eq_true rfl, Nat.le_of_ble_eq_true rfl⟩ (fun rv_1 _ H locs hp hG => ?_)
  subst rv_1
  refine lv_istore (lv' := [(6, .int 0), (0, .ref b), (1, .ref N0), (2, .ref (N0 + 164)), (3, .ref (N0 + 229)), (4, .ref (N0 + 230)), (5, .int 0)]) S.1 S.2.1 dL_law_1810 hl (by decide) rfl (fun ls hl => ?_)
  refine lv_aload_n S.1 S.2.1 dL_law_1812 rfl (lv_at hl 3 rfl) ?_
  refine lv_aload_n S.1 S.2.1 dL_law_1813 rfl (lv_at hl 1 rfl) ?_
  refine lv_iload S.1 S.2.1 dL_law_1814 (lv_at hl 6 rfl) ?_
  refine lv_iconst (v := 1) S.1 S.2.1 dL_law_1816 (by decide) ?_
  refine lv_iadd S.1 S.2.1 dL_law_1817 ?_
  refine fx_topi (y := 1) (by decide) ?_
  refine gx_sld (v := 1) S hG hX hbl (fin_l (by decide)) hx1 dL_law_1818 ?_
  refine lv_aload_n S.1 S.2.1 dL_law_1819 rfl (lv_at hl 1 rfl) ?_
  refine lv_iload S.1 S.2.1 dL_law_1820 (lv_at hl 6 rfl) ?_
  refine lv_iconst (v := 2) S.1 S.2.1 dL_law_1822 (by decide) ?_
  refine lv_iadd S.1 S.2.1 dL_law_1823 ?_
  refine fx_topi (y := 2) (by decide) ?_
  refine gx_sld (v := 0) S hG hX hbl (fin_l (by decide)) hx2 dL_law_1824 ?_
  refine fx_cVi (As := [.int 1, .int 0]) (rest := []) S hG (k1233_X10_distance (by omega) (fu_at (by omega) (fu_at (by omega) (fu_at (by omega) (fu_at (by omega) (fu_at (by omega) (fu_at (by omega) h16)))))) (fu_at (by omega) (fu_at (by omega) (fu_at (by omega) (fu_at (by omega) (fu_at (by omega) (fu_at (by omega) h17)))))) (fu_at (by omega) (fu_at (by omega) (fu_at (by omega) (fu_at (by omega) (fu_at (by omega) (fu_at (by omega) h18)))))) (fu_at (by omega) (fu_at (by omega) (fu_at (by omega) (fu_at (by omega) (fu_at (by omega) (fu_at (by omega) h19)))))) (fu_at (by omega) (fu_at (by omega) (fu_at (by omega) (fu_at (by omega) (fu_at (by omega) (fu_at (by omega) h20)))))) (fu_at (by omega) (fu_at (by omega) (fu_at (by omega) (fu_at (by omega) (fu_at (by omega) (fu_at (by omega) h21)))))) (fu_at (by omega) (fu_at (by omega) (fu_at (by omega) (fu_at (by omega) (fu_at (by omega) (fu_at (by omega) h22)))))) (fu_at (by omega) (fu_at (by omega) (fu_at (by omega) (fu_at (by omega) (fu_at (by omega) (fu_at (by omega) h23)))))) (fu_at (by omega) (fu_at (by omega) (fu_at (by omega) (fu_at (by omega) (fu_at (by omega) (fu_at (by omega) h24)))))) (fu_at (by omega) (fu_at (by omega) (fu_at (by omega) (fu_at (by omega) (fu_at (by omega) (fu_at (by omega) h25))))))) (fu_at (by omega) (fu_at (by omega) (fu_at (by omega) (fu_at (by omega) (fu_at (by omega) (fu_at (by omega) h16)))))) rfl (cwV 2 S.2.2.2.2 gL_law_X10_distance rfl rfl rfl (by decide +kernel) ⟨Nat.le_of_ble_eq_true rfl, Nat.le_of_ble_eq_true rfl⟩) rfl hl.1 rfl (Nat.le_of_ble_eq_true rfl) dL_law_1825 ⟨Nat.le_of_ble_eq_true rfl, Nat.le_of_ble_eq_true rfl⟩ (fun rv_2 _ H locs hp hG => ?_)
  subst rv_2
  refine W.widen (k := 235) (n := 4982) (by decide) (by decide) ?_
  refine lv_istore (lv' := [(7, .int 0), (6, .int 0), (0, .ref b), (1, .ref N0), (2, .ref (N0 + 164)), (3, .ref (N0 + 229)), (4, .ref (N0 + 230)), (5, .int 0)]) S.1 S.2.1 dL_law_1828 hl (by decide) rfl (fun ls hl => ?_)
  refine lv_aload_n S.1 S.2.1 dL_law_1830 rfl (lv_at hl 4 rfl) ?_
  refine fx_cVi (As := []) (rest := []) S hG (k117_X10_thrown (by omega) (fblk_sk 4 rfl (by omega) (fu_at (by omega) fu_s))) (fblk_sk 4 rfl (by omega) (fu_at (by omega) fu_s)) rfl (cwV 0 S.2.2.2.2 gL_law_X10_thrown rfl rfl rfl (by decide +kernel) ⟨Nat.le_of_ble_eq_true rfl, Nat.le_of_ble_eq_true rfl⟩) rfl hl.1 rfl (Nat.le_of_ble_eq_true rfl) dL_law_1831 ⟨Nat.le_of_ble_eq_true rfl, Nat.le_of_ble_eq_true rfl⟩ (fun rv_3 _ H locs hp hG => ?_)
  subst rv_3
  refine lv_iload S.1 S.2.1 dL_law_1834 (lv_at hl 1 rfl) ?_
  refine lv_icmp_eq (tgt := 1841) S.1 S.2.1 dL_law_1836 (by decide) (fun _ => ?_) (fun c => absurd (by decide) c)
  refine lv_iload S.1 S.2.1 dL_law_1841 (lv_at hl 1 rfl) ?_
  refine lv_if_ne (tgt := 1858) S.1 S.2.1 dL_law_1843 (by decide) (fun c => absurd (by decide) c) (fun _ => ?_)
  refine lv_aload_n S.1 S.2.1 dL_law_1846 rfl (lv_at hl 5 rfl) ?_
  refine lv_iconst (v := 0) S.1 S.2.1 dL_law_1847 (by decide) ?_
  refine gx_lald (v := 0) S hG 2 (fblk_sk 4 rfl (by omega) (fu_at (by omega) (fu_at (by omega) fu_s))) rfl (fin_l (by decide)) rfl dL_law_1848 ?_
  refine lv_iload S.1 S.2.1 dL_law_1849 (lv_at hl 0 rfl) ?_
  refine lv_i2l (v := 0) S.1 S.2.1 dL_law_1851 (by decide) ?_
  refine gx_lcmpEq S rfl dL_law_1852 ?_
  refine lv_if_eq (tgt := 1858) S.1 S.2.1 dL_law_1853 (by decide) (fun _ => ?_) (fun c => absurd (by decide) c)
  refine lv_goto (tgt := 2650) S.1 S.2.1 dL_law_1858 (by decide) ?_
  refine lv_iinc (v := 5) (lv' := [(5, .int 5), (7, .int 0), (6, .int 0), (0, .ref b), (1, .ref N0), (2, .ref (N0 + 164)), (3, .ref (N0 + 229)), (4, .ref (N0 + 230))]) S.1 S.2.1 dL_law_2650 hl (k := 7) rfl (by decide) (by decide) rfl (fun ls hl => ?_)
  refine lv_goto (tgt := 28) S.1 S.2.1 dL_law_2653 (by decide) ?_
  refine lv_iload S.1 S.2.1 dL_law_28 (lv_at hl 0 rfl) ?_
  refine lv_aload_n S.1 S.2.1 dL_law_30 rfl (lv_at hl 3 rfl) ?_
  refine gx_slen (v := 5) S hG hX hbl rfl dL_law_31 ?_
  refine lv_iconst (v := 5) S.1 S.2.1 dL_law_32 (by decide) ?_
  refine lv_isub S.1 S.2.1 dL_law_33 ?_
  refine fx_topi (y := 0) (by decide) ?_
  refine lv_icmp_gt (tgt := 2656) S.1 S.2.1 dL_law_34 (by decide) (fun _ => ?_) (fun c => absurd (by decide) c)
  refine lv_iconst (v := 1) S.1 S.2.1 dL_law_2656 (by decide) ?_
  refine va_forget (fun q hq => by rw [hN]; exact hG.2.1.2.2 q hq) ?_
  refine W.widen (k := 600002) (n := 7302232) (by decide) (by decide) ?_
  exact lw_ret (d0 := s.drawn) (Drawn.sameBut.refl _ _) S.1 S.2.1 hr hlocks dL_law_2657
theorem l23_8 {p : Program} {e : Env} {s : State} {m : MethodId} {below : List Frame} {meth : Method} {c : Code} {b : Nat} {xs : Nat → Int32} {H : Heap} {locs : List Loc} {ls : Array Slot} {n : Nat} {a3 a4 : Int32} (S : CallFix p m c cL_law 9 s #[.ref b] wsL_law "TreeDifferLaw") (hr : meth.sig.returnType = ret) (hlocks : meth.locks = false) (hst : l.stackTraces = false) (hX : va_X b 5 xs s s.heap) (hbl : b < s.heap.size ∧ b < N0) (hN : s.heap.size = N0) (hn : N0 + 231 ≤ n) (hx1 : xs 1 = 1) (hx2 : xs 2 = 1) (hx3 : xs 3 = a3) (hx4 : xs 4 = a4) (h0 : F N0 = some (.inr (9, [.ref (N0 + 1), .ref (N0 + 2), .ref (N0 + 11), .ref (N0 + 13), .ref (N0 + 63), .ref (N0 + 65), .ref (N0 + 85), .int (-1), .int (-1), .int 32]))) (h1 : F (N0 + 1) = some (.inl (cTr, 3, .inr (.inr (.inr (.inr (va_up (va_up (va_up (fun _ => none) 0 (some (N0 + 143))) 1 (some (N0 + 150))) 2 (some (N0 + 157))))))))) (h2 : F (N0 + 13) = some (.inr (3, [.ref (N0 + 14), .ref (N0 + 35), .ref (N0 + 57), .ref (N0 + 58), .ref (N0 + 59), .ref (N0 + 60), .int 0, .int 0, .ref (N0 + 61), .ref (N0 + 62)]))) (h3 : F (N0 + 150) = some (.inr (7, [.ref (N0 + 151), .ref (N0 + 152), .ref (N0 + 153), .ref (N0 + 154), .ref (N0 + 155), .ref (N0 + 156), .int 1]))) (h4 : F (N0 + 57) = some (.inl (cI, 20, .inl (fun _ => 0)))) (h5 : F (N0 + 58) = some (.inl (cI, 20, .inl (fun _ => 0)))) (h6 : F (N0 + 35) = some (.inl (cII, 21, .inr (.inr (.inr (.inr (fun j => if j < 21 then some ((N0 + 36) + j) else none))))))) (h7 : F (N0 + 36) = some (.inl (cI, 21, .inl (fun _ => 0)))) (h8 : F (N0 + 14) = some (.inl (cII, 20, .inr (.inr (.inr (.inr (fun j => if j < 20 then some ((N0 + 15) + j) else none))))))) (h9 : F (N0 + 151) = some (.inl (cC, 20, .inl (upd (fun _ => 0) 0 97)))) (h10 : F (N0 + 153) = some (.inl (cI, 20, .inl (fun _ => 0)))) (h11 : F (N0 + 15) = some (.inl (cI, 20, .inl (fun _ => 0)))) (h12 : F (N0 + 229) = some (.inl (cL, 1, .inr (.inl (fun _ => 0))))) (h13 : F (N0 + 164) = some (.inr (12, [.ref (N0 + 165), .int 0, .ref (N0 + 181), .int 0, .int 0, .int 0, .int (-1), .ref (ql 24), .ref (N0 + 182), .ref (N0 + 187), .ref (N0 + 208), .ref (N0 + 209), .ref (N0 + 210), .ref (N0 + 211), .ref (N0 + 212), .int 0, .ref (N0 + 213), .ref (N0 + 218), .ref (N0 + 223), .ref (N0 + 224), .ref (N0 + 225), .ref (N0 + 226), .ref (N0 + 227), .int 0, .int 0, .ref (N0 + 228), .null, .int (-1), .int 0, .int 0, .int 0]))) (h14 : F (N0 + 165) = some (.inl (cTm, 3, .inr (.inr (.inr (.inr (va_up (va_up (va_up (fun _ => none) 0 (some (N0 + 166))) 1 (some (N0 + 171))) 2 (some (N0 + 176))))))))) (h15 : F (N0 + 171) = some (.inr (11, [.ref (N0 + 172), .ref (N0 + 173), .ref (N0 + 174), .ref (N0 + 175), .int 1]))) (h16 : F (N0 + 172) = some (.inl (cI, 20, .inl (upd (fun _ => 0) 0 97)))) (h17 : F (N0 + 174) = some (.inl (cI, 20, .inl (upd (fun _ => 0) 0 0)))) (h18 : F (N0 + 187) = some (.inl (cII, 20, .inr (.inr (.inr (.inr (fun j => if j < 20 then some ((N0 + 188) + j) else none))))))) (h19 : F (N0 + 188) = some (.inl (cI, 20, .inl (fun _ => 0)))) (hG : fG N0 D vwCl (fty cI cC cL cD cII cTr cTm cIt cB) (fen ql) s F n H locs) (hl : lv_has ls 9 [(0, .ref b), (1, .ref N0), (2, .ref (N0 + 164)), (3, .ref (N0 + 229)), (4, .ref (N0 + 230)), (5, .int 0)]) : W p l e { frames := 2048, cells := 600002, slots := 7302232, locals := 84000 } s m #[.ref b] below meth c H locs 231 4980 (lw_Z below #[.ref b] s) (F0 m 1793 ls []) := by
  have lt_h0 := hG.1.lt h0
  have lt_h1 := hG.1.lt h1
  have lt_h2 := hG.1.lt h2
  have lt_h3 := hG.1.lt h3
  have lt_h4 := hG.1.lt h4
  have lt_h5 := hG.1.lt h5
  have lt_h6 := hG.1.lt h6
  have lt_h7 := hG.1.lt h7
  have lt_h8 := hG.1.lt h8
  have lt_h9 := hG.1.lt h9
  have lt_h10 := hG.1.lt h10
  have lt_h11 := hG.1.lt h11
  have lt_h12 := hG.1.lt h12
  have lt_h13 := hG.1.lt h13
  have lt_h14 := hG.1.lt h14
  have lt_h15 := hG.1.lt h15
  have lt_h16 := hG.1.lt h16
  have lt_h17 := hG.1.lt h17
  have lt_h18 := hG.1.lt h18
  have lt_h19 := hG.1.lt h19
  refine lv_aload_n S.1 S.2.1 dL_law_1793 rfl (lv_at hl 1 rfl) ?_
  refine lv_aload_n S.1 S.2.1 dL_law_1794 rfl (lv_at hl 0 rfl) ?_
  refine lv_iload S.1 S.2.1 dL_law_1795 (lv_at hl 5 rfl) ?_
  refine lv_iconst (v := 1) S.1 S.2.1 dL_law_1797 (by decide) ?_
  refine lv_iadd S.1 S.2.1 dL_law_1798 ?_
  refine fx_topi (y := 1) (by decide) ?_
  refine gx_sld (v := 1) S hG hX hbl (fin_l (by decide)) hx1 dL_law_1799 ?_
  refine lv_aload_n S.1 S.2.1 dL_law_1800 rfl (lv_at hl 0 rfl) ?_
  refine lv_iload S.1 S.2.1 dL_law_1801 (lv_at hl 5 rfl) ?_
  refine lv_iconst (v := 2) S.1 S.2.1 dL_law_1803 (by decide) ?_
  refine lv_iadd S.1 S.2.1 dL_law_1804 ?_
  refine fx_topi (y := 2) (by decide) ?_
  refine gx_sld (v := 1) S hG hX hbl (fin_l (by decide)) hx2 dL_law_1805 ?_
  refine lv_aload_n S.1 S.2.1 dL_law_1806 rfl (lv_at hl 3 rfl) ?_
  refine fx_cTi (As := [.ref N0, .int 1, .int 1, .ref (N0 + 229)]) (rest := []) S hG (k1239_L_distance (by omega) h0 h1 h2 h3 h4 h5 h6 h7 h8 h9 h10 h11 h12) (vx_cwSW 4 S.2.2.2.2 gL_law_L_distance rfl rfl rfl (by decide +kernel) ⟨Nat.le_of_ble_eq_true rfl, Nat.le_of_ble_eq_true rfl⟩) rfl hl.1 rfl (Nat.le_of_ble_eq_true rfl) dL_law_1807 ⟨Nat.le_of_ble_eq_true rfl, Nat.le_of_ble_eq_true rfl⟩ (fun rv_1 _ H locs hp hG => ?_)
  subst rv_1
  refine lv_istore (lv' := [(6, .int 0), (0, .ref b), (1, .ref N0), (2, .ref (N0 + 164)), (3, .ref (N0 + 229)), (4, .ref (N0 + 230)), (5, .int 0)]) S.1 S.2.1 dL_law_1810 hl (by decide) rfl (fun ls hl => ?_)
  refine lv_aload_n S.1 S.2.1 dL_law_1812 rfl (lv_at hl 3 rfl) ?_
  refine lv_aload_n S.1 S.2.1 dL_law_1813 rfl (lv_at hl 1 rfl) ?_
  refine lv_iload S.1 S.2.1 dL_law_1814 (lv_at hl 6 rfl) ?_
  refine lv_iconst (v := 1) S.1 S.2.1 dL_law_1816 (by decide) ?_
  refine lv_iadd S.1 S.2.1 dL_law_1817 ?_
  refine fx_topi (y := 1) (by decide) ?_
  refine gx_sld (v := 1) S hG hX hbl (fin_l (by decide)) hx1 dL_law_1818 ?_
  refine lv_aload_n S.1 S.2.1 dL_law_1819 rfl (lv_at hl 1 rfl) ?_
  refine lv_iload S.1 S.2.1 dL_law_1820 (lv_at hl 6 rfl) ?_
  refine lv_iconst (v := 2) S.1 S.2.1 dL_law_1822 (by decide) ?_
  refine lv_iadd S.1 S.2.1 dL_law_1823 ?_
  refine fx_topi (y := 2) (by decide) ?_
  refine gx_sld (v := 1) S hG hX hbl (fin_l (by decide)) hx2 dL_law_1824 ?_
  refine fx_cVi (As := [.int 1, .int 1]) (rest := []) S hG (k1242_X10_distance (by omega) (fu_at (by omega) (fu_at (by omega) (fu_at (by omega) (fu_at (by omega) (fu_at (by omega) (fu_at (by omega) h13)))))) (fu_at (by omega) (fu_at (by omega) (fu_at (by omega) (fu_at (by omega) (fu_at (by omega) (fu_at (by omega) h14)))))) (fu_at (by omega) (fu_at (by omega) (fu_at (by omega) (fu_at (by omega) (fu_at (by omega) (fu_at (by omega) h15)))))) (fu_at (by omega) (fu_at (by omega) (fu_at (by omega) (fu_at (by omega) (fu_at (by omega) (fu_at (by omega) h16)))))) (fu_at (by omega) (fu_at (by omega) (fu_at (by omega) (fu_at (by omega) (fu_at (by omega) (fu_at (by omega) h17)))))) (fu_at (by omega) (fu_at (by omega) (fu_at (by omega) (fu_at (by omega) (fu_at (by omega) (fu_at (by omega) h18)))))) (fu_at (by omega) (fu_at (by omega) (fu_at (by omega) (fu_at (by omega) (fu_at (by omega) (fu_at (by omega) h19))))))) (fu_at (by omega) (fu_at (by omega) (fu_at (by omega) (fu_at (by omega) (fu_at (by omega) (fu_at (by omega) h13)))))) rfl (cwV 2 S.2.2.2.2 gL_law_X10_distance rfl rfl rfl (by decide +kernel) ⟨Nat.le_of_ble_eq_true rfl, Nat.le_of_ble_eq_true rfl⟩) rfl hl.1 rfl (Nat.le_of_ble_eq_true rfl) dL_law_1825 ⟨Nat.le_of_ble_eq_true rfl, Nat.le_of_ble_eq_true rfl⟩ (fun rv_2 _ H locs hp hG => ?_)
  subst rv_2
  refine W.widen (k := 235) (n := 4982) (by decide) (by decide) ?_
  refine lv_istore (lv' := [(7, .int 0), (6, .int 0), (0, .ref b), (1, .ref N0), (2, .ref (N0 + 164)), (3, .ref (N0 + 229)), (4, .ref (N0 + 230)), (5, .int 0)]) S.1 S.2.1 dL_law_1828 hl (by decide) rfl (fun ls hl => ?_)
  refine lv_aload_n S.1 S.2.1 dL_law_1830 rfl (lv_at hl 4 rfl) ?_
  refine fx_cVi (As := []) (rest := []) S hG (k117_X10_thrown (by omega) (fblk_sk 4 rfl (by omega) (fu_at (by omega) fu_s))) (fblk_sk 4 rfl (by omega) (fu_at (by omega) fu_s)) rfl (cwV 0 S.2.2.2.2 gL_law_X10_thrown rfl rfl rfl (by decide +kernel) ⟨Nat.le_of_ble_eq_true rfl, Nat.le_of_ble_eq_true rfl⟩) rfl hl.1 rfl (Nat.le_of_ble_eq_true rfl) dL_law_1831 ⟨Nat.le_of_ble_eq_true rfl, Nat.le_of_ble_eq_true rfl⟩ (fun rv_3 _ H locs hp hG => ?_)
  subst rv_3
  refine lv_iload S.1 S.2.1 dL_law_1834 (lv_at hl 1 rfl) ?_
  refine lv_icmp_eq (tgt := 1841) S.1 S.2.1 dL_law_1836 (by decide) (fun _ => ?_) (fun c => absurd (by decide) c)
  refine lv_iload S.1 S.2.1 dL_law_1841 (lv_at hl 1 rfl) ?_
  refine lv_if_ne (tgt := 1858) S.1 S.2.1 dL_law_1843 (by decide) (fun c => absurd (by decide) c) (fun _ => ?_)
  refine lv_aload_n S.1 S.2.1 dL_law_1846 rfl (lv_at hl 5 rfl) ?_
  refine lv_iconst (v := 0) S.1 S.2.1 dL_law_1847 (by decide) ?_
  refine gx_lald (v := 0) S hG 2 (fblk_sk 4 rfl (by omega) (fu_at (by omega) (fu_at (by omega) fu_s))) rfl (fin_l (by decide)) rfl dL_law_1848 ?_
  refine lv_iload S.1 S.2.1 dL_law_1849 (lv_at hl 0 rfl) ?_
  refine lv_i2l (v := 0) S.1 S.2.1 dL_law_1851 (by decide) ?_
  refine gx_lcmpEq S rfl dL_law_1852 ?_
  refine lv_if_eq (tgt := 1858) S.1 S.2.1 dL_law_1853 (by decide) (fun _ => ?_) (fun c => absurd (by decide) c)
  refine lv_goto (tgt := 2650) S.1 S.2.1 dL_law_1858 (by decide) ?_
  refine lv_iinc (v := 5) (lv' := [(5, .int 5), (7, .int 0), (6, .int 0), (0, .ref b), (1, .ref N0), (2, .ref (N0 + 164)), (3, .ref (N0 + 229)), (4, .ref (N0 + 230))]) S.1 S.2.1 dL_law_2650 hl (k := 7) rfl (by decide) (by decide) rfl (fun ls hl => ?_)
  refine lv_goto (tgt := 28) S.1 S.2.1 dL_law_2653 (by decide) ?_
  refine lv_iload S.1 S.2.1 dL_law_28 (lv_at hl 0 rfl) ?_
  refine lv_aload_n S.1 S.2.1 dL_law_30 rfl (lv_at hl 3 rfl) ?_
  refine gx_slen (v := 5) S hG hX hbl rfl dL_law_31 ?_
  refine lv_iconst (v := 5) S.1 S.2.1 dL_law_32 (by decide) ?_
  refine lv_isub S.1 S.2.1 dL_law_33 ?_
  refine fx_topi (y := 0) (by decide) ?_
  refine lv_icmp_gt (tgt := 2656) S.1 S.2.1 dL_law_34 (by decide) (fun _ => ?_) (fun c => absurd (by decide) c)
  refine lv_iconst (v := 1) S.1 S.2.1 dL_law_2656 (by decide) ?_
  refine va_forget (fun q hq => by rw [hN]; exact hG.2.1.2.2 q hq) ?_
  refine W.widen (k := 600002) (n := 7302232) (by decide) (by decide) ?_
  exact lw_ret (d0 := s.drawn) (Drawn.sameBut.refl _ _) S.1 S.2.1 hr hlocks dL_law_2657
theorem l23_9 {p : Program} {e : Env} {s : State} {m : MethodId} {below : List Frame} {meth : Method} {c : Code} {b : Nat} {xs : Nat → Int32} {H : Heap} {locs : List Loc} {ls : Array Slot} {n : Nat} {a3 a4 : Int32} (S : CallFix p m c cL_law 9 s #[.ref b] wsL_law "TreeDifferLaw") (hr : meth.sig.returnType = ret) (hlocks : meth.locks = false) (hst : l.stackTraces = false) (hX : va_X b 5 xs s s.heap) (hbl : b < s.heap.size ∧ b < N0) (hN : s.heap.size = N0) (hn : N0 + 231 ≤ n) (hx1 : xs 1 = 1) (hx2 : xs 2 = 2) (hx3 : xs 3 = a3) (hx4 : xs 4 = a4) (h0 : F N0 = some (.inr (9, [.ref (N0 + 1), .ref (N0 + 2), .ref (N0 + 11), .ref (N0 + 13), .ref (N0 + 63), .ref (N0 + 65), .ref (N0 + 85), .int (-1), .int (-1), .int 32]))) (h1 : F (N0 + 1) = some (.inl (cTr, 3, .inr (.inr (.inr (.inr (va_up (va_up (va_up (fun _ => none) 0 (some (N0 + 143))) 1 (some (N0 + 150))) 2 (some (N0 + 157))))))))) (h2 : F (N0 + 13) = some (.inr (3, [.ref (N0 + 14), .ref (N0 + 35), .ref (N0 + 57), .ref (N0 + 58), .ref (N0 + 59), .ref (N0 + 60), .int 0, .int 0, .ref (N0 + 61), .ref (N0 + 62)]))) (h3 : F (N0 + 150) = some (.inr (7, [.ref (N0 + 151), .ref (N0 + 152), .ref (N0 + 153), .ref (N0 + 154), .ref (N0 + 155), .ref (N0 + 156), .int 1]))) (h4 : F (N0 + 57) = some (.inl (cI, 20, .inl (fun _ => 0)))) (h5 : F (N0 + 157) = some (.inr (7, [.ref (N0 + 158), .ref (N0 + 159), .ref (N0 + 160), .ref (N0 + 161), .ref (N0 + 162), .ref (N0 + 163), .int 1]))) (h6 : F (N0 + 58) = some (.inl (cI, 20, .inl (fun _ => 0)))) (h7 : F (N0 + 35) = some (.inl (cII, 21, .inr (.inr (.inr (.inr (fun j => if j < 21 then some ((N0 + 36) + j) else none))))))) (h8 : F (N0 + 36) = some (.inl (cI, 21, .inl (fun _ => 0)))) (h9 : F (N0 + 14) = some (.inl (cII, 20, .inr (.inr (.inr (.inr (fun j => if j < 20 then some ((N0 + 15) + j) else none))))))) (h10 : F (N0 + 151) = some (.inl (cC, 20, .inl (upd (fun _ => 0) 0 97)))) (h11 : F (N0 + 158) = some (.inl (cC, 20, .inl (upd (fun _ => 0) 0 97)))) (h12 : F (N0 + 153) = some (.inl (cI, 20, .inl (fun _ => 0)))) (h13 : F (N0 + 160) = some (.inl (cI, 20, .inl (fun _ => 0)))) (h14 : F (N0 + 15) = some (.inl (cI, 20, .inl (fun _ => 0)))) (h15 : F (N0 + 229) = some (.inl (cL, 1, .inr (.inl (fun _ => 0))))) (h16 : F (N0 + 164) = some (.inr (12, [.ref (N0 + 165), .int 0, .ref (N0 + 181), .int 0, .int 0, .int 0, .int (-1), .ref (ql 24), .ref (N0 + 182), .ref (N0 + 187), .ref (N0 + 208), .ref (N0 + 209), .ref (N0 + 210), .ref (N0 + 211), .ref (N0 + 212), .int 0, .ref (N0 + 213), .ref (N0 + 218), .ref (N0 + 223), .ref (N0 + 224), .ref (N0 + 225), .ref (N0 + 226), .ref (N0 + 227), .int 0, .int 0, .ref (N0 + 228), .null, .int (-1), .int 0, .int 0, .int 0]))) (h17 : F (N0 + 165) = some (.inl (cTm, 3, .inr (.inr (.inr (.inr (va_up (va_up (va_up (fun _ => none) 0 (some (N0 + 166))) 1 (some (N0 + 171))) 2 (some (N0 + 176))))))))) (h18 : F (N0 + 171) = some (.inr (11, [.ref (N0 + 172), .ref (N0 + 173), .ref (N0 + 174), .ref (N0 + 175), .int 1]))) (h19 : F (N0 + 176) = some (.inr (11, [.ref (N0 + 177), .ref (N0 + 178), .ref (N0 + 179), .ref (N0 + 180), .int 1]))) (h20 : F (N0 + 172) = some (.inl (cI, 20, .inl (upd (fun _ => 0) 0 97)))) (h21 : F (N0 + 177) = some (.inl (cI, 20, .inl (upd (fun _ => 0) 0 97)))) (h22 : F (N0 + 174) = some (.inl (cI, 20, .inl (upd (fun _ => 0) 0 0)))) (h23 : F (N0 + 179) = some (.inl (cI, 20, .inl (upd (fun _ => 0) 0 0)))) (h24 : F (N0 + 187) = some (.inl (cII, 20, .inr (.inr (.inr (.inr (fun j => if j < 20 then some ((N0 + 188) + j) else none))))))) (h25 : F (N0 + 188) = some (.inl (cI, 20, .inl (fun _ => 0)))) (hG : fG N0 D vwCl (fty cI cC cL cD cII cTr cTm cIt cB) (fen ql) s F n H locs) (hl : lv_has ls 9 [(0, .ref b), (1, .ref N0), (2, .ref (N0 + 164)), (3, .ref (N0 + 229)), (4, .ref (N0 + 230)), (5, .int 0)]) : W p l e { frames := 2048, cells := 600002, slots := 7302232, locals := 84000 } s m #[.ref b] below meth c H locs 231 4980 (lw_Z below #[.ref b] s) (F0 m 1793 ls []) := by
  have lt_h0 := hG.1.lt h0
  have lt_h1 := hG.1.lt h1
  have lt_h2 := hG.1.lt h2
  have lt_h3 := hG.1.lt h3
  have lt_h4 := hG.1.lt h4
  have lt_h5 := hG.1.lt h5
  have lt_h6 := hG.1.lt h6
  have lt_h7 := hG.1.lt h7
  have lt_h8 := hG.1.lt h8
  have lt_h9 := hG.1.lt h9
  have lt_h10 := hG.1.lt h10
  have lt_h11 := hG.1.lt h11
  have lt_h12 := hG.1.lt h12
  have lt_h13 := hG.1.lt h13
  have lt_h14 := hG.1.lt h14
  have lt_h15 := hG.1.lt h15
  have lt_h16 := hG.1.lt h16
  have lt_h17 := hG.1.lt h17
  have lt_h18 := hG.1.lt h18
  have lt_h19 := hG.1.lt h19
  have lt_h20 := hG.1.lt h20
  have lt_h21 := hG.1.lt h21
  have lt_h22 := hG.1.lt h22
  have lt_h23 := hG.1.lt h23
  have lt_h24 := hG.1.lt h24
  have lt_h25 := hG.1.lt h25
  refine lv_aload_n S.1 S.2.1 dL_law_1793 rfl (lv_at hl 1 rfl) ?_
  refine lv_aload_n S.1 S.2.1 dL_law_1794 rfl (lv_at hl 0 rfl) ?_
  refine lv_iload S.1 S.2.1 dL_law_1795 (lv_at hl 5 rfl) ?_
  refine lv_iconst (v := 1) S.1 S.2.1 dL_law_1797 (by decide) ?_
  refine lv_iadd S.1 S.2.1 dL_law_1798 ?_
  refine fx_topi (y := 1) (by decide) ?_
  refine gx_sld (v := 1) S hG hX hbl (fin_l (by decide)) hx1 dL_law_1799 ?_
  refine lv_aload_n S.1 S.2.1 dL_law_1800 rfl (lv_at hl 0 rfl) ?_
  refine lv_iload S.1 S.2.1 dL_law_1801 (lv_at hl 5 rfl) ?_
  refine lv_iconst (v := 2) S.1 S.2.1 dL_law_1803 (by decide) ?_
  refine lv_iadd S.1 S.2.1 dL_law_1804 ?_
  refine fx_topi (y := 2) (by decide) ?_
  refine gx_sld (v := 2) S hG hX hbl (fin_l (by decide)) hx2 dL_law_1805 ?_
  refine lv_aload_n S.1 S.2.1 dL_law_1806 rfl (lv_at hl 3 rfl) ?_
  refine fx_cTi (As := [.ref N0, .int 1, .int 2, .ref (N0 + 229)]) (rest := []) S hG (k1248_L_distance (by omega) h0 h1 h2 h3 h4 h5 h6 h7 h8 h9 h10 h11 h12 h13 h14 h15) (vx_cwSW 4 S.2.2.2.2 gL_law_L_distance rfl rfl rfl (by decide +kernel) ⟨Nat.le_of_ble_eq_true rfl, Nat.le_of_ble_eq_true rfl⟩) rfl hl.1 rfl (Nat.le_of_ble_eq_true rfl) dL_law_1807 ⟨Nat.le_of_ble_eq_true rfl, Nat.le_of_ble_eq_true rfl⟩ (fun rv_1 _ H locs hp hG => ?_)
  subst rv_1
  refine lv_istore (lv' := [(6, .int 0), (0, .ref b), (1, .ref N0), (2, .ref (N0 + 164)), (3, .ref (N0 + 229)), (4, .ref (N0 + 230)), (5, .int 0)]) S.1 S.2.1 dL_law_1810 hl (by decide) rfl (fun ls hl => ?_)
  refine lv_aload_n S.1 S.2.1 dL_law_1812 rfl (lv_at hl 3 rfl) ?_
  refine lv_aload_n S.1 S.2.1 dL_law_1813 rfl (lv_at hl 1 rfl) ?_
  refine lv_iload S.1 S.2.1 dL_law_1814 (lv_at hl 6 rfl) ?_
  refine lv_iconst (v := 1) S.1 S.2.1 dL_law_1816 (by decide) ?_
  refine lv_iadd S.1 S.2.1 dL_law_1817 ?_
  refine fx_topi (y := 1) (by decide) ?_
  refine gx_sld (v := 1) S hG hX hbl (fin_l (by decide)) hx1 dL_law_1818 ?_
  refine lv_aload_n S.1 S.2.1 dL_law_1819 rfl (lv_at hl 1 rfl) ?_
  refine lv_iload S.1 S.2.1 dL_law_1820 (lv_at hl 6 rfl) ?_
  refine lv_iconst (v := 2) S.1 S.2.1 dL_law_1822 (by decide) ?_
  refine lv_iadd S.1 S.2.1 dL_law_1823 ?_
  refine fx_topi (y := 2) (by decide) ?_
  refine gx_sld (v := 2) S hG hX hbl (fin_l (by decide)) hx2 dL_law_1824 ?_
  refine fx_cVi (As := [.int 1, .int 2]) (rest := []) S hG (k1251_X10_distance (by omega) (fu_at (by omega) (fu_at (by omega) (fu_at (by omega) (fu_at (by omega) (fu_at (by omega) (fu_at (by omega) h16)))))) (fu_at (by omega) (fu_at (by omega) (fu_at (by omega) (fu_at (by omega) (fu_at (by omega) (fu_at (by omega) h17)))))) (fu_at (by omega) (fu_at (by omega) (fu_at (by omega) (fu_at (by omega) (fu_at (by omega) (fu_at (by omega) h18)))))) (fu_at (by omega) (fu_at (by omega) (fu_at (by omega) (fu_at (by omega) (fu_at (by omega) (fu_at (by omega) h19)))))) (fu_at (by omega) (fu_at (by omega) (fu_at (by omega) (fu_at (by omega) (fu_at (by omega) (fu_at (by omega) h20)))))) (fu_at (by omega) (fu_at (by omega) (fu_at (by omega) (fu_at (by omega) (fu_at (by omega) (fu_at (by omega) h21)))))) (fu_at (by omega) (fu_at (by omega) (fu_at (by omega) (fu_at (by omega) (fu_at (by omega) (fu_at (by omega) h22)))))) (fu_at (by omega) (fu_at (by omega) (fu_at (by omega) (fu_at (by omega) (fu_at (by omega) (fu_at (by omega) h23)))))) (fu_at (by omega) (fu_at (by omega) (fu_at (by omega) (fu_at (by omega) (fu_at (by omega) (fu_at (by omega) h24)))))) (fu_at (by omega) (fu_at (by omega) (fu_at (by omega) (fu_at (by omega) (fu_at (by omega) (fu_at (by omega) h25))))))) (fu_at (by omega) (fu_at (by omega) (fu_at (by omega) (fu_at (by omega) (fu_at (by omega) (fu_at (by omega) h16)))))) rfl (cwV 2 S.2.2.2.2 gL_law_X10_distance rfl rfl rfl (by decide +kernel) ⟨Nat.le_of_ble_eq_true rfl, Nat.le_of_ble_eq_true rfl⟩) rfl hl.1 rfl (Nat.le_of_ble_eq_true rfl) dL_law_1825 ⟨Nat.le_of_ble_eq_true rfl, Nat.le_of_ble_eq_true rfl⟩ (fun rv_2 _ H locs hp hG => ?_)
  subst rv_2
  refine W.widen (k := 235) (n := 4982) (by decide) (by decide) ?_
  refine lv_istore (lv' := [(7, .int 0), (6, .int 0), (0, .ref b), (1, .ref N0), (2, .ref (N0 + 164)), (3, .ref (N0 + 229)), (4, .ref (N0 + 230)), (5, .int 0)]) S.1 S.2.1 dL_law_1828 hl (by decide) rfl (fun ls hl => ?_)
  refine lv_aload_n S.1 S.2.1 dL_law_1830 rfl (lv_at hl 4 rfl) ?_
  refine fx_cVi (As := []) (rest := []) S hG (k117_X10_thrown (by omega) (fblk_sk 4 rfl (by omega) (fu_at (by omega) fu_s))) (fblk_sk 4 rfl (by omega) (fu_at (by omega) fu_s)) rfl (cwV 0 S.2.2.2.2 gL_law_X10_thrown rfl rfl rfl (by decide +kernel) ⟨Nat.le_of_ble_eq_true rfl, Nat.le_of_ble_eq_true rfl⟩) rfl hl.1 rfl (Nat.le_of_ble_eq_true rfl) dL_law_1831 ⟨Nat.le_of_ble_eq_true rfl, Nat.le_of_ble_eq_true rfl⟩ (fun rv_3 _ H locs hp hG => ?_)
  subst rv_3
  refine lv_iload S.1 S.2.1 dL_law_1834 (lv_at hl 1 rfl) ?_
  refine lv_icmp_eq (tgt := 1841) S.1 S.2.1 dL_law_1836 (by decide) (fun _ => ?_) (fun c => absurd (by decide) c)
  refine lv_iload S.1 S.2.1 dL_law_1841 (lv_at hl 1 rfl) ?_
  refine lv_if_ne (tgt := 1858) S.1 S.2.1 dL_law_1843 (by decide) (fun c => absurd (by decide) c) (fun _ => ?_)
  refine lv_aload_n S.1 S.2.1 dL_law_1846 rfl (lv_at hl 5 rfl) ?_
  refine lv_iconst (v := 0) S.1 S.2.1 dL_law_1847 (by decide) ?_
  refine gx_lald (v := 0) S hG 2 (fblk_sk 4 rfl (by omega) (fu_at (by omega) (fu_at (by omega) fu_s))) rfl (fin_l (by decide)) rfl dL_law_1848 ?_
  refine lv_iload S.1 S.2.1 dL_law_1849 (lv_at hl 0 rfl) ?_
  refine lv_i2l (v := 0) S.1 S.2.1 dL_law_1851 (by decide) ?_
  refine gx_lcmpEq S rfl dL_law_1852 ?_
  refine lv_if_eq (tgt := 1858) S.1 S.2.1 dL_law_1853 (by decide) (fun _ => ?_) (fun c => absurd (by decide) c)
  refine lv_goto (tgt := 2650) S.1 S.2.1 dL_law_1858 (by decide) ?_
  refine lv_iinc (v := 5) (lv' := [(5, .int 5), (7, .int 0), (6, .int 0), (0, .ref b), (1, .ref N0), (2, .ref (N0 + 164)), (3, .ref (N0 + 229)), (4, .ref (N0 + 230))]) S.1 S.2.1 dL_law_2650 hl (k := 7) rfl (by decide) (by decide) rfl (fun ls hl => ?_)
  refine lv_goto (tgt := 28) S.1 S.2.1 dL_law_2653 (by decide) ?_
  refine lv_iload S.1 S.2.1 dL_law_28 (lv_at hl 0 rfl) ?_
  refine lv_aload_n S.1 S.2.1 dL_law_30 rfl (lv_at hl 3 rfl) ?_
  refine gx_slen (v := 5) S hG hX hbl rfl dL_law_31 ?_
  refine lv_iconst (v := 5) S.1 S.2.1 dL_law_32 (by decide) ?_
  refine lv_isub S.1 S.2.1 dL_law_33 ?_
  refine fx_topi (y := 0) (by decide) ?_
  refine lv_icmp_gt (tgt := 2656) S.1 S.2.1 dL_law_34 (by decide) (fun _ => ?_) (fun c => absurd (by decide) c)
  refine lv_iconst (v := 1) S.1 S.2.1 dL_law_2656 (by decide) ?_
  refine va_forget (fun q hq => by rw [hN]; exact hG.2.1.2.2 q hq) ?_
  refine W.widen (k := 600002) (n := 7302232) (by decide) (by decide) ?_
  exact lw_ret (d0 := s.drawn) (Drawn.sameBut.refl _ _) S.1 S.2.1 hr hlocks dL_law_2657
theorem l23_10 {p : Program} {e : Env} {s : State} {m : MethodId} {below : List Frame} {meth : Method} {c : Code} {b : Nat} {xs : Nat → Int32} {H : Heap} {locs : List Loc} {ls : Array Slot} {n : Nat} {a2 a3 a4 : Int32} (g_a2_ge_3 : 3 ≤ a2) (S : CallFix p m c cL_law 9 s #[.ref b] wsL_law "TreeDifferLaw") (hr : meth.sig.returnType = ret) (hlocks : meth.locks = false) (hst : l.stackTraces = false) (hX : va_X b 5 xs s s.heap) (hbl : b < s.heap.size ∧ b < N0) (hN : s.heap.size = N0) (hn : N0 + 231 ≤ n) (hx1 : xs 1 = 1) (hx2 : xs 2 = a2) (hx3 : xs 3 = a3) (hx4 : xs 4 = a4) (h0 : F N0 = some (.inr (9, [.ref (N0 + 1), .ref (N0 + 2), .ref (N0 + 11), .ref (N0 + 13), .ref (N0 + 63), .ref (N0 + 65), .ref (N0 + 85), .int (-1), .int (-1), .int 32]))) (h1 : F (N0 + 1) = some (.inl (cTr, 3, .inr (.inr (.inr (.inr (va_up (va_up (va_up (fun _ => none) 0 (some (N0 + 143))) 1 (some (N0 + 150))) 2 (some (N0 + 157))))))))) (h2 : F (N0 + 164) = some (.inr (12, [.ref (N0 + 165), .int 0, .ref (N0 + 181), .int 0, .int 0, .int 0, .int (-1), .ref (ql 24), .ref (N0 + 182), .ref (N0 + 187), .ref (N0 + 208), .ref (N0 + 209), .ref (N0 + 210), .ref (N0 + 211), .ref (N0 + 212), .int 0, .ref (N0 + 213), .ref (N0 + 218), .ref (N0 + 223), .ref (N0 + 224), .ref (N0 + 225), .ref (N0 + 226), .ref (N0 + 227), .int 0, .int 0, .ref (N0 + 228), .null, .int (-1), .int 0, .int 0, .int 0]))) (hG : fG N0 D vwCl (fty cI cC cL cD cII cTr cTm cIt cB) (fen ql) s F n H locs) (hl : lv_has ls 9 [(0, .ref b), (1, .ref N0), (2, .ref (N0 + 164)), (3, .ref (N0 + 229)), (4, .ref (N0 + 230)), (5, .int 0)]) : W p l e { frames := 2048, cells := 600002, slots := 7302232, locals := 84000 } s m #[.ref b] below meth c H locs 231 4980 (lw_Z below #[.ref b] s) (F0 m 1793 ls []) := by
  have lt_h0 := hG.1.lt h0
  have lt_h1 := hG.1.lt h1
  have lt_h2 := hG.1.lt h2
  refine lv_aload_n S.1 S.2.1 dL_law_1793 rfl (lv_at hl 1 rfl) ?_
  refine lv_aload_n S.1 S.2.1 dL_law_1794 rfl (lv_at hl 0 rfl) ?_
  refine lv_iload S.1 S.2.1 dL_law_1795 (lv_at hl 5 rfl) ?_
  refine lv_iconst (v := 1) S.1 S.2.1 dL_law_1797 (by decide) ?_
  refine lv_iadd S.1 S.2.1 dL_law_1798 ?_
  refine fx_topi (y := 1) (by decide) ?_
  refine gx_sld (v := 1) S hG hX hbl (fin_l (by decide)) hx1 dL_law_1799 ?_
  refine lv_aload_n S.1 S.2.1 dL_law_1800 rfl (lv_at hl 0 rfl) ?_
  refine lv_iload S.1 S.2.1 dL_law_1801 (lv_at hl 5 rfl) ?_
  refine lv_iconst (v := 2) S.1 S.2.1 dL_law_1803 (by decide) ?_
  refine lv_iadd S.1 S.2.1 dL_law_1804 ?_
  refine fx_topi (y := 2) (by decide) ?_
  refine gx_sld (v := a2) S hG hX hbl (fin_l (by decide)) hx2 dL_law_1805 ?_
  refine lv_aload_n S.1 S.2.1 dL_law_1806 rfl (lv_at hl 3 rfl) ?_
  refine fx_cTi (As := [.ref N0, .int 1, .int a2, .ref (N0 + 229)]) (rest := []) S hG (k1253_L_distance g_a2_ge_3 hst (by omega) h0 h1) (vx_cwSW 4 S.2.2.2.2 gL_law_L_distance rfl rfl rfl (by decide +kernel) ⟨Nat.le_of_ble_eq_true rfl, Nat.le_of_ble_eq_true rfl⟩) rfl hl.1 rfl (Nat.le_of_ble_eq_true rfl) dL_law_1807 ⟨Nat.le_of_ble_eq_true rfl, Nat.le_of_ble_eq_true rfl⟩ (fun rv_u_1 u_1 H locs hp hG => ?_)
  obtain ⟨rfl, hu_1⟩ := hp
  refine W.widen (k := 232) (n := 4986) (by decide) (by decide) ?_
  refine lv_istore (lv' := [(6, .int 1), (0, .ref b), (1, .ref N0), (2, .ref (N0 + 164)), (3, .ref (N0 + 229)), (4, .ref (N0 + 230)), (5, .int 0)]) S.1 S.2.1 dL_law_1810 hl (by decide) rfl (fun ls hl => ?_)
  refine lv_aload_n S.1 S.2.1 dL_law_1812 rfl (lv_at hl 3 rfl) ?_
  refine lv_aload_n S.1 S.2.1 dL_law_1813 rfl (lv_at hl 1 rfl) ?_
  refine lv_iload S.1 S.2.1 dL_law_1814 (lv_at hl 6 rfl) ?_
  refine lv_iconst (v := 1) S.1 S.2.1 dL_law_1816 (by decide) ?_
  refine lv_iadd S.1 S.2.1 dL_law_1817 ?_
  refine fx_topi (y := 1) (by decide) ?_
  refine gx_sld (v := 1) S hG hX hbl (fin_l (by decide)) hx1 dL_law_1818 ?_
  refine lv_aload_n S.1 S.2.1 dL_law_1819 rfl (lv_at hl 1 rfl) ?_
  refine lv_iload S.1 S.2.1 dL_law_1820 (lv_at hl 6 rfl) ?_
  refine lv_iconst (v := 2) S.1 S.2.1 dL_law_1822 (by decide) ?_
  refine lv_iadd S.1 S.2.1 dL_law_1823 ?_
  refine fx_topi (y := 2) (by decide) ?_
  refine gx_sld (v := a2) S hG hX hbl (fin_l (by decide)) hx2 dL_law_1824 ?_
  refine fx_cVi (As := [.int 1, .int a2]) (rest := []) S hG (k1254_X10_distance g_a2_ge_3 (by omega) h2) h2 rfl (cwV 2 S.2.2.2.2 gL_law_X10_distance rfl rfl rfl (by decide +kernel) ⟨Nat.le_of_ble_eq_true rfl, Nat.le_of_ble_eq_true rfl⟩) rfl hl.1 rfl (Nat.le_of_ble_eq_true rfl) dL_law_1825 ⟨Nat.le_of_ble_eq_true rfl, Nat.le_of_ble_eq_true rfl⟩ (fun rv_2 _ H locs hp hG => ?_)
  subst rv_2
  refine lv_istore (lv' := [(7, .int 0), (6, .int 1), (0, .ref b), (1, .ref N0), (2, .ref (N0 + 164)), (3, .ref (N0 + 229)), (4, .ref (N0 + 230)), (5, .int 0)]) S.1 S.2.1 dL_law_1828 hl (by decide) rfl (fun ls hl => ?_)
  refine lv_aload_n S.1 S.2.1 dL_law_1830 rfl (lv_at hl 4 rfl) ?_
  refine fx_cVi (As := []) (rest := []) S hG (k25_X10_thrown (by omega) fu_s) fu_s rfl (cwV 0 S.2.2.2.2 gL_law_X10_thrown rfl rfl rfl (by decide +kernel) ⟨Nat.le_of_ble_eq_true rfl, Nat.le_of_ble_eq_true rfl⟩) rfl hl.1 rfl (Nat.le_of_ble_eq_true rfl) dL_law_1831 ⟨Nat.le_of_ble_eq_true rfl, Nat.le_of_ble_eq_true rfl⟩ (fun rv_3 _ H locs hp hG => ?_)
  subst rv_3
  refine lv_iload S.1 S.2.1 dL_law_1834 (lv_at hl 1 rfl) ?_
  refine lv_icmp_eq (tgt := 1841) S.1 S.2.1 dL_law_1836 (by decide) (fun _ => ?_) (fun c => absurd (by decide) c)
  refine lv_iload S.1 S.2.1 dL_law_1841 (lv_at hl 1 rfl) ?_
  refine lv_if_ne (tgt := 1858) S.1 S.2.1 dL_law_1843 (by decide) (fun _ => ?_) (fun c => absurd c (by decide))
  refine lv_goto (tgt := 2650) S.1 S.2.1 dL_law_1858 (by decide) ?_
  refine lv_iinc (v := 5) (lv' := [(5, .int 5), (7, .int 0), (6, .int 1), (0, .ref b), (1, .ref N0), (2, .ref (N0 + 164)), (3, .ref (N0 + 229)), (4, .ref (N0 + 230))]) S.1 S.2.1 dL_law_2650 hl (k := 7) rfl (by decide) (by decide) rfl (fun ls hl => ?_)
  refine lv_goto (tgt := 28) S.1 S.2.1 dL_law_2653 (by decide) ?_
  refine lv_iload S.1 S.2.1 dL_law_28 (lv_at hl 0 rfl) ?_
  refine lv_aload_n S.1 S.2.1 dL_law_30 rfl (lv_at hl 3 rfl) ?_
  refine gx_slen (v := 5) S hG hX hbl rfl dL_law_31 ?_
  refine lv_iconst (v := 5) S.1 S.2.1 dL_law_32 (by decide) ?_
  refine lv_isub S.1 S.2.1 dL_law_33 ?_
  refine fx_topi (y := 0) (by decide) ?_
  refine lv_icmp_gt (tgt := 2656) S.1 S.2.1 dL_law_34 (by decide) (fun _ => ?_) (fun c => absurd (by decide) c)
  refine lv_iconst (v := 1) S.1 S.2.1 dL_law_2656 (by decide) ?_
  refine va_forget (fun q hq => by rw [hN]; exact hG.2.1.2.2 q hq) ?_
  refine W.widen (k := 600002) (n := 7302232) (by decide) (by decide) ?_
  exact lw_ret (d0 := s.drawn) (Drawn.sameBut.refl _ _) S.1 S.2.1 hr hlocks dL_law_2657
theorem l23_11 {p : Program} {e : Env} {s : State} {m : MethodId} {below : List Frame} {meth : Method} {c : Code} {b : Nat} {xs : Nat → Int32} {H : Heap} {locs : List Loc} {ls : Array Slot} {n : Nat} {a2 a3 a4 : Int32} (g_a2_le_m1 : a2 ≤ (-1)) (S : CallFix p m c cL_law 9 s #[.ref b] wsL_law "TreeDifferLaw") (hr : meth.sig.returnType = ret) (hlocks : meth.locks = false) (hst : l.stackTraces = false) (hX : va_X b 5 xs s s.heap) (hbl : b < s.heap.size ∧ b < N0) (hN : s.heap.size = N0) (hn : N0 + 231 ≤ n) (hx1 : xs 1 = 2) (hx2 : xs 2 = a2) (hx3 : xs 3 = a3) (hx4 : xs 4 = a4) (h0 : F N0 = some (.inr (9, [.ref (N0 + 1), .ref (N0 + 2), .ref (N0 + 11), .ref (N0 + 13), .ref (N0 + 63), .ref (N0 + 65), .ref (N0 + 85), .int (-1), .int (-1), .int 32]))) (h1 : F (N0 + 1) = some (.inl (cTr, 3, .inr (.inr (.inr (.inr (va_up (va_up (va_up (fun _ => none) 0 (some (N0 + 143))) 1 (some (N0 + 150))) 2 (some (N0 + 157))))))))) (h2 : F (N0 + 164) = some (.inr (12, [.ref (N0 + 165), .int 0, .ref (N0 + 181), .int 0, .int 0, .int 0, .int (-1), .ref (ql 24), .ref (N0 + 182), .ref (N0 + 187), .ref (N0 + 208), .ref (N0 + 209), .ref (N0 + 210), .ref (N0 + 211), .ref (N0 + 212), .int 0, .ref (N0 + 213), .ref (N0 + 218), .ref (N0 + 223), .ref (N0 + 224), .ref (N0 + 225), .ref (N0 + 226), .ref (N0 + 227), .int 0, .int 0, .ref (N0 + 228), .null, .int (-1), .int 0, .int 0, .int 0]))) (hG : fG N0 D vwCl (fty cI cC cL cD cII cTr cTm cIt cB) (fen ql) s F n H locs) (hl : lv_has ls 9 [(0, .ref b), (1, .ref N0), (2, .ref (N0 + 164)), (3, .ref (N0 + 229)), (4, .ref (N0 + 230)), (5, .int 0)]) : W p l e { frames := 2048, cells := 600002, slots := 7302232, locals := 84000 } s m #[.ref b] below meth c H locs 231 4980 (lw_Z below #[.ref b] s) (F0 m 1793 ls []) := by
  have lt_h0 := hG.1.lt h0
  have lt_h1 := hG.1.lt h1
  have lt_h2 := hG.1.lt h2
  refine lv_aload_n S.1 S.2.1 dL_law_1793 rfl (lv_at hl 1 rfl) ?_
  refine lv_aload_n S.1 S.2.1 dL_law_1794 rfl (lv_at hl 0 rfl) ?_
  refine lv_iload S.1 S.2.1 dL_law_1795 (lv_at hl 5 rfl) ?_
  refine lv_iconst (v := 1) S.1 S.2.1 dL_law_1797 (by decide) ?_
  refine lv_iadd S.1 S.2.1 dL_law_1798 ?_
  refine fx_topi (y := 1) (by decide) ?_
  refine gx_sld (v := 2) S hG hX hbl (fin_l (by decide)) hx1 dL_law_1799 ?_
  refine lv_aload_n S.1 S.2.1 dL_law_1800 rfl (lv_at hl 0 rfl) ?_
  refine lv_iload S.1 S.2.1 dL_law_1801 (lv_at hl 5 rfl) ?_
  refine lv_iconst (v := 2) S.1 S.2.1 dL_law_1803 (by decide) ?_
  refine lv_iadd S.1 S.2.1 dL_law_1804 ?_
  refine fx_topi (y := 2) (by decide) ?_
  refine gx_sld (v := a2) S hG hX hbl (fin_l (by decide)) hx2 dL_law_1805 ?_
  refine lv_aload_n S.1 S.2.1 dL_law_1806 rfl (lv_at hl 3 rfl) ?_
  refine fx_cTi (As := [.ref N0, .int 2, .int a2, .ref (N0 + 229)]) (rest := []) S hG (k1256_L_distance g_a2_le_m1 hst (by omega) h0 h1) (vx_cwSW 4 S.2.2.2.2 gL_law_L_distance rfl rfl rfl (by decide +kernel) ⟨Nat.le_of_ble_eq_true rfl, Nat.le_of_ble_eq_true rfl⟩) rfl hl.1 rfl (Nat.le_of_ble_eq_true rfl) dL_law_1807 ⟨Nat.le_of_ble_eq_true rfl, Nat.le_of_ble_eq_true rfl⟩ (fun rv_u_1 u_1 H locs hp hG => ?_)
  obtain ⟨rfl, hu_1⟩ := hp
  refine W.widen (k := 232) (n := 4986) (by decide) (by decide) ?_
  refine lv_istore (lv' := [(6, .int 1), (0, .ref b), (1, .ref N0), (2, .ref (N0 + 164)), (3, .ref (N0 + 229)), (4, .ref (N0 + 230)), (5, .int 0)]) S.1 S.2.1 dL_law_1810 hl (by decide) rfl (fun ls hl => ?_)
  refine lv_aload_n S.1 S.2.1 dL_law_1812 rfl (lv_at hl 3 rfl) ?_
  refine lv_aload_n S.1 S.2.1 dL_law_1813 rfl (lv_at hl 1 rfl) ?_
  refine lv_iload S.1 S.2.1 dL_law_1814 (lv_at hl 6 rfl) ?_
  refine lv_iconst (v := 1) S.1 S.2.1 dL_law_1816 (by decide) ?_
  refine lv_iadd S.1 S.2.1 dL_law_1817 ?_
  refine fx_topi (y := 1) (by decide) ?_
  refine gx_sld (v := 2) S hG hX hbl (fin_l (by decide)) hx1 dL_law_1818 ?_
  refine lv_aload_n S.1 S.2.1 dL_law_1819 rfl (lv_at hl 1 rfl) ?_
  refine lv_iload S.1 S.2.1 dL_law_1820 (lv_at hl 6 rfl) ?_
  refine lv_iconst (v := 2) S.1 S.2.1 dL_law_1822 (by decide) ?_
  refine lv_iadd S.1 S.2.1 dL_law_1823 ?_
  refine fx_topi (y := 2) (by decide) ?_
  refine gx_sld (v := a2) S hG hX hbl (fin_l (by decide)) hx2 dL_law_1824 ?_
  refine fx_cVi (As := [.int 2, .int a2]) (rest := []) S hG (k1257_X10_distance g_a2_le_m1 (by omega) h2) h2 rfl (cwV 2 S.2.2.2.2 gL_law_X10_distance rfl rfl rfl (by decide +kernel) ⟨Nat.le_of_ble_eq_true rfl, Nat.le_of_ble_eq_true rfl⟩) rfl hl.1 rfl (Nat.le_of_ble_eq_true rfl) dL_law_1825 ⟨Nat.le_of_ble_eq_true rfl, Nat.le_of_ble_eq_true rfl⟩ (fun rv_2 _ H locs hp hG => ?_)
  subst rv_2
  refine lv_istore (lv' := [(7, .int 0), (6, .int 1), (0, .ref b), (1, .ref N0), (2, .ref (N0 + 164)), (3, .ref (N0 + 229)), (4, .ref (N0 + 230)), (5, .int 0)]) S.1 S.2.1 dL_law_1828 hl (by decide) rfl (fun ls hl => ?_)
  refine lv_aload_n S.1 S.2.1 dL_law_1830 rfl (lv_at hl 4 rfl) ?_
  refine fx_cVi (As := []) (rest := []) S hG (k25_X10_thrown (by omega) fu_s) fu_s rfl (cwV 0 S.2.2.2.2 gL_law_X10_thrown rfl rfl rfl (by decide +kernel) ⟨Nat.le_of_ble_eq_true rfl, Nat.le_of_ble_eq_true rfl⟩) rfl hl.1 rfl (Nat.le_of_ble_eq_true rfl) dL_law_1831 ⟨Nat.le_of_ble_eq_true rfl, Nat.le_of_ble_eq_true rfl⟩ (fun rv_3 _ H locs hp hG => ?_)
  subst rv_3
  refine lv_iload S.1 S.2.1 dL_law_1834 (lv_at hl 1 rfl) ?_
  refine lv_icmp_eq (tgt := 1841) S.1 S.2.1 dL_law_1836 (by decide) (fun _ => ?_) (fun c => absurd (by decide) c)
  refine lv_iload S.1 S.2.1 dL_law_1841 (lv_at hl 1 rfl) ?_
  refine lv_if_ne (tgt := 1858) S.1 S.2.1 dL_law_1843 (by decide) (fun _ => ?_) (fun c => absurd c (by decide))
  refine lv_goto (tgt := 2650) S.1 S.2.1 dL_law_1858 (by decide) ?_
  refine lv_iinc (v := 5) (lv' := [(5, .int 5), (7, .int 0), (6, .int 1), (0, .ref b), (1, .ref N0), (2, .ref (N0 + 164)), (3, .ref (N0 + 229)), (4, .ref (N0 + 230))]) S.1 S.2.1 dL_law_2650 hl (k := 7) rfl (by decide) (by decide) rfl (fun ls hl => ?_)
  refine lv_goto (tgt := 28) S.1 S.2.1 dL_law_2653 (by decide) ?_
  refine lv_iload S.1 S.2.1 dL_law_28 (lv_at hl 0 rfl) ?_
  refine lv_aload_n S.1 S.2.1 dL_law_30 rfl (lv_at hl 3 rfl) ?_
  refine gx_slen (v := 5) S hG hX hbl rfl dL_law_31 ?_
  refine lv_iconst (v := 5) S.1 S.2.1 dL_law_32 (by decide) ?_
  refine lv_isub S.1 S.2.1 dL_law_33 ?_
  refine fx_topi (y := 0) (by decide) ?_
  refine lv_icmp_gt (tgt := 2656) S.1 S.2.1 dL_law_34 (by decide) (fun _ => ?_) (fun c => absurd (by decide) c)
  refine lv_iconst (v := 1) S.1 S.2.1 dL_law_2656 (by decide) ?_
  refine va_forget (fun q hq => by rw [hN]; exact hG.2.1.2.2 q hq) ?_
  refine W.widen (k := 600002) (n := 7302232) (by decide) (by decide) ?_
  exact lw_ret (d0 := s.drawn) (Drawn.sameBut.refl _ _) S.1 S.2.1 hr hlocks dL_law_2657
theorem l23_12 {p : Program} {e : Env} {s : State} {m : MethodId} {below : List Frame} {meth : Method} {c : Code} {b : Nat} {xs : Nat → Int32} {H : Heap} {locs : List Loc} {ls : Array Slot} {n : Nat} {a3 a4 : Int32} (S : CallFix p m c cL_law 9 s #[.ref b] wsL_law "TreeDifferLaw") (hr : meth.sig.returnType = ret) (hlocks : meth.locks = false) (hst : l.stackTraces = false) (hX : va_X b 5 xs s s.heap) (hbl : b < s.heap.size ∧ b < N0) (hN : s.heap.size = N0) (hn : N0 + 231 ≤ n) (hx1 : xs 1 = 2) (hx2 : xs 2 = 0) (hx3 : xs 3 = a3) (hx4 : xs 4 = a4) (h0 : F N0 = some (.inr (9, [.ref (N0 + 1), .ref (N0 + 2), .ref (N0 + 11), .ref (N0 + 13), .ref (N0 + 63), .ref (N0 + 65), .ref (N0 + 85), .int (-1), .int (-1), .int 32]))) (h1 : F (N0 + 1) = some (.inl (cTr, 3, .inr (.inr (.inr (.inr (va_up (va_up (va_up (fun _ => none) 0 (some (N0 + 143))) 1 (some (N0 + 150))) 2 (some (N0 + 157))))))))) (h2 : F (N0 + 13) = some (.inr (3, [.ref (N0 + 14), .ref (N0 + 35), .ref (N0 + 57), .ref (N0 + 58), .ref (N0 + 59), .ref (N0 + 60), .int 0, .int 0, .ref (N0 + 61), .ref (N0 + 62)]))) (h3 : F (N0 + 157) = some (.inr (7, [.ref (N0 + 158), .ref (N0 + 159), .ref (N0 + 160), .ref (N0 + 161), .ref (N0 + 162), .ref (N0 + 163), .int 1]))) (h4 : F (N0 + 57) = some (.inl (cI, 20, .inl (fun _ => 0)))) (h5 : F (N0 + 143) = some (.inr (7, [.ref (N0 + 144), .ref (N0 + 145), .ref (N0 + 146), .ref (N0 + 147), .ref (N0 + 148), .ref (N0 + 149), .int 1]))) (h6 : F (N0 + 58) = some (.inl (cI, 20, .inl (fun _ => 0)))) (h7 : F (N0 + 35) = some (.inl (cII, 21, .inr (.inr (.inr (.inr (fun j => if j < 21 then some ((N0 + 36) + j) else none))))))) (h8 : F (N0 + 36) = some (.inl (cI, 21, .inl (fun _ => 0)))) (h9 : F (N0 + 14) = some (.inl (cII, 20, .inr (.inr (.inr (.inr (fun j => if j < 20 then some ((N0 + 15) + j) else none))))))) (h10 : F (N0 + 158) = some (.inl (cC, 20, .inl (upd (fun _ => 0) 0 97)))) (h11 : F (N0 + 144) = some (.inl (cC, 20, .inl (upd (fun _ => 0) 0 97)))) (h12 : F (N0 + 160) = some (.inl (cI, 20, .inl (fun _ => 0)))) (h13 : F (N0 + 146) = some (.inl (cI, 20, .inl (fun _ => 0)))) (h14 : F (N0 + 15) = some (.inl (cI, 20, .inl (fun _ => 0)))) (h15 : F (N0 + 229) = some (.inl (cL, 1, .inr (.inl (fun _ => 0))))) (h16 : F (N0 + 164) = some (.inr (12, [.ref (N0 + 165), .int 0, .ref (N0 + 181), .int 0, .int 0, .int 0, .int (-1), .ref (ql 24), .ref (N0 + 182), .ref (N0 + 187), .ref (N0 + 208), .ref (N0 + 209), .ref (N0 + 210), .ref (N0 + 211), .ref (N0 + 212), .int 0, .ref (N0 + 213), .ref (N0 + 218), .ref (N0 + 223), .ref (N0 + 224), .ref (N0 + 225), .ref (N0 + 226), .ref (N0 + 227), .int 0, .int 0, .ref (N0 + 228), .null, .int (-1), .int 0, .int 0, .int 0]))) (h17 : F (N0 + 165) = some (.inl (cTm, 3, .inr (.inr (.inr (.inr (va_up (va_up (va_up (fun _ => none) 0 (some (N0 + 166))) 1 (some (N0 + 171))) 2 (some (N0 + 176))))))))) (h18 : F (N0 + 176) = some (.inr (11, [.ref (N0 + 177), .ref (N0 + 178), .ref (N0 + 179), .ref (N0 + 180), .int 1]))) (h19 : F (N0 + 166) = some (.inr (11, [.ref (N0 + 167), .ref (N0 + 168), .ref (N0 + 169), .ref (N0 + 170), .int 1]))) (h20 : F (N0 + 177) = some (.inl (cI, 20, .inl (upd (fun _ => 0) 0 97)))) (h21 : F (N0 + 167) = some (.inl (cI, 20, .inl (upd (fun _ => 0) 0 97)))) (h22 : F (N0 + 179) = some (.inl (cI, 20, .inl (upd (fun _ => 0) 0 0)))) (h23 : F (N0 + 169) = some (.inl (cI, 20, .inl (upd (fun _ => 0) 0 0)))) (h24 : F (N0 + 187) = some (.inl (cII, 20, .inr (.inr (.inr (.inr (fun j => if j < 20 then some ((N0 + 188) + j) else none))))))) (h25 : F (N0 + 188) = some (.inl (cI, 20, .inl (fun _ => 0)))) (hG : fG N0 D vwCl (fty cI cC cL cD cII cTr cTm cIt cB) (fen ql) s F n H locs) (hl : lv_has ls 9 [(0, .ref b), (1, .ref N0), (2, .ref (N0 + 164)), (3, .ref (N0 + 229)), (4, .ref (N0 + 230)), (5, .int 0)]) : W p l e { frames := 2048, cells := 600002, slots := 7302232, locals := 84000 } s m #[.ref b] below meth c H locs 231 4980 (lw_Z below #[.ref b] s) (F0 m 1793 ls []) := by
  have lt_h0 := hG.1.lt h0
  have lt_h1 := hG.1.lt h1
  have lt_h2 := hG.1.lt h2
  have lt_h3 := hG.1.lt h3
  have lt_h4 := hG.1.lt h4
  have lt_h5 := hG.1.lt h5
  have lt_h6 := hG.1.lt h6
  have lt_h7 := hG.1.lt h7
  have lt_h8 := hG.1.lt h8
  have lt_h9 := hG.1.lt h9
  have lt_h10 := hG.1.lt h10
  have lt_h11 := hG.1.lt h11
  have lt_h12 := hG.1.lt h12
  have lt_h13 := hG.1.lt h13
  have lt_h14 := hG.1.lt h14
  have lt_h15 := hG.1.lt h15
  have lt_h16 := hG.1.lt h16
  have lt_h17 := hG.1.lt h17
  have lt_h18 := hG.1.lt h18
  have lt_h19 := hG.1.lt h19
  have lt_h20 := hG.1.lt h20
  have lt_h21 := hG.1.lt h21
  have lt_h22 := hG.1.lt h22
  have lt_h23 := hG.1.lt h23
  have lt_h24 := hG.1.lt h24
  have lt_h25 := hG.1.lt h25
  refine lv_aload_n S.1 S.2.1 dL_law_1793 rfl (lv_at hl 1 rfl) ?_
  refine lv_aload_n S.1 S.2.1 dL_law_1794 rfl (lv_at hl 0 rfl) ?_
  refine lv_iload S.1 S.2.1 dL_law_1795 (lv_at hl 5 rfl) ?_
  refine lv_iconst (v := 1) S.1 S.2.1 dL_law_1797 (by decide) ?_
  refine lv_iadd S.1 S.2.1 dL_law_1798 ?_
  refine fx_topi (y := 1) (by decide) ?_
  refine gx_sld (v := 2) S hG hX hbl (fin_l (by decide)) hx1 dL_law_1799 ?_
  refine lv_aload_n S.1 S.2.1 dL_law_1800 rfl (lv_at hl 0 rfl) ?_
  refine lv_iload S.1 S.2.1 dL_law_1801 (lv_at hl 5 rfl) ?_
  refine lv_iconst (v := 2) S.1 S.2.1 dL_law_1803 (by decide) ?_
  refine lv_iadd S.1 S.2.1 dL_law_1804 ?_
  refine fx_topi (y := 2) (by decide) ?_
  refine gx_sld (v := 0) S hG hX hbl (fin_l (by decide)) hx2 dL_law_1805 ?_
  refine lv_aload_n S.1 S.2.1 dL_law_1806 rfl (lv_at hl 3 rfl) ?_
  refine fx_cTi (As := [.ref N0, .int 2, .int 0, .ref (N0 + 229)]) (rest := []) S hG (k1265_L_distance (by omega) h0 h1 h2 h3 h4 h5 h6 h7 h8 h9 h10 h11 h12 h13 h14 h15) (vx_cwSW 4 S.2.2.2.2 gL_law_L_distance rfl rfl rfl (by decide +kernel) ⟨Nat.le_of_ble_eq_true rfl, Nat.le_of_ble_eq_true rfl⟩) rfl hl.1 rfl (Nat.le_of_ble_eq_true rfl) dL_law_1807 ⟨Nat.le_of_ble_eq_true rfl, Nat.le_of_ble_eq_true rfl⟩ (fun rv_1 _ H locs hp hG => ?_)
  subst rv_1
  refine lv_istore (lv' := [(6, .int 0), (0, .ref b), (1, .ref N0), (2, .ref (N0 + 164)), (3, .ref (N0 + 229)), (4, .ref (N0 + 230)), (5, .int 0)]) S.1 S.2.1 dL_law_1810 hl (by decide) rfl (fun ls hl => ?_)
  refine lv_aload_n S.1 S.2.1 dL_law_1812 rfl (lv_at hl 3 rfl) ?_
  refine lv_aload_n S.1 S.2.1 dL_law_1813 rfl (lv_at hl 1 rfl) ?_
  refine lv_iload S.1 S.2.1 dL_law_1814 (lv_at hl 6 rfl) ?_
  refine lv_iconst (v := 1) S.1 S.2.1 dL_law_1816 (by decide) ?_
  refine lv_iadd S.1 S.2.1 dL_law_1817 ?_
  refine fx_topi (y := 1) (by decide) ?_
  refine gx_sld (v := 2) S hG hX hbl (fin_l (by decide)) hx1 dL_law_1818 ?_
  refine lv_aload_n S.1 S.2.1 dL_law_1819 rfl (lv_at hl 1 rfl) ?_
  refine lv_iload S.1 S.2.1 dL_law_1820 (lv_at hl 6 rfl) ?_
  refine lv_iconst (v := 2) S.1 S.2.1 dL_law_1822 (by decide) ?_
  refine lv_iadd S.1 S.2.1 dL_law_1823 ?_
  refine fx_topi (y := 2) (by decide) ?_
  refine gx_sld (v := 0) S hG hX hbl (fin_l (by decide)) hx2 dL_law_1824 ?_
  refine fx_cVi (As := [.int 2, .int 0]) (rest := []) S hG (k1268_X10_distance (by omega) (fu_at (by omega) (fu_at (by omega) (fu_at (by omega) (fu_at (by omega) (fu_at (by omega) (fu_at (by omega) h16)))))) (fu_at (by omega) (fu_at (by omega) (fu_at (by omega) (fu_at (by omega) (fu_at (by omega) (fu_at (by omega) h17)))))) (fu_at (by omega) (fu_at (by omega) (fu_at (by omega) (fu_at (by omega) (fu_at (by omega) (fu_at (by omega) h18)))))) (fu_at (by omega) (fu_at (by omega) (fu_at (by omega) (fu_at (by omega) (fu_at (by omega) (fu_at (by omega) h19)))))) (fu_at (by omega) (fu_at (by omega) (fu_at (by omega) (fu_at (by omega) (fu_at (by omega) (fu_at (by omega) h20)))))) (fu_at (by omega) (fu_at (by omega) (fu_at (by omega) (fu_at (by omega) (fu_at (by omega) (fu_at (by omega) h21)))))) (fu_at (by omega) (fu_at (by omega) (fu_at (by omega) (fu_at (by omega) (fu_at (by omega) (fu_at (by omega) h22)))))) (fu_at (by omega) (fu_at (by omega) (fu_at (by omega) (fu_at (by omega) (fu_at (by omega) (fu_at (by omega) h23)))))) (fu_at (by omega) (fu_at (by omega) (fu_at (by omega) (fu_at (by omega) (fu_at (by omega) (fu_at (by omega) h24)))))) (fu_at (by omega) (fu_at (by omega) (fu_at (by omega) (fu_at (by omega) (fu_at (by omega) (fu_at (by omega) h25))))))) (fu_at (by omega) (fu_at (by omega) (fu_at (by omega) (fu_at (by omega) (fu_at (by omega) (fu_at (by omega) h16)))))) rfl (cwV 2 S.2.2.2.2 gL_law_X10_distance rfl rfl rfl (by decide +kernel) ⟨Nat.le_of_ble_eq_true rfl, Nat.le_of_ble_eq_true rfl⟩) rfl hl.1 rfl (Nat.le_of_ble_eq_true rfl) dL_law_1825 ⟨Nat.le_of_ble_eq_true rfl, Nat.le_of_ble_eq_true rfl⟩ (fun rv_2 _ H locs hp hG => ?_)
  subst rv_2
  refine W.widen (k := 235) (n := 4982) (by decide) (by decide) ?_
  refine lv_istore (lv' := [(7, .int 0), (6, .int 0), (0, .ref b), (1, .ref N0), (2, .ref (N0 + 164)), (3, .ref (N0 + 229)), (4, .ref (N0 + 230)), (5, .int 0)]) S.1 S.2.1 dL_law_1828 hl (by decide) rfl (fun ls hl => ?_)
  refine lv_aload_n S.1 S.2.1 dL_law_1830 rfl (lv_at hl 4 rfl) ?_
  refine fx_cVi (As := []) (rest := []) S hG (k117_X10_thrown (by omega) (fblk_sk 4 rfl (by omega) (fu_at (by omega) fu_s))) (fblk_sk 4 rfl (by omega) (fu_at (by omega) fu_s)) rfl (cwV 0 S.2.2.2.2 gL_law_X10_thrown rfl rfl rfl (by decide +kernel) ⟨Nat.le_of_ble_eq_true rfl, Nat.le_of_ble_eq_true rfl⟩) rfl hl.1 rfl (Nat.le_of_ble_eq_true rfl) dL_law_1831 ⟨Nat.le_of_ble_eq_true rfl, Nat.le_of_ble_eq_true rfl⟩ (fun rv_3 _ H locs hp hG => ?_)
  subst rv_3
  refine lv_iload S.1 S.2.1 dL_law_1834 (lv_at hl 1 rfl) ?_
  refine lv_icmp_eq (tgt := 1841) S.1 S.2.1 dL_law_1836 (by decide) (fun _ => ?_) (fun c => absurd (by decide) c)
  refine lv_iload S.1 S.2.1 dL_law_1841 (lv_at hl 1 rfl) ?_
  refine lv_if_ne (tgt := 1858) S.1 S.2.1 dL_law_1843 (by decide) (fun c => absurd (by decide) c) (fun _ => ?_)
  refine lv_aload_n S.1 S.2.1 dL_law_1846 rfl (lv_at hl 5 rfl) ?_
  refine lv_iconst (v := 0) S.1 S.2.1 dL_law_1847 (by decide) ?_
  refine gx_lald (v := 0) S hG 2 (fblk_sk 4 rfl (by omega) (fu_at (by omega) (fu_at (by omega) fu_s))) rfl (fin_l (by decide)) rfl dL_law_1848 ?_
  refine lv_iload S.1 S.2.1 dL_law_1849 (lv_at hl 0 rfl) ?_
  refine lv_i2l (v := 0) S.1 S.2.1 dL_law_1851 (by decide) ?_
  refine gx_lcmpEq S rfl dL_law_1852 ?_
  refine lv_if_eq (tgt := 1858) S.1 S.2.1 dL_law_1853 (by decide) (fun _ => ?_) (fun c => absurd (by decide) c)
  refine lv_goto (tgt := 2650) S.1 S.2.1 dL_law_1858 (by decide) ?_
  refine lv_iinc (v := 5) (lv' := [(5, .int 5), (7, .int 0), (6, .int 0), (0, .ref b), (1, .ref N0), (2, .ref (N0 + 164)), (3, .ref (N0 + 229)), (4, .ref (N0 + 230))]) S.1 S.2.1 dL_law_2650 hl (k := 7) rfl (by decide) (by decide) rfl (fun ls hl => ?_)
  refine lv_goto (tgt := 28) S.1 S.2.1 dL_law_2653 (by decide) ?_
  refine lv_iload S.1 S.2.1 dL_law_28 (lv_at hl 0 rfl) ?_
  refine lv_aload_n S.1 S.2.1 dL_law_30 rfl (lv_at hl 3 rfl) ?_
  refine gx_slen (v := 5) S hG hX hbl rfl dL_law_31 ?_
  refine lv_iconst (v := 5) S.1 S.2.1 dL_law_32 (by decide) ?_
  refine lv_isub S.1 S.2.1 dL_law_33 ?_
  refine fx_topi (y := 0) (by decide) ?_
  refine lv_icmp_gt (tgt := 2656) S.1 S.2.1 dL_law_34 (by decide) (fun _ => ?_) (fun c => absurd (by decide) c)
  refine lv_iconst (v := 1) S.1 S.2.1 dL_law_2656 (by decide) ?_
  refine va_forget (fun q hq => by rw [hN]; exact hG.2.1.2.2 q hq) ?_
  refine W.widen (k := 600002) (n := 7302232) (by decide) (by decide) ?_
  exact lw_ret (d0 := s.drawn) (Drawn.sameBut.refl _ _) S.1 S.2.1 hr hlocks dL_law_2657
theorem l23_13 {p : Program} {e : Env} {s : State} {m : MethodId} {below : List Frame} {meth : Method} {c : Code} {b : Nat} {xs : Nat → Int32} {H : Heap} {locs : List Loc} {ls : Array Slot} {n : Nat} {a3 a4 : Int32} (S : CallFix p m c cL_law 9 s #[.ref b] wsL_law "TreeDifferLaw") (hr : meth.sig.returnType = ret) (hlocks : meth.locks = false) (hst : l.stackTraces = false) (hX : va_X b 5 xs s s.heap) (hbl : b < s.heap.size ∧ b < N0) (hN : s.heap.size = N0) (hn : N0 + 231 ≤ n) (hx1 : xs 1 = 2) (hx2 : xs 2 = 1) (hx3 : xs 3 = a3) (hx4 : xs 4 = a4) (h0 : F N0 = some (.inr (9, [.ref (N0 + 1), .ref (N0 + 2), .ref (N0 + 11), .ref (N0 + 13), .ref (N0 + 63), .ref (N0 + 65), .ref (N0 + 85), .int (-1), .int (-1), .int 32]))) (h1 : F (N0 + 1) = some (.inl (cTr, 3, .inr (.inr (.inr (.inr (va_up (va_up (va_up (fun _ => none) 0 (some (N0 + 143))) 1 (some (N0 + 150))) 2 (some (N0 + 157))))))))) (h2 : F (N0 + 13) = some (.inr (3, [.ref (N0 + 14), .ref (N0 + 35), .ref (N0 + 57), .ref (N0 + 58), .ref (N0 + 59), .ref (N0 + 60), .int 0, .int 0, .ref (N0 + 61), .ref (N0 + 62)]))) (h3 : F (N0 + 157) = some (.inr (7, [.ref (N0 + 158), .ref (N0 + 159), .ref (N0 + 160), .ref (N0 + 161), .ref (N0 + 162), .ref (N0 + 163), .int 1]))) (h4 : F (N0 + 57) = some (.inl (cI, 20, .inl (fun _ => 0)))) (h5 : F (N0 + 150) = some (.inr (7, [.ref (N0 + 151), .ref (N0 + 152), .ref (N0 + 153), .ref (N0 + 154), .ref (N0 + 155), .ref (N0 + 156), .int 1]))) (h6 : F (N0 + 58) = some (.inl (cI, 20, .inl (fun _ => 0)))) (h7 : F (N0 + 35) = some (.inl (cII, 21, .inr (.inr (.inr (.inr (fun j => if j < 21 then some ((N0 + 36) + j) else none))))))) (h8 : F (N0 + 36) = some (.inl (cI, 21, .inl (fun _ => 0)))) (h9 : F (N0 + 14) = some (.inl (cII, 20, .inr (.inr (.inr (.inr (fun j => if j < 20 then some ((N0 + 15) + j) else none))))))) (h10 : F (N0 + 158) = some (.inl (cC, 20, .inl (upd (fun _ => 0) 0 97)))) (h11 : F (N0 + 151) = some (.inl (cC, 20, .inl (upd (fun _ => 0) 0 97)))) (h12 : F (N0 + 160) = some (.inl (cI, 20, .inl (fun _ => 0)))) (h13 : F (N0 + 153) = some (.inl (cI, 20, .inl (fun _ => 0)))) (h14 : F (N0 + 15) = some (.inl (cI, 20, .inl (fun _ => 0)))) (h15 : F (N0 + 229) = some (.inl (cL, 1, .inr (.inl (fun _ => 0))))) (h16 : F (N0 + 164) = some (.inr (12, [.ref (N0 + 165), .int 0, .ref (N0 + 181), .int 0, .int 0, .int 0, .int (-1), .ref (ql 24), .ref (N0 + 182), .ref (N0 + 187), .ref (N0 + 208), .ref (N0 + 209), .ref (N0 + 210), .ref (N0 + 211), .ref (N0 + 212), .int 0, .ref (N0 + 213), .ref (N0 + 218), .ref (N0 + 223), .ref (N0 + 224), .ref (N0 + 225), .ref (N0 + 226), .ref (N0 + 227), .int 0, .int 0, .ref (N0 + 228), .null, .int (-1), .int 0, .int 0, .int 0]))) (h17 : F (N0 + 165) = some (.inl (cTm, 3, .inr (.inr (.inr (.inr (va_up (va_up (va_up (fun _ => none) 0 (some (N0 + 166))) 1 (some (N0 + 171))) 2 (some (N0 + 176))))))))) (h18 : F (N0 + 176) = some (.inr (11, [.ref (N0 + 177), .ref (N0 + 178), .ref (N0 + 179), .ref (N0 + 180), .int 1]))) (h19 : F (N0 + 171) = some (.inr (11, [.ref (N0 + 172), .ref (N0 + 173), .ref (N0 + 174), .ref (N0 + 175), .int 1]))) (h20 : F (N0 + 177) = some (.inl (cI, 20, .inl (upd (fun _ => 0) 0 97)))) (h21 : F (N0 + 172) = some (.inl (cI, 20, .inl (upd (fun _ => 0) 0 97)))) (h22 : F (N0 + 179) = some (.inl (cI, 20, .inl (upd (fun _ => 0) 0 0)))) (h23 : F (N0 + 174) = some (.inl (cI, 20, .inl (upd (fun _ => 0) 0 0)))) (h24 : F (N0 + 187) = some (.inl (cII, 20, .inr (.inr (.inr (.inr (fun j => if j < 20 then some ((N0 + 188) + j) else none))))))) (h25 : F (N0 + 188) = some (.inl (cI, 20, .inl (fun _ => 0)))) (hG : fG N0 D vwCl (fty cI cC cL cD cII cTr cTm cIt cB) (fen ql) s F n H locs) (hl : lv_has ls 9 [(0, .ref b), (1, .ref N0), (2, .ref (N0 + 164)), (3, .ref (N0 + 229)), (4, .ref (N0 + 230)), (5, .int 0)]) : W p l e { frames := 2048, cells := 600002, slots := 7302232, locals := 84000 } s m #[.ref b] below meth c H locs 231 4980 (lw_Z below #[.ref b] s) (F0 m 1793 ls []) := by
  have lt_h0 := hG.1.lt h0
  have lt_h1 := hG.1.lt h1
  have lt_h2 := hG.1.lt h2
  have lt_h3 := hG.1.lt h3
  have lt_h4 := hG.1.lt h4
  have lt_h5 := hG.1.lt h5
  have lt_h6 := hG.1.lt h6
  have lt_h7 := hG.1.lt h7
  have lt_h8 := hG.1.lt h8
  have lt_h9 := hG.1.lt h9
  have lt_h10 := hG.1.lt h10
  have lt_h11 := hG.1.lt h11
  have lt_h12 := hG.1.lt h12
  have lt_h13 := hG.1.lt h13
  have lt_h14 := hG.1.lt h14
  have lt_h15 := hG.1.lt h15
  have lt_h16 := hG.1.lt h16
  have lt_h17 := hG.1.lt h17
  have lt_h18 := hG.1.lt h18
  have lt_h19 := hG.1.lt h19
  have lt_h20 := hG.1.lt h20
  have lt_h21 := hG.1.lt h21
  have lt_h22 := hG.1.lt h22
  have lt_h23 := hG.1.lt h23
  have lt_h24 := hG.1.lt h24
  have lt_h25 := hG.1.lt h25
  refine lv_aload_n S.1 S.2.1 dL_law_1793 rfl (lv_at hl 1 rfl) ?_
  refine lv_aload_n S.1 S.2.1 dL_law_1794 rfl (lv_at hl 0 rfl) ?_
  refine lv_iload S.1 S.2.1 dL_law_1795 (lv_at hl 5 rfl) ?_
  refine lv_iconst (v := 1) S.1 S.2.1 dL_law_1797 (by decide) ?_
  refine lv_iadd S.1 S.2.1 dL_law_1798 ?_
  refine fx_topi (y := 1) (by decide) ?_
  refine gx_sld (v := 2) S hG hX hbl (fin_l (by decide)) hx1 dL_law_1799 ?_
  refine lv_aload_n S.1 S.2.1 dL_law_1800 rfl (lv_at hl 0 rfl) ?_
  refine lv_iload S.1 S.2.1 dL_law_1801 (lv_at hl 5 rfl) ?_
  refine lv_iconst (v := 2) S.1 S.2.1 dL_law_1803 (by decide) ?_
  refine lv_iadd S.1 S.2.1 dL_law_1804 ?_
  refine fx_topi (y := 2) (by decide) ?_
  refine gx_sld (v := 1) S hG hX hbl (fin_l (by decide)) hx2 dL_law_1805 ?_
  refine lv_aload_n S.1 S.2.1 dL_law_1806 rfl (lv_at hl 3 rfl) ?_
  refine fx_cTi (As := [.ref N0, .int 2, .int 1, .ref (N0 + 229)]) (rest := []) S hG (k1274_L_distance (by omega) h0 h1 h2 h3 h4 h5 h6 h7 h8 h9 h10 h11 h12 h13 h14 h15) (vx_cwSW 4 S.2.2.2.2 gL_law_L_distance rfl rfl rfl (by decide +kernel) ⟨Nat.le_of_ble_eq_true rfl, Nat.le_of_ble_eq_true rfl⟩) rfl hl.1 rfl (Nat.le_of_ble_eq_true rfl) dL_law_1807 ⟨Nat.le_of_ble_eq_true rfl, Nat.le_of_ble_eq_true rfl⟩ (fun rv_1 _ H locs hp hG => ?_)
  subst rv_1
  refine lv_istore (lv' := [(6, .int 0), (0, .ref b), (1, .ref N0), (2, .ref (N0 + 164)), (3, .ref (N0 + 229)), (4, .ref (N0 + 230)), (5, .int 0)]) S.1 S.2.1 dL_law_1810 hl (by decide) rfl (fun ls hl => ?_)
  refine lv_aload_n S.1 S.2.1 dL_law_1812 rfl (lv_at hl 3 rfl) ?_
  refine lv_aload_n S.1 S.2.1 dL_law_1813 rfl (lv_at hl 1 rfl) ?_
  refine lv_iload S.1 S.2.1 dL_law_1814 (lv_at hl 6 rfl) ?_
  refine lv_iconst (v := 1) S.1 S.2.1 dL_law_1816 (by decide) ?_
  refine lv_iadd S.1 S.2.1 dL_law_1817 ?_
  refine fx_topi (y := 1) (by decide) ?_
  refine gx_sld (v := 2) S hG hX hbl (fin_l (by decide)) hx1 dL_law_1818 ?_
  refine lv_aload_n S.1 S.2.1 dL_law_1819 rfl (lv_at hl 1 rfl) ?_
  refine lv_iload S.1 S.2.1 dL_law_1820 (lv_at hl 6 rfl) ?_
  refine lv_iconst (v := 2) S.1 S.2.1 dL_law_1822 (by decide) ?_
  refine lv_iadd S.1 S.2.1 dL_law_1823 ?_
  refine fx_topi (y := 2) (by decide) ?_
  refine gx_sld (v := 1) S hG hX hbl (fin_l (by decide)) hx2 dL_law_1824 ?_
  refine fx_cVi (As := [.int 2, .int 1]) (rest := []) S hG (k1277_X10_distance (by omega) (fu_at (by omega) (fu_at (by omega) (fu_at (by omega) (fu_at (by omega) (fu_at (by omega) (fu_at (by omega) h16)))))) (fu_at (by omega) (fu_at (by omega) (fu_at (by omega) (fu_at (by omega) (fu_at (by omega) (fu_at (by omega) h17)))))) (fu_at (by omega) (fu_at (by omega) (fu_at (by omega) (fu_at (by omega) (fu_at (by omega) (fu_at (by omega) h18)))))) (fu_at (by omega) (fu_at (by omega) (fu_at (by omega) (fu_at (by omega) (fu_at (by omega) (fu_at (by omega) h19)))))) (fu_at (by omega) (fu_at (by omega) (fu_at (by omega) (fu_at (by omega) (fu_at (by omega) (fu_at (by omega) h20)))))) (fu_at (by omega) (fu_at (by omega) (fu_at (by omega) (fu_at (by omega) (fu_at (by omega) (fu_at (by omega) h21)))))) (fu_at (by omega) (fu_at (by omega) (fu_at (by omega) (fu_at (by omega) (fu_at (by omega) (fu_at (by omega) h22)))))) (fu_at (by omega) (fu_at (by omega) (fu_at (by omega) (fu_at (by omega) (fu_at (by omega) (fu_at (by omega) h23)))))) (fu_at (by omega) (fu_at (by omega) (fu_at (by omega) (fu_at (by omega) (fu_at (by omega) (fu_at (by omega) h24)))))) (fu_at (by omega) (fu_at (by omega) (fu_at (by omega) (fu_at (by omega) (fu_at (by omega) (fu_at (by omega) h25))))))) (fu_at (by omega) (fu_at (by omega) (fu_at (by omega) (fu_at (by omega) (fu_at (by omega) (fu_at (by omega) h16)))))) rfl (cwV 2 S.2.2.2.2 gL_law_X10_distance rfl rfl rfl (by decide +kernel) ⟨Nat.le_of_ble_eq_true rfl, Nat.le_of_ble_eq_true rfl⟩) rfl hl.1 rfl (Nat.le_of_ble_eq_true rfl) dL_law_1825 ⟨Nat.le_of_ble_eq_true rfl, Nat.le_of_ble_eq_true rfl⟩ (fun rv_2 _ H locs hp hG => ?_)
  subst rv_2
  refine W.widen (k := 235) (n := 4982) (by decide) (by decide) ?_
  refine lv_istore (lv' := [(7, .int 0), (6, .int 0), (0, .ref b), (1, .ref N0), (2, .ref (N0 + 164)), (3, .ref (N0 + 229)), (4, .ref (N0 + 230)), (5, .int 0)]) S.1 S.2.1 dL_law_1828 hl (by decide) rfl (fun ls hl => ?_)
  refine lv_aload_n S.1 S.2.1 dL_law_1830 rfl (lv_at hl 4 rfl) ?_
  refine fx_cVi (As := []) (rest := []) S hG (k117_X10_thrown (by omega) (fblk_sk 4 rfl (by omega) (fu_at (by omega) fu_s))) (fblk_sk 4 rfl (by omega) (fu_at (by omega) fu_s)) rfl (cwV 0 S.2.2.2.2 gL_law_X10_thrown rfl rfl rfl (by decide +kernel) ⟨Nat.le_of_ble_eq_true rfl, Nat.le_of_ble_eq_true rfl⟩) rfl hl.1 rfl (Nat.le_of_ble_eq_true rfl) dL_law_1831 ⟨Nat.le_of_ble_eq_true rfl, Nat.le_of_ble_eq_true rfl⟩ (fun rv_3 _ H locs hp hG => ?_)
  subst rv_3
  refine lv_iload S.1 S.2.1 dL_law_1834 (lv_at hl 1 rfl) ?_
  refine lv_icmp_eq (tgt := 1841) S.1 S.2.1 dL_law_1836 (by decide) (fun _ => ?_) (fun c => absurd (by decide) c)
  refine lv_iload S.1 S.2.1 dL_law_1841 (lv_at hl 1 rfl) ?_
  refine lv_if_ne (tgt := 1858) S.1 S.2.1 dL_law_1843 (by decide) (fun c => absurd (by decide) c) (fun _ => ?_)
  refine lv_aload_n S.1 S.2.1 dL_law_1846 rfl (lv_at hl 5 rfl) ?_
  refine lv_iconst (v := 0) S.1 S.2.1 dL_law_1847 (by decide) ?_
  refine gx_lald (v := 0) S hG 2 (fblk_sk 4 rfl (by omega) (fu_at (by omega) (fu_at (by omega) fu_s))) rfl (fin_l (by decide)) rfl dL_law_1848 ?_
  refine lv_iload S.1 S.2.1 dL_law_1849 (lv_at hl 0 rfl) ?_
  refine lv_i2l (v := 0) S.1 S.2.1 dL_law_1851 (by decide) ?_
  refine gx_lcmpEq S rfl dL_law_1852 ?_
  refine lv_if_eq (tgt := 1858) S.1 S.2.1 dL_law_1853 (by decide) (fun _ => ?_) (fun c => absurd (by decide) c)
  refine lv_goto (tgt := 2650) S.1 S.2.1 dL_law_1858 (by decide) ?_
  refine lv_iinc (v := 5) (lv' := [(5, .int 5), (7, .int 0), (6, .int 0), (0, .ref b), (1, .ref N0), (2, .ref (N0 + 164)), (3, .ref (N0 + 229)), (4, .ref (N0 + 230))]) S.1 S.2.1 dL_law_2650 hl (k := 7) rfl (by decide) (by decide) rfl (fun ls hl => ?_)
  refine lv_goto (tgt := 28) S.1 S.2.1 dL_law_2653 (by decide) ?_
  refine lv_iload S.1 S.2.1 dL_law_28 (lv_at hl 0 rfl) ?_
  refine lv_aload_n S.1 S.2.1 dL_law_30 rfl (lv_at hl 3 rfl) ?_
  refine gx_slen (v := 5) S hG hX hbl rfl dL_law_31 ?_
  refine lv_iconst (v := 5) S.1 S.2.1 dL_law_32 (by decide) ?_
  refine lv_isub S.1 S.2.1 dL_law_33 ?_
  refine fx_topi (y := 0) (by decide) ?_
  refine lv_icmp_gt (tgt := 2656) S.1 S.2.1 dL_law_34 (by decide) (fun _ => ?_) (fun c => absurd (by decide) c)
  refine lv_iconst (v := 1) S.1 S.2.1 dL_law_2656 (by decide) ?_
  refine va_forget (fun q hq => by rw [hN]; exact hG.2.1.2.2 q hq) ?_
  refine W.widen (k := 600002) (n := 7302232) (by decide) (by decide) ?_
  exact lw_ret (d0 := s.drawn) (Drawn.sameBut.refl _ _) S.1 S.2.1 hr hlocks dL_law_2657
theorem l23_14 {p : Program} {e : Env} {s : State} {m : MethodId} {below : List Frame} {meth : Method} {c : Code} {b : Nat} {xs : Nat → Int32} {H : Heap} {locs : List Loc} {ls : Array Slot} {n : Nat} {a3 a4 : Int32} (S : CallFix p m c cL_law 9 s #[.ref b] wsL_law "TreeDifferLaw") (hr : meth.sig.returnType = ret) (hlocks : meth.locks = false) (hst : l.stackTraces = false) (hX : va_X b 5 xs s s.heap) (hbl : b < s.heap.size ∧ b < N0) (hN : s.heap.size = N0) (hn : N0 + 231 ≤ n) (hx1 : xs 1 = 2) (hx2 : xs 2 = 2) (hx3 : xs 3 = a3) (hx4 : xs 4 = a4) (h0 : F N0 = some (.inr (9, [.ref (N0 + 1), .ref (N0 + 2), .ref (N0 + 11), .ref (N0 + 13), .ref (N0 + 63), .ref (N0 + 65), .ref (N0 + 85), .int (-1), .int (-1), .int 32]))) (h1 : F (N0 + 1) = some (.inl (cTr, 3, .inr (.inr (.inr (.inr (va_up (va_up (va_up (fun _ => none) 0 (some (N0 + 143))) 1 (some (N0 + 150))) 2 (some (N0 + 157))))))))) (h2 : F (N0 + 13) = some (.inr (3, [.ref (N0 + 14), .ref (N0 + 35), .ref (N0 + 57), .ref (N0 + 58), .ref (N0 + 59), .ref (N0 + 60), .int 0, .int 0, .ref (N0 + 61), .ref (N0 + 62)]))) (h3 : F (N0 + 157) = some (.inr (7, [.ref (N0 + 158), .ref (N0 + 159), .ref (N0 + 160), .ref (N0 + 161), .ref (N0 + 162), .ref (N0 + 163), .int 1]))) (h4 : F (N0 + 57) = some (.inl (cI, 20, .inl (fun _ => 0)))) (h5 : F (N0 + 58) = some (.inl (cI, 20, .inl (fun _ => 0)))) (h6 : F (N0 + 35) = some (.inl (cII, 21, .inr (.inr (.inr (.inr (fun j => if j < 21 then some ((N0 + 36) + j) else none))))))) (h7 : F (N0 + 36) = some (.inl (cI, 21, .inl (fun _ => 0)))) (h8 : F (N0 + 14) = some (.inl (cII, 20, .inr (.inr (.inr (.inr (fun j => if j < 20 then some ((N0 + 15) + j) else none))))))) (h9 : F (N0 + 158) = some (.inl (cC, 20, .inl (upd (fun _ => 0) 0 97)))) (h10 : F (N0 + 160) = some (.inl (cI, 20, .inl (fun _ => 0)))) (h11 : F (N0 + 15) = some (.inl (cI, 20, .inl (fun _ => 0)))) (h12 : F (N0 + 229) = some (.inl (cL, 1, .inr (.inl (fun _ => 0))))) (h13 : F (N0 + 164) = some (.inr (12, [.ref (N0 + 165), .int 0, .ref (N0 + 181), .int 0, .int 0, .int 0, .int (-1), .ref (ql 24), .ref (N0 + 182), .ref (N0 + 187), .ref (N0 + 208), .ref (N0 + 209), .ref (N0 + 210), .ref (N0 + 211), .ref (N0 + 212), .int 0, .ref (N0 + 213), .ref (N0 + 218), .ref (N0 + 223), .ref (N0 + 224), .ref (N0 + 225), .ref (N0 + 226), .ref (N0 + 227), .int 0, .int 0, .ref (N0 + 228), .null, .int (-1), .int 0, .int 0, .int 0]))) (h14 : F (N0 + 165) = some (.inl (cTm, 3, .inr (.inr (.inr (.inr (va_up (va_up (va_up (fun _ => none) 0 (some (N0 + 166))) 1 (some (N0 + 171))) 2 (some (N0 + 176))))))))) (h15 : F (N0 + 176) = some (.inr (11, [.ref (N0 + 177), .ref (N0 + 178), .ref (N0 + 179), .ref (N0 + 180), .int 1]))) (h16 : F (N0 + 177) = some (.inl (cI, 20, .inl (upd (fun _ => 0) 0 97)))) (h17 : F (N0 + 179) = some (.inl (cI, 20, .inl (upd (fun _ => 0) 0 0)))) (h18 : F (N0 + 187) = some (.inl (cII, 20, .inr (.inr (.inr (.inr (fun j => if j < 20 then some ((N0 + 188) + j) else none))))))) (h19 : F (N0 + 188) = some (.inl (cI, 20, .inl (fun _ => 0)))) (hG : fG N0 D vwCl (fty cI cC cL cD cII cTr cTm cIt cB) (fen ql) s F n H locs) (hl : lv_has ls 9 [(0, .ref b), (1, .ref N0), (2, .ref (N0 + 164)), (3, .ref (N0 + 229)), (4, .ref (N0 + 230)), (5, .int 0)]) : W p l e { frames := 2048, cells := 600002, slots := 7302232, locals := 84000 } s m #[.ref b] below meth c H locs 231 4980 (lw_Z below #[.ref b] s) (F0 m 1793 ls []) := by
  have lt_h0 := hG.1.lt h0
  have lt_h1 := hG.1.lt h1
  have lt_h2 := hG.1.lt h2
  have lt_h3 := hG.1.lt h3
  have lt_h4 := hG.1.lt h4
  have lt_h5 := hG.1.lt h5
  have lt_h6 := hG.1.lt h6
  have lt_h7 := hG.1.lt h7
  have lt_h8 := hG.1.lt h8
  have lt_h9 := hG.1.lt h9
  have lt_h10 := hG.1.lt h10
  have lt_h11 := hG.1.lt h11
  have lt_h12 := hG.1.lt h12
  have lt_h13 := hG.1.lt h13
  have lt_h14 := hG.1.lt h14
  have lt_h15 := hG.1.lt h15
  have lt_h16 := hG.1.lt h16
  have lt_h17 := hG.1.lt h17
  have lt_h18 := hG.1.lt h18
  have lt_h19 := hG.1.lt h19
  refine lv_aload_n S.1 S.2.1 dL_law_1793 rfl (lv_at hl 1 rfl) ?_
  refine lv_aload_n S.1 S.2.1 dL_law_1794 rfl (lv_at hl 0 rfl) ?_
  refine lv_iload S.1 S.2.1 dL_law_1795 (lv_at hl 5 rfl) ?_
  refine lv_iconst (v := 1) S.1 S.2.1 dL_law_1797 (by decide) ?_
  refine lv_iadd S.1 S.2.1 dL_law_1798 ?_
  refine fx_topi (y := 1) (by decide) ?_
  refine gx_sld (v := 2) S hG hX hbl (fin_l (by decide)) hx1 dL_law_1799 ?_
  refine lv_aload_n S.1 S.2.1 dL_law_1800 rfl (lv_at hl 0 rfl) ?_
  refine lv_iload S.1 S.2.1 dL_law_1801 (lv_at hl 5 rfl) ?_
  refine lv_iconst (v := 2) S.1 S.2.1 dL_law_1803 (by decide) ?_
  refine lv_iadd S.1 S.2.1 dL_law_1804 ?_
  refine fx_topi (y := 2) (by decide) ?_
  refine gx_sld (v := 2) S hG hX hbl (fin_l (by decide)) hx2 dL_law_1805 ?_
  refine lv_aload_n S.1 S.2.1 dL_law_1806 rfl (lv_at hl 3 rfl) ?_
  refine fx_cTi (As := [.ref N0, .int 2, .int 2, .ref (N0 + 229)]) (rest := []) S hG (k1283_L_distance (by omega) h0 h1 h2 h3 h4 h5 h6 h7 h8 h9 h10 h11 h12) (vx_cwSW 4 S.2.2.2.2 gL_law_L_distance rfl rfl rfl (by decide +kernel) ⟨Nat.le_of_ble_eq_true rfl, Nat.le_of_ble_eq_true rfl⟩) rfl hl.1 rfl (Nat.le_of_ble_eq_true rfl) dL_law_1807 ⟨Nat.le_of_ble_eq_true rfl, Nat.le_of_ble_eq_true rfl⟩ (fun rv_1 _ H locs hp hG => ?_)
  subst rv_1
  refine lv_istore (lv' := [(6, .int 0), (0, .ref b), (1, .ref N0), (2, .ref (N0 + 164)), (3, .ref (N0 + 229)), (4, .ref (N0 + 230)), (5, .int 0)]) S.1 S.2.1 dL_law_1810 hl (by decide) rfl (fun ls hl => ?_)
  refine lv_aload_n S.1 S.2.1 dL_law_1812 rfl (lv_at hl 3 rfl) ?_
  refine lv_aload_n S.1 S.2.1 dL_law_1813 rfl (lv_at hl 1 rfl) ?_
  refine lv_iload S.1 S.2.1 dL_law_1814 (lv_at hl 6 rfl) ?_
  refine lv_iconst (v := 1) S.1 S.2.1 dL_law_1816 (by decide) ?_
  refine lv_iadd S.1 S.2.1 dL_law_1817 ?_
  refine fx_topi (y := 1) (by decide) ?_
  refine gx_sld (v := 2) S hG hX hbl (fin_l (by decide)) hx1 dL_law_1818 ?_
  refine lv_aload_n S.1 S.2.1 dL_law_1819 rfl (lv_at hl 1 rfl) ?_
  refine lv_iload S.1 S.2.1 dL_law_1820 (lv_at hl 6 rfl) ?_
  refine lv_iconst (v := 2) S.1 S.2.1 dL_law_1822 (by decide) ?_
  refine lv_iadd S.1 S.2.1 dL_law_1823 ?_
  refine fx_topi (y := 2) (by decide) ?_
  refine gx_sld (v := 2) S hG hX hbl (fin_l (by decide)) hx2 dL_law_1824 ?_
  refine fx_cVi (As := [.int 2, .int 2]) (rest := []) S hG (k1286_X10_distance (by omega) (fu_at (by omega) (fu_at (by omega) (fu_at (by omega) (fu_at (by omega) (fu_at (by omega) (fu_at (by omega) h13)))))) (fu_at (by omega) (fu_at (by omega) (fu_at (by omega) (fu_at (by omega) (fu_at (by omega) (fu_at (by omega) h14)))))) (fu_at (by omega) (fu_at (by omega) (fu_at (by omega) (fu_at (by omega) (fu_at (by omega) (fu_at (by omega) h15)))))) (fu_at (by omega) (fu_at (by omega) (fu_at (by omega) (fu_at (by omega) (fu_at (by omega) (fu_at (by omega) h16)))))) (fu_at (by omega) (fu_at (by omega) (fu_at (by omega) (fu_at (by omega) (fu_at (by omega) (fu_at (by omega) h17)))))) (fu_at (by omega) (fu_at (by omega) (fu_at (by omega) (fu_at (by omega) (fu_at (by omega) (fu_at (by omega) h18)))))) (fu_at (by omega) (fu_at (by omega) (fu_at (by omega) (fu_at (by omega) (fu_at (by omega) (fu_at (by omega) h19))))))) (fu_at (by omega) (fu_at (by omega) (fu_at (by omega) (fu_at (by omega) (fu_at (by omega) (fu_at (by omega) h13)))))) rfl (cwV 2 S.2.2.2.2 gL_law_X10_distance rfl rfl rfl (by decide +kernel) ⟨Nat.le_of_ble_eq_true rfl, Nat.le_of_ble_eq_true rfl⟩) rfl hl.1 rfl (Nat.le_of_ble_eq_true rfl) dL_law_1825 ⟨Nat.le_of_ble_eq_true rfl, Nat.le_of_ble_eq_true rfl⟩ (fun rv_2 _ H locs hp hG => ?_)
  subst rv_2
  refine W.widen (k := 235) (n := 4982) (by decide) (by decide) ?_
  refine lv_istore (lv' := [(7, .int 0), (6, .int 0), (0, .ref b), (1, .ref N0), (2, .ref (N0 + 164)), (3, .ref (N0 + 229)), (4, .ref (N0 + 230)), (5, .int 0)]) S.1 S.2.1 dL_law_1828 hl (by decide) rfl (fun ls hl => ?_)
  refine lv_aload_n S.1 S.2.1 dL_law_1830 rfl (lv_at hl 4 rfl) ?_
  refine fx_cVi (As := []) (rest := []) S hG (k117_X10_thrown (by omega) (fblk_sk 4 rfl (by omega) (fu_at (by omega) fu_s))) (fblk_sk 4 rfl (by omega) (fu_at (by omega) fu_s)) rfl (cwV 0 S.2.2.2.2 gL_law_X10_thrown rfl rfl rfl (by decide +kernel) ⟨Nat.le_of_ble_eq_true rfl, Nat.le_of_ble_eq_true rfl⟩) rfl hl.1 rfl (Nat.le_of_ble_eq_true rfl) dL_law_1831 ⟨Nat.le_of_ble_eq_true rfl, Nat.le_of_ble_eq_true rfl⟩ (fun rv_3 _ H locs hp hG => ?_)
  subst rv_3
  refine lv_iload S.1 S.2.1 dL_law_1834 (lv_at hl 1 rfl) ?_
  refine lv_icmp_eq (tgt := 1841) S.1 S.2.1 dL_law_1836 (by decide) (fun _ => ?_) (fun c => absurd (by decide) c)
  refine lv_iload S.1 S.2.1 dL_law_1841 (lv_at hl 1 rfl) ?_
  refine lv_if_ne (tgt := 1858) S.1 S.2.1 dL_law_1843 (by decide) (fun c => absurd (by decide) c) (fun _ => ?_)
  refine lv_aload_n S.1 S.2.1 dL_law_1846 rfl (lv_at hl 5 rfl) ?_
  refine lv_iconst (v := 0) S.1 S.2.1 dL_law_1847 (by decide) ?_
  refine gx_lald (v := 0) S hG 2 (fblk_sk 4 rfl (by omega) (fu_at (by omega) (fu_at (by omega) fu_s))) rfl (fin_l (by decide)) rfl dL_law_1848 ?_
  refine lv_iload S.1 S.2.1 dL_law_1849 (lv_at hl 0 rfl) ?_
  refine lv_i2l (v := 0) S.1 S.2.1 dL_law_1851 (by decide) ?_
  refine gx_lcmpEq S rfl dL_law_1852 ?_
  refine lv_if_eq (tgt := 1858) S.1 S.2.1 dL_law_1853 (by decide) (fun _ => ?_) (fun c => absurd (by decide) c)
  refine lv_goto (tgt := 2650) S.1 S.2.1 dL_law_1858 (by decide) ?_
  refine lv_iinc (v := 5) (lv' := [(5, .int 5), (7, .int 0), (6, .int 0), (0, .ref b), (1, .ref N0), (2, .ref (N0 + 164)), (3, .ref (N0 + 229)), (4, .ref (N0 + 230))]) S.1 S.2.1 dL_law_2650 hl (k := 7) rfl (by decide) (by decide) rfl (fun ls hl => ?_)
  refine lv_goto (tgt := 28) S.1 S.2.1 dL_law_2653 (by decide) ?_
  refine lv_iload S.1 S.2.1 dL_law_28 (lv_at hl 0 rfl) ?_
  refine lv_aload_n S.1 S.2.1 dL_law_30 rfl (lv_at hl 3 rfl) ?_
  refine gx_slen (v := 5) S hG hX hbl rfl dL_law_31 ?_
  refine lv_iconst (v := 5) S.1 S.2.1 dL_law_32 (by decide) ?_
  refine lv_isub S.1 S.2.1 dL_law_33 ?_
  refine fx_topi (y := 0) (by decide) ?_
  refine lv_icmp_gt (tgt := 2656) S.1 S.2.1 dL_law_34 (by decide) (fun _ => ?_) (fun c => absurd (by decide) c)
  refine lv_iconst (v := 1) S.1 S.2.1 dL_law_2656 (by decide) ?_
  refine va_forget (fun q hq => by rw [hN]; exact hG.2.1.2.2 q hq) ?_
  refine W.widen (k := 600002) (n := 7302232) (by decide) (by decide) ?_
  exact lw_ret (d0 := s.drawn) (Drawn.sameBut.refl _ _) S.1 S.2.1 hr hlocks dL_law_2657
theorem l23_15 {p : Program} {e : Env} {s : State} {m : MethodId} {below : List Frame} {meth : Method} {c : Code} {b : Nat} {xs : Nat → Int32} {H : Heap} {locs : List Loc} {ls : Array Slot} {n : Nat} {a2 a3 a4 : Int32} (g_a2_ge_3 : 3 ≤ a2) (S : CallFix p m c cL_law 9 s #[.ref b] wsL_law "TreeDifferLaw") (hr : meth.sig.returnType = ret) (hlocks : meth.locks = false) (hst : l.stackTraces = false) (hX : va_X b 5 xs s s.heap) (hbl : b < s.heap.size ∧ b < N0) (hN : s.heap.size = N0) (hn : N0 + 231 ≤ n) (hx1 : xs 1 = 2) (hx2 : xs 2 = a2) (hx3 : xs 3 = a3) (hx4 : xs 4 = a4) (h0 : F N0 = some (.inr (9, [.ref (N0 + 1), .ref (N0 + 2), .ref (N0 + 11), .ref (N0 + 13), .ref (N0 + 63), .ref (N0 + 65), .ref (N0 + 85), .int (-1), .int (-1), .int 32]))) (h1 : F (N0 + 1) = some (.inl (cTr, 3, .inr (.inr (.inr (.inr (va_up (va_up (va_up (fun _ => none) 0 (some (N0 + 143))) 1 (some (N0 + 150))) 2 (some (N0 + 157))))))))) (h2 : F (N0 + 164) = some (.inr (12, [.ref (N0 + 165), .int 0, .ref (N0 + 181), .int 0, .int 0, .int 0, .int (-1), .ref (ql 24), .ref (N0 + 182), .ref (N0 + 187), .ref (N0 + 208), .ref (N0 + 209), .ref (N0 + 210), .ref (N0 + 211), .ref (N0 + 212), .int 0, .ref (N0 + 213), .ref (N0 + 218), .ref (N0 + 223), .ref (N0 + 224), .ref (N0 + 225), .ref (N0 + 226), .ref (N0 + 227), .int 0, .int 0, .ref (N0 + 228), .null, .int (-1), .int 0, .int 0, .int 0]))) (hG : fG N0 D vwCl (fty cI cC cL cD cII cTr cTm cIt cB) (fen ql) s F n H locs) (hl : lv_has ls 9 [(0, .ref b), (1, .ref N0), (2, .ref (N0 + 164)), (3, .ref (N0 + 229)), (4, .ref (N0 + 230)), (5, .int 0)]) : W p l e { frames := 2048, cells := 600002, slots := 7302232, locals := 84000 } s m #[.ref b] below meth c H locs 231 4980 (lw_Z below #[.ref b] s) (F0 m 1793 ls []) := by
  have lt_h0 := hG.1.lt h0
  have lt_h1 := hG.1.lt h1
  have lt_h2 := hG.1.lt h2
  refine lv_aload_n S.1 S.2.1 dL_law_1793 rfl (lv_at hl 1 rfl) ?_
  refine lv_aload_n S.1 S.2.1 dL_law_1794 rfl (lv_at hl 0 rfl) ?_
  refine lv_iload S.1 S.2.1 dL_law_1795 (lv_at hl 5 rfl) ?_
  refine lv_iconst (v := 1) S.1 S.2.1 dL_law_1797 (by decide) ?_
  refine lv_iadd S.1 S.2.1 dL_law_1798 ?_
  refine fx_topi (y := 1) (by decide) ?_
  refine gx_sld (v := 2) S hG hX hbl (fin_l (by decide)) hx1 dL_law_1799 ?_
  refine lv_aload_n S.1 S.2.1 dL_law_1800 rfl (lv_at hl 0 rfl) ?_
  refine lv_iload S.1 S.2.1 dL_law_1801 (lv_at hl 5 rfl) ?_
  refine lv_iconst (v := 2) S.1 S.2.1 dL_law_1803 (by decide) ?_
  refine lv_iadd S.1 S.2.1 dL_law_1804 ?_
  refine fx_topi (y := 2) (by decide) ?_
  refine gx_sld (v := a2) S hG hX hbl (fin_l (by decide)) hx2 dL_law_1805 ?_
  refine lv_aload_n S.1 S.2.1 dL_law_1806 rfl (lv_at hl 3 rfl) ?_
  refine fx_cTi (As := [.ref N0, .int 2, .int a2, .ref (N0 + 229)]) (rest := []) S hG (k1288_L_distance g_a2_ge_3 hst (by omega) h0 h1) (vx_cwSW 4 S.2.2.2.2 gL_law_L_distance rfl rfl rfl (by decide +kernel) ⟨Nat.le_of_ble_eq_true rfl, Nat.le_of_ble_eq_true rfl⟩) rfl hl.1 rfl (Nat.le_of_ble_eq_true rfl) dL_law_1807 ⟨Nat.le_of_ble_eq_true rfl, Nat.le_of_ble_eq_true rfl⟩ (fun rv_u_1 u_1 H locs hp hG => ?_)
  obtain ⟨rfl, hu_1⟩ := hp
  refine W.widen (k := 232) (n := 4986) (by decide) (by decide) ?_
  refine lv_istore (lv' := [(6, .int 1), (0, .ref b), (1, .ref N0), (2, .ref (N0 + 164)), (3, .ref (N0 + 229)), (4, .ref (N0 + 230)), (5, .int 0)]) S.1 S.2.1 dL_law_1810 hl (by decide) rfl (fun ls hl => ?_)
  refine lv_aload_n S.1 S.2.1 dL_law_1812 rfl (lv_at hl 3 rfl) ?_
  refine lv_aload_n S.1 S.2.1 dL_law_1813 rfl (lv_at hl 1 rfl) ?_
  refine lv_iload S.1 S.2.1 dL_law_1814 (lv_at hl 6 rfl) ?_
  refine lv_iconst (v := 1) S.1 S.2.1 dL_law_1816 (by decide) ?_
  refine lv_iadd S.1 S.2.1 dL_law_1817 ?_
  refine fx_topi (y := 1) (by decide) ?_
  refine gx_sld (v := 2) S hG hX hbl (fin_l (by decide)) hx1 dL_law_1818 ?_
  refine lv_aload_n S.1 S.2.1 dL_law_1819 rfl (lv_at hl 1 rfl) ?_
  refine lv_iload S.1 S.2.1 dL_law_1820 (lv_at hl 6 rfl) ?_
  refine lv_iconst (v := 2) S.1 S.2.1 dL_law_1822 (by decide) ?_
  refine lv_iadd S.1 S.2.1 dL_law_1823 ?_
  refine fx_topi (y := 2) (by decide) ?_
  refine gx_sld (v := a2) S hG hX hbl (fin_l (by decide)) hx2 dL_law_1824 ?_
  refine fx_cVi (As := [.int 2, .int a2]) (rest := []) S hG (k1289_X10_distance g_a2_ge_3 (by omega) h2) h2 rfl (cwV 2 S.2.2.2.2 gL_law_X10_distance rfl rfl rfl (by decide +kernel) ⟨Nat.le_of_ble_eq_true rfl, Nat.le_of_ble_eq_true rfl⟩) rfl hl.1 rfl (Nat.le_of_ble_eq_true rfl) dL_law_1825 ⟨Nat.le_of_ble_eq_true rfl, Nat.le_of_ble_eq_true rfl⟩ (fun rv_2 _ H locs hp hG => ?_)
  subst rv_2
  refine lv_istore (lv' := [(7, .int 0), (6, .int 1), (0, .ref b), (1, .ref N0), (2, .ref (N0 + 164)), (3, .ref (N0 + 229)), (4, .ref (N0 + 230)), (5, .int 0)]) S.1 S.2.1 dL_law_1828 hl (by decide) rfl (fun ls hl => ?_)
  refine lv_aload_n S.1 S.2.1 dL_law_1830 rfl (lv_at hl 4 rfl) ?_
  refine fx_cVi (As := []) (rest := []) S hG (k25_X10_thrown (by omega) fu_s) fu_s rfl (cwV 0 S.2.2.2.2 gL_law_X10_thrown rfl rfl rfl (by decide +kernel) ⟨Nat.le_of_ble_eq_true rfl, Nat.le_of_ble_eq_true rfl⟩) rfl hl.1 rfl (Nat.le_of_ble_eq_true rfl) dL_law_1831 ⟨Nat.le_of_ble_eq_true rfl, Nat.le_of_ble_eq_true rfl⟩ (fun rv_3 _ H locs hp hG => ?_)
  subst rv_3
  refine lv_iload S.1 S.2.1 dL_law_1834 (lv_at hl 1 rfl) ?_
  refine lv_icmp_eq (tgt := 1841) S.1 S.2.1 dL_law_1836 (by decide) (fun _ => ?_) (fun c => absurd (by decide) c)
  refine lv_iload S.1 S.2.1 dL_law_1841 (lv_at hl 1 rfl) ?_
  refine lv_if_ne (tgt := 1858) S.1 S.2.1 dL_law_1843 (by decide) (fun _ => ?_) (fun c => absurd c (by decide))
  refine lv_goto (tgt := 2650) S.1 S.2.1 dL_law_1858 (by decide) ?_
  refine lv_iinc (v := 5) (lv' := [(5, .int 5), (7, .int 0), (6, .int 1), (0, .ref b), (1, .ref N0), (2, .ref (N0 + 164)), (3, .ref (N0 + 229)), (4, .ref (N0 + 230))]) S.1 S.2.1 dL_law_2650 hl (k := 7) rfl (by decide) (by decide) rfl (fun ls hl => ?_)
  refine lv_goto (tgt := 28) S.1 S.2.1 dL_law_2653 (by decide) ?_
  refine lv_iload S.1 S.2.1 dL_law_28 (lv_at hl 0 rfl) ?_
  refine lv_aload_n S.1 S.2.1 dL_law_30 rfl (lv_at hl 3 rfl) ?_
  refine gx_slen (v := 5) S hG hX hbl rfl dL_law_31 ?_
  refine lv_iconst (v := 5) S.1 S.2.1 dL_law_32 (by decide) ?_
  refine lv_isub S.1 S.2.1 dL_law_33 ?_
  refine fx_topi (y := 0) (by decide) ?_
  refine lv_icmp_gt (tgt := 2656) S.1 S.2.1 dL_law_34 (by decide) (fun _ => ?_) (fun c => absurd (by decide) c)
  refine lv_iconst (v := 1) S.1 S.2.1 dL_law_2656 (by decide) ?_
  refine va_forget (fun q hq => by rw [hN]; exact hG.2.1.2.2 q hq) ?_
  refine W.widen (k := 600002) (n := 7302232) (by decide) (by decide) ?_
  exact lw_ret (d0 := s.drawn) (Drawn.sameBut.refl _ _) S.1 S.2.1 hr hlocks dL_law_2657
theorem l23_16 {p : Program} {e : Env} {s : State} {m : MethodId} {below : List Frame} {meth : Method} {c : Code} {b : Nat} {xs : Nat → Int32} {H : Heap} {locs : List Loc} {ls : Array Slot} {n : Nat} {a1 a2 a3 a4 : Int32} (g_a1_ge_3 : 3 ≤ a1) (S : CallFix p m c cL_law 9 s #[.ref b] wsL_law "TreeDifferLaw") (hr : meth.sig.returnType = ret) (hlocks : meth.locks = false) (hst : l.stackTraces = false) (hX : va_X b 5 xs s s.heap) (hbl : b < s.heap.size ∧ b < N0) (hN : s.heap.size = N0) (hn : N0 + 231 ≤ n) (hx1 : xs 1 = a1) (hx2 : xs 2 = a2) (hx3 : xs 3 = a3) (hx4 : xs 4 = a4) (h0 : F N0 = some (.inr (9, [.ref (N0 + 1), .ref (N0 + 2), .ref (N0 + 11), .ref (N0 + 13), .ref (N0 + 63), .ref (N0 + 65), .ref (N0 + 85), .int (-1), .int (-1), .int 32]))) (h1 : F (N0 + 164) = some (.inr (12, [.ref (N0 + 165), .int 0, .ref (N0 + 181), .int 0, .int 0, .int 0, .int (-1), .ref (ql 24), .ref (N0 + 182), .ref (N0 + 187), .ref (N0 + 208), .ref (N0 + 209), .ref (N0 + 210), .ref (N0 + 211), .ref (N0 + 212), .int 0, .ref (N0 + 213), .ref (N0 + 218), .ref (N0 + 223), .ref (N0 + 224), .ref (N0 + 225), .ref (N0 + 226), .ref (N0 + 227), .int 0, .int 0, .ref (N0 + 228), .null, .int (-1), .int 0, .int 0, .int 0]))) (hG : fG N0 D vwCl (fty cI cC cL cD cII cTr cTm cIt cB) (fen ql) s F n H locs) (hl : lv_has ls 9 [(0, .ref b), (1, .ref N0), (2, .ref (N0 + 164)), (3, .ref (N0 + 229)), (4, .ref (N0 + 230)), (5, .int 0)]) : W p l e { frames := 2048, cells := 600002, slots := 7302232, locals := 84000 } s m #[.ref b] below meth c H locs 231 4980 (lw_Z below #[.ref b] s) (F0 m 1793 ls []) := by
  have lt_h0 := hG.1.lt h0
  have lt_h1 := hG.1.lt h1
  refine lv_aload_n S.1 S.2.1 dL_law_1793 rfl (lv_at hl 1 rfl) ?_
  refine lv_aload_n S.1 S.2.1 dL_law_1794 rfl (lv_at hl 0 rfl) ?_
  refine lv_iload S.1 S.2.1 dL_law_1795 (lv_at hl 5 rfl) ?_
  refine lv_iconst (v := 1) S.1 S.2.1 dL_law_1797 (by decide) ?_
  refine lv_iadd S.1 S.2.1 dL_law_1798 ?_
  refine fx_topi (y := 1) (by decide) ?_
  refine gx_sld (v := a1) S hG hX hbl (fin_l (by decide)) hx1 dL_law_1799 ?_
  refine lv_aload_n S.1 S.2.1 dL_law_1800 rfl (lv_at hl 0 rfl) ?_
  refine lv_iload S.1 S.2.1 dL_law_1801 (lv_at hl 5 rfl) ?_
  refine lv_iconst (v := 2) S.1 S.2.1 dL_law_1803 (by decide) ?_
  refine lv_iadd S.1 S.2.1 dL_law_1804 ?_
  refine fx_topi (y := 2) (by decide) ?_
  refine gx_sld (v := a2) S hG hX hbl (fin_l (by decide)) hx2 dL_law_1805 ?_
  refine lv_aload_n S.1 S.2.1 dL_law_1806 rfl (lv_at hl 3 rfl) ?_
  refine fx_cTi (As := [.ref N0, .int a1, .int a2, .ref (N0 + 229)]) (rest := []) S hG (k1291_L_distance g_a1_ge_3 hst (by omega) h0) (vx_cwSW 4 S.2.2.2.2 gL_law_L_distance rfl rfl rfl (by decide +kernel) ⟨Nat.le_of_ble_eq_true rfl, Nat.le_of_ble_eq_true rfl⟩) rfl hl.1 rfl (Nat.le_of_ble_eq_true rfl) dL_law_1807 ⟨Nat.le_of_ble_eq_true rfl, Nat.le_of_ble_eq_true rfl⟩ (fun rv_u_1 u_1 H locs hp hG => ?_)
  obtain ⟨rfl, hu_1⟩ := hp
  refine W.widen (k := 232) (n := 4986) (by decide) (by decide) ?_
  refine lv_istore (lv' := [(6, .int 1), (0, .ref b), (1, .ref N0), (2, .ref (N0 + 164)), (3, .ref (N0 + 229)), (4, .ref (N0 + 230)), (5, .int 0)]) S.1 S.2.1 dL_law_1810 hl (by decide) rfl (fun ls hl => ?_)
  refine lv_aload_n S.1 S.2.1 dL_law_1812 rfl (lv_at hl 3 rfl) ?_
  refine lv_aload_n S.1 S.2.1 dL_law_1813 rfl (lv_at hl 1 rfl) ?_
  refine lv_iload S.1 S.2.1 dL_law_1814 (lv_at hl 6 rfl) ?_
  refine lv_iconst (v := 1) S.1 S.2.1 dL_law_1816 (by decide) ?_
  refine lv_iadd S.1 S.2.1 dL_law_1817 ?_
  refine fx_topi (y := 1) (by decide) ?_
  refine gx_sld (v := a1) S hG hX hbl (fin_l (by decide)) hx1 dL_law_1818 ?_
  refine lv_aload_n S.1 S.2.1 dL_law_1819 rfl (lv_at hl 1 rfl) ?_
  refine lv_iload S.1 S.2.1 dL_law_1820 (lv_at hl 6 rfl) ?_
  refine lv_iconst (v := 2) S.1 S.2.1 dL_law_1822 (by decide) ?_
  refine lv_iadd S.1 S.2.1 dL_law_1823 ?_
  refine fx_topi (y := 2) (by decide) ?_
  refine gx_sld (v := a2) S hG hX hbl (fin_l (by decide)) hx2 dL_law_1824 ?_
  refine fx_cVi (As := [.int a1, .int a2]) (rest := []) S hG (k1292_X10_distance g_a1_ge_3 (by omega) h1) h1 rfl (cwV 2 S.2.2.2.2 gL_law_X10_distance rfl rfl rfl (by decide +kernel) ⟨Nat.le_of_ble_eq_true rfl, Nat.le_of_ble_eq_true rfl⟩) rfl hl.1 rfl (Nat.le_of_ble_eq_true rfl) dL_law_1825 ⟨Nat.le_of_ble_eq_true rfl, Nat.le_of_ble_eq_true rfl⟩ (fun rv_2 _ H locs hp hG => ?_)
  subst rv_2
  refine lv_istore (lv' := [(7, .int 0), (6, .int 1), (0, .ref b), (1, .ref N0), (2, .ref (N0 + 164)), (3, .ref (N0 + 229)), (4, .ref (N0 + 230)), (5, .int 0)]) S.1 S.2.1 dL_law_1828 hl (by decide) rfl (fun ls hl => ?_)
  refine lv_aload_n S.1 S.2.1 dL_law_1830 rfl (lv_at hl 4 rfl) ?_
  refine fx_cVi (As := []) (rest := []) S hG (k25_X10_thrown (by omega) fu_s) fu_s rfl (cwV 0 S.2.2.2.2 gL_law_X10_thrown rfl rfl rfl (by decide +kernel) ⟨Nat.le_of_ble_eq_true rfl, Nat.le_of_ble_eq_true rfl⟩) rfl hl.1 rfl (Nat.le_of_ble_eq_true rfl) dL_law_1831 ⟨Nat.le_of_ble_eq_true rfl, Nat.le_of_ble_eq_true rfl⟩ (fun rv_3 _ H locs hp hG => ?_)
  subst rv_3
  refine lv_iload S.1 S.2.1 dL_law_1834 (lv_at hl 1 rfl) ?_
  refine lv_icmp_eq (tgt := 1841) S.1 S.2.1 dL_law_1836 (by decide) (fun _ => ?_) (fun c => absurd (by decide) c)
  refine lv_iload S.1 S.2.1 dL_law_1841 (lv_at hl 1 rfl) ?_
  refine lv_if_ne (tgt := 1858) S.1 S.2.1 dL_law_1843 (by decide) (fun _ => ?_) (fun c => absurd c (by decide))
  refine lv_goto (tgt := 2650) S.1 S.2.1 dL_law_1858 (by decide) ?_
  refine lv_iinc (v := 5) (lv' := [(5, .int 5), (7, .int 0), (6, .int 1), (0, .ref b), (1, .ref N0), (2, .ref (N0 + 164)), (3, .ref (N0 + 229)), (4, .ref (N0 + 230))]) S.1 S.2.1 dL_law_2650 hl (k := 7) rfl (by decide) (by decide) rfl (fun ls hl => ?_)
  refine lv_goto (tgt := 28) S.1 S.2.1 dL_law_2653 (by decide) ?_
  refine lv_iload S.1 S.2.1 dL_law_28 (lv_at hl 0 rfl) ?_
  refine lv_aload_n S.1 S.2.1 dL_law_30 rfl (lv_at hl 3 rfl) ?_
  refine gx_slen (v := 5) S hG hX hbl rfl dL_law_31 ?_
  refine lv_iconst (v := 5) S.1 S.2.1 dL_law_32 (by decide) ?_
  refine lv_isub S.1 S.2.1 dL_law_33 ?_
  refine fx_topi (y := 0) (by decide) ?_
  refine lv_icmp_gt (tgt := 2656) S.1 S.2.1 dL_law_34 (by decide) (fun _ => ?_) (fun c => absurd (by decide) c)
  refine lv_iconst (v := 1) S.1 S.2.1 dL_law_2656 (by decide) ?_
  refine va_forget (fun q hq => by rw [hN]; exact hG.2.1.2.2 q hq) ?_
  refine W.widen (k := 600002) (n := 7302232) (by decide) (by decide) ?_
  exact lw_ret (d0 := s.drawn) (Drawn.sameBut.refl _ _) S.1 S.2.1 hr hlocks dL_law_2657
theorem case_23 {p : Program} {e : Env} {s : State} {m : MethodId} {below : List Frame} {meth : Method} {c : Code} {b : Nat} {xs : Nat → Int32} {H : Heap} {locs : List Loc} {ls : Array Slot} {n : Nat} {a1 a2 a3 a4 : Int32} (S : CallFix p m c cL_law 9 s #[.ref b] wsL_law "TreeDifferLaw") (hr : meth.sig.returnType = ret) (hlocks : meth.locks = false) (hst : l.stackTraces = false) (hX : va_X b 5 xs s s.heap) (hbl : b < s.heap.size ∧ b < N0) (hN : s.heap.size = N0) (hn : N0 + 231 ≤ n) (hx1 : xs 1 = a1) (hx2 : xs 2 = a2) (hx3 : xs 3 = a3) (hx4 : xs 4 = a4) (hL : ∀ (i : Nat) (q : Nat × va_E), (lneed N0 cI cC cL cD cII cTr cTm cIt cB ql)[i]? = some q → F (N0 + q.1) = some q.2) (hG : fG N0 D vwCl (fty cI cC cL cD cII cTr cTm cIt cB) (fen ql) s F n H locs) (hl : lv_has ls 9 [(0, .ref b), (1, .ref N0), (2, .ref (N0 + 164)), (3, .ref (N0 + 229)), (4, .ref (N0 + 230)), (5, .int 0)]) : W p l e { frames := 2048, cells := 600002, slots := 7302232, locals := 84000 } s m #[.ref b] below meth c H locs 231 4980 (lw_Z below #[.ref b] s) (F0 m 1793 ls []) := by
  have hn1 := pk_nc a1
  have hf1 := pk_fc a1
  have hv1 := pk_vc a1
  obtain ⟨g_c1_ge_0, g_c1_le_65535⟩ := fl_c0 a1
  generalize hc1 : (a1.toUInt32 % 65536).toInt32 = c1 at *
  have hn2 := pk_nc a2
  have hf2 := pk_fc a2
  have hv2 := pk_vc a2
  obtain ⟨g_c2_ge_0, g_c2_le_65535⟩ := fl_c0 a2
  generalize hc2 : (a2.toUInt32 % 65536).toInt32 = c2 at *
  have hn3 := pk_nc a3
  have hf3 := pk_fc a3
  have hv3 := pk_vc a3
  obtain ⟨g_c3_ge_0, g_c3_le_65535⟩ := fl_c0 a3
  generalize hc3 : (a3.toUInt32 % 65536).toInt32 = c3 at *
  have hn4 := pk_nc a4
  have hf4 := pk_fc a4
  have hv4 := pk_vc a4
  obtain ⟨g_c4_ge_0, g_c4_le_65535⟩ := fl_c0 a4
  generalize hc4 : (a4.toUInt32 % 65536).toInt32 = c4 at *
  rcases fl_cut a1 0 (-1) (by decide) with g_a1_le_m1 | g_a1_ge_0
  · skip
    exact l23_0 g_a1_le_m1 S hr hlocks hst hX hbl hN hn hx1 hx2 hx3 hx4 (hL 0 _ rfl) (hL 4 _ rfl) hG hl
  · skip
    rcases fl_cut a1 3 2 (by decide) with g_a1_le_2 | g_a1_ge_3
    · skip
      rcases fl_cut a1 1 0 (by decide) with g_a1_le_0 | g_a1_ge_1
      · skip
        obtain rfl : a1 = 0 := Int32.le_antisymm g_a1_le_0 g_a1_ge_0
        rcases fl_cut a2 0 (-1) (by decide) with g_a2_le_m1 | g_a2_ge_0
        · skip
          exact l23_1 g_a2_le_m1 S hr hlocks hst hX hbl hN hn hx1 hx2 hx3 hx4 (hL 0 _ rfl) (hL 6 _ rfl) (hL 4 _ rfl) hG hl
        · skip
          rcases fl_cut a2 3 2 (by decide) with g_a2_le_2 | g_a2_ge_3
          · skip
            rcases fl_cut a2 1 0 (by decide) with g_a2_le_0 | g_a2_ge_1
            · skip
              obtain rfl : a2 = 0 := Int32.le_antisymm g_a2_le_0 g_a2_ge_0
              exact l23_2 S hr hlocks hst hX hbl hN hn hx1 hx2 hx3 hx4 (hL 0 _ rfl) (hL 6 _ rfl) (hL 47 _ rfl) (hL 10 _ rfl) (hL 48 _ rfl) (hL 49 _ rfl) (hL 50 _ rfl) (hL 51 _ rfl) (hL 52 _ rfl) (hL 13 _ rfl) (hL 15 _ rfl) (hL 53 _ rfl) (hL 3 _ rfl) (hL 4 _ rfl) (hL 11 _ rfl) (hL 12 _ rfl) (hL 18 _ rfl) (hL 20 _ rfl) (hL 54 _ rfl) (hL 55 _ rfl) hG hl
            · skip
              rcases fl_cut a2 2 1 (by decide) with g_a2_le_1 | g_a2_ge_2
              · skip
                obtain rfl : a2 = 1 := Int32.le_antisymm g_a2_le_1 g_a2_ge_1
                exact l23_3 S hr hlocks hst hX hbl hN hn hx1 hx2 hx3 hx4 (hL 0 _ rfl) (hL 6 _ rfl) (hL 47 _ rfl) (hL 10 _ rfl) (hL 48 _ rfl) (hL 22 _ rfl) (hL 49 _ rfl) (hL 50 _ rfl) (hL 51 _ rfl) (hL 52 _ rfl) (hL 13 _ rfl) (hL 24 _ rfl) (hL 15 _ rfl) (hL 26 _ rfl) (hL 53 _ rfl) (hL 3 _ rfl) (hL 4 _ rfl) (hL 11 _ rfl) (hL 12 _ rfl) (hL 23 _ rfl) (hL 18 _ rfl) (hL 29 _ rfl) (hL 20 _ rfl) (hL 31 _ rfl) (hL 54 _ rfl) (hL 55 _ rfl) hG hl
              · skip
                obtain rfl : a2 = 2 := Int32.le_antisymm g_a2_le_2 g_a2_ge_2
                exact l23_4 S hr hlocks hst hX hbl hN hn hx1 hx2 hx3 hx4 (hL 0 _ rfl) (hL 6 _ rfl) (hL 47 _ rfl) (hL 10 _ rfl) (hL 48 _ rfl) (hL 33 _ rfl) (hL 49 _ rfl) (hL 50 _ rfl) (hL 51 _ rfl) (hL 52 _ rfl) (hL 13 _ rfl) (hL 35 _ rfl) (hL 15 _ rfl) (hL 37 _ rfl) (hL 53 _ rfl) (hL 3 _ rfl) (hL 4 _ rfl) (hL 11 _ rfl) (hL 12 _ rfl) (hL 34 _ rfl) (hL 18 _ rfl) (hL 40 _ rfl) (hL 20 _ rfl) (hL 42 _ rfl) (hL 54 _ rfl) (hL 55 _ rfl) hG hl
          · skip
            exact l23_5 g_a2_ge_3 S hr hlocks hst hX hbl hN hn hx1 hx2 hx3 hx4 (hL 0 _ rfl) (hL 6 _ rfl) (hL 4 _ rfl) hG hl
      · skip
        rcases fl_cut a1 2 1 (by decide) with g_a1_le_1 | g_a1_ge_2
        · skip
          obtain rfl : a1 = 1 := Int32.le_antisymm g_a1_le_1 g_a1_ge_1
          rcases fl_cut a2 0 (-1) (by decide) with g_a2_le_m1 | g_a2_ge_0
          · skip
            exact l23_6 g_a2_le_m1 S hr hlocks hst hX hbl hN hn hx1 hx2 hx3 hx4 (hL 0 _ rfl) (hL 6 _ rfl) (hL 4 _ rfl) hG hl
          · skip
            rcases fl_cut a2 3 2 (by decide) with g_a2_le_2 | g_a2_ge_3
            · skip
              rcases fl_cut a2 1 0 (by decide) with g_a2_le_0 | g_a2_ge_1
              · skip
                obtain rfl : a2 = 0 := Int32.le_antisymm g_a2_le_0 g_a2_ge_0
                exact l23_7 S hr hlocks hst hX hbl hN hn hx1 hx2 hx3 hx4 (hL 0 _ rfl) (hL 6 _ rfl) (hL 47 _ rfl) (hL 22 _ rfl) (hL 48 _ rfl) (hL 10 _ rfl) (hL 49 _ rfl) (hL 50 _ rfl) (hL 51 _ rfl) (hL 52 _ rfl) (hL 24 _ rfl) (hL 13 _ rfl) (hL 26 _ rfl) (hL 15 _ rfl) (hL 53 _ rfl) (hL 3 _ rfl) (hL 4 _ rfl) (hL 11 _ rfl) (hL 23 _ rfl) (hL 12 _ rfl) (hL 29 _ rfl) (hL 18 _ rfl) (hL 31 _ rfl) (hL 20 _ rfl) (hL 54 _ rfl) (hL 55 _ rfl) hG hl
              · skip
                rcases fl_cut a2 2 1 (by decide) with g_a2_le_1 | g_a2_ge_2
                · skip
                  obtain rfl : a2 = 1 := Int32.le_antisymm g_a2_le_1 g_a2_ge_1
                  exact l23_8 S hr hlocks hst hX hbl hN hn hx1 hx2 hx3 hx4 (hL 0 _ rfl) (hL 6 _ rfl) (hL 47 _ rfl) (hL 22 _ rfl) (hL 48 _ rfl) (hL 49 _ rfl) (hL 50 _ rfl) (hL 51 _ rfl) (hL 52 _ rfl) (hL 24 _ rfl) (hL 26 _ rfl) (hL 53 _ rfl) (hL 3 _ rfl) (hL 4 _ rfl) (hL 11 _ rfl) (hL 23 _ rfl) (hL 29 _ rfl) (hL 31 _ rfl) (hL 54 _ rfl) (hL 55 _ rfl) hG hl
                · skip
                  obtain rfl : a2 = 2 := Int32.le_antisymm g_a2_le_2 g_a2_ge_2
                  exact l23_9 S hr hlocks hst hX hbl hN hn hx1 hx2 hx3 hx4 (hL 0 _ rfl) (hL 6 _ rfl) (hL 47 _ rfl) (hL 22 _ rfl) (hL 48 _ rfl) (hL 33 _ rfl) (hL 49 _ rfl) (hL 50 _ rfl) (hL 51 _ rfl) (hL 52 _ rfl) (hL 24 _ rfl) (hL 35 _ rfl) (hL 26 _ rfl) (hL 37 _ rfl) (hL 53 _ rfl) (hL 3 _ rfl) (hL 4 _ rfl) (hL 11 _ rfl) (hL 23 _ rfl) (hL 34 _ rfl) (hL 29 _ rfl) (hL 40 _ rfl) (hL 31 _ rfl) (hL 42 _ rfl) (hL 54 _ rfl) (hL 55 _ rfl) hG hl
            · skip
              exact l23_10 g_a2_ge_3 S hr hlocks hst hX hbl hN hn hx1 hx2 hx3 hx4 (hL 0 _ rfl) (hL 6 _ rfl) (hL 4 _ rfl) hG hl
        · skip
          obtain rfl : a1 = 2 := Int32.le_antisymm g_a1_le_2 g_a1_ge_2
          rcases fl_cut a2 0 (-1) (by decide) with g_a2_le_m1 | g_a2_ge_0
          · skip
            exact l23_11 g_a2_le_m1 S hr hlocks hst hX hbl hN hn hx1 hx2 hx3 hx4 (hL 0 _ rfl) (hL 6 _ rfl) (hL 4 _ rfl) hG hl
          · skip
            rcases fl_cut a2 3 2 (by decide) with g_a2_le_2 | g_a2_ge_3
            · skip
              rcases fl_cut a2 1 0 (by decide) with g_a2_le_0 | g_a2_ge_1
              · skip
                obtain rfl : a2 = 0 := Int32.le_antisymm g_a2_le_0 g_a2_ge_0
                exact l23_12 S hr hlocks hst hX hbl hN hn hx1 hx2 hx3 hx4 (hL 0 _ rfl) (hL 6 _ rfl) (hL 47 _ rfl) (hL 33 _ rfl) (hL 48 _ rfl) (hL 10 _ rfl) (hL 49 _ rfl) (hL 50 _ rfl) (hL 51 _ rfl) (hL 52 _ rfl) (hL 35 _ rfl) (hL 13 _ rfl) (hL 37 _ rfl) (hL 15 _ rfl) (hL 53 _ rfl) (hL 3 _ rfl) (hL 4 _ rfl) (hL 11 _ rfl) (hL 34 _ rfl) (hL 12 _ rfl) (hL 40 _ rfl) (hL 18 _ rfl) (hL 42 _ rfl) (hL 20 _ rfl) (hL 54 _ rfl) (hL 55 _ rfl) hG hl
              · skip
                rcases fl_cut a2 2 1 (by decide) with g_a2_le_1 | g_a2_ge_2
                · skip
                  obtain rfl : a2 = 1 := Int32.le_antisymm g_a2_le_1 g_a2_ge_1
                  exact l23_13 S hr hlocks hst hX hbl hN hn hx1 hx2 hx3 hx4 (hL 0 _ rfl) (hL 6 _ rfl) (hL 47 _ rfl) (hL 33 _ rfl) (hL 48 _ rfl) (hL 22 _ rfl) (hL 49 _ rfl) (hL 50 _ rfl) (hL 51 _ rfl) (hL 52 _ rfl) (hL 35 _ rfl) (hL 24 _ rfl) (hL 37 _ rfl) (hL 26 _ rfl) (hL 53 _ rfl) (hL 3 _ rfl) (hL 4 _ rfl) (hL 11 _ rfl) (hL 34 _ rfl) (hL 23 _ rfl) (hL 40 _ rfl) (hL 29 _ rfl) (hL 42 _ rfl) (hL 31 _ rfl) (hL 54 _ rfl) (hL 55 _ rfl) hG hl
                · skip
                  obtain rfl : a2 = 2 := Int32.le_antisymm g_a2_le_2 g_a2_ge_2
                  exact l23_14 S hr hlocks hst hX hbl hN hn hx1 hx2 hx3 hx4 (hL 0 _ rfl) (hL 6 _ rfl) (hL 47 _ rfl) (hL 33 _ rfl) (hL 48 _ rfl) (hL 49 _ rfl) (hL 50 _ rfl) (hL 51 _ rfl) (hL 52 _ rfl) (hL 35 _ rfl) (hL 37 _ rfl) (hL 53 _ rfl) (hL 3 _ rfl) (hL 4 _ rfl) (hL 11 _ rfl) (hL 34 _ rfl) (hL 40 _ rfl) (hL 42 _ rfl) (hL 54 _ rfl) (hL 55 _ rfl) hG hl
            · skip
              exact l23_15 g_a2_ge_3 S hr hlocks hst hX hbl hN hn hx1 hx2 hx3 hx4 (hL 0 _ rfl) (hL 6 _ rfl) (hL 4 _ rfl) hG hl
    · skip
      exact l23_16 g_a1_ge_3 S hr hlocks hst hX hbl hN hn hx1 hx2 hx3 hx4 (hL 0 _ rfl) (hL 4 _ rfl) hG hl
