theorem dX7_diff_0 : decode cX7_diff 0 = .ok (.aload_n 0, 1) := by decide +kernel
theorem dX7_diff_1 : decode cX7_diff 1 = .ok (.iload_n 1, 1) := by decide +kernel
set_option maxRecDepth 20000 in
theorem ggX7_diff_X7_treeAt : GoodIn wsX7_diff wsX7_treeAt := goodIn_ca (goodIn_r _ [8, 9, 10, 11, 167, 168, 169, 170, 171, 172, 173, 174, 175, 176] (by decide +kernel) (by decide +kernel)) (goodIn_sub (fun _ h => List.mem_cons_of_mem _ (List.mem_append_right _ h)) (by decide +kernel))
set_option maxRecDepth 20000 in
theorem gX7_diff_X7_treeAt : GoodIn wsX7_diff (wsV RX7 83 RX7 yX7_treeAt wsX7_treeAt) := goodIn_app (goodIn_of _ (by decide +kernel)) ggX7_diff_X7_treeAt
theorem dX7_diff_2 : decode cX7_diff 2 = .ok (.invokevirtual 83, 3) := by decide +kernel
theorem dL_diff_0 : decode cL_diff 0 = .ok (.aload_n 3, 1) := by decide +kernel
theorem dL_diff_1 : decode cL_diff 1 = .ok (.iconst 0, 1) := by decide +kernel
theorem dL_diff_2 : decode cL_diff 2 = .ok (.aload_n 0, 1) := by decide +kernel
theorem dL_diff_3 : decode cL_diff 3 = .ok (.iload_n 1, 1) := by decide +kernel
theorem dL_diff_4 : decode cL_diff 4 = .ok (.iload_n 2, 1) := by decide +kernel
set_option maxRecDepth 20000 in
theorem ggL_diff_X7_diff : GoodIn wsL_diff wsX7_diff := goodIn_ca (goodIn_r _ [6, 7, 8, 9, 10, 11, 12, 5, 13, 14, 15, 16, 17, 18, 19, 20, 21, 22, 23, 24, 25, 26, 27, 28, 29, 30, 31, 32, 33, 34, 35, 36, 37, 38, 39, 40, 41, 42, 43, 44, 45, 46, 47, 48, 49, 50, 51, 52, 53, 54, 55, 56, 57, 58, 59, 60, 61, 62, 63, 64, 65, 66, 67, 68, 69, 70, 71, 72, 73, 74, 75, 76, 77, 78, 79, 80, 81, 82, 83, 84, 85, 86, 87, 88, 89, 90, 91, 92, 93, 94, 95, 96, 97, 98, 99, 100, 101, 102, 103, 104, 105, 106, 107, 108, 109, 110, 111, 112, 113, 114, 115, 116, 117, 118, 119, 120, 121, 122, 123, 124, 125, 126, 127, 128, 129, 130, 131, 132, 133, 134, 135, 136, 137, 138, 139, 140, 141, 142, 143, 144, 145, 146, 147, 148, 149, 150, 151, 152, 153, 154, 155, 156, 157, 158, 159, 160, 161, 162, 163, 164, 165, 166, 167, 168, 169, 170, 171, 172, 173, 174, 175, 176, 177, 178, 179, 180, 181, 182, 183, 184, 185, 186, 187, 188, 189, 190, 191, 192, 193, 194, 195, 196, 197, 198, 199, 200, 201, 202, 203, 204, 205, 206, 207] (by decide +kernel) (by decide +kernel)) (goodIn_sub (fun _ h => List.mem_cons_of_mem _ (List.mem_append_right _ h)) (by decide +kernel))
set_option maxRecDepth 20000 in
theorem gL_diff_X7_diff : GoodIn wsL_diff (wsV RL 108 RX7 yX7_diff wsX7_diff) := goodIn_app (goodIn_of _ (by decide +kernel)) ggL_diff_X7_diff
theorem dL_diff_5 : decode cL_diff 5 = .ok (.invokevirtual 108, 3) := by decide +kernel
theorem dL_diff_13 : decode cL_diff 13 = .ok (.astore 4, 2) := by decide +kernel
theorem dL_diff_15 : decode cL_diff 15 = .ok (.iconst 1, 1) := by decide +kernel
theorem dL_diff_16 : decode cL_diff 16 = .ok (.ireturn, 1) := by decide +kernel
theorem dX10_diff_0 : decode cX10_diff 0 = .ok (.aload_n 0, 1) := by decide +kernel
theorem dX10_diff_1 : decode cX10_diff 1 = .ok (.iload_n 1, 1) := by decide +kernel
theorem dX10_diff_2 : decode cX10_diff 2 = .ok (.iload_n 2, 1) := by decide +kernel
set_option maxRecDepth 20000 in
theorem ggX10_diff_X10_areNone : GoodIn wsX10_diff wsX10_areNone := goodIn_r _ [21, 22, 23, 24, 20, 25, 26, 27, 28, 87, 88, 89, 90, 91, 92, 93, 94, 95, 96, 97, 98, 99, 100, 101, 102, 103, 104, 105, 106, 107, 108, 109, 110, 111, 112, 113, 114, 115, 116, 117] (by decide +kernel) (by decide +kernel)
set_option maxRecDepth 20000 in
theorem gX10_diff_X10_areNone : GoodIn wsX10_diff (wsV RX10 217 RX10 yX10_areNone wsX10_areNone) := goodIn_app (goodIn_of _ (by decide +kernel)) ggX10_diff_X10_areNone
theorem dX10_diff_3 : decode cX10_diff 3 = .ok (.invokevirtual 217, 3) := by decide +kernel
theorem dX10_diff_6 : decode cX10_diff 6 = .ok (.ifCond .eq 5, 3) := by decide +kernel
theorem dX10_diff_9 : decode cX10_diff 9 = .ok (.iconst 0, 1) := by decide +kernel
theorem dX10_diff_10 : decode cX10_diff 10 = .ok (.ireturn, 1) := by decide +kernel
theorem dX7_diff_5 : decode cX7_diff 5 = .ok (.astore_n 3, 1) := by decide +kernel
theorem dX7_diff_6 : decode cX7_diff 6 = .ok (.aload_n 0, 1) := by decide +kernel
theorem dX7_diff_7 : decode cX7_diff 7 = .ok (.iload_n 2, 1) := by decide +kernel
theorem dX7_diff_8 : decode cX7_diff 8 = .ok (.invokevirtual 83, 3) := by decide +kernel
theorem dJ7_fill_53178_0 : decode cJ7_fill_53178 0 = .ok (.iconst 0, 1) := by decide +kernel
theorem dJ7_fill_53178_1 : decode cJ7_fill_53178 1 = .ok (.istore_n 2, 1) := by decide +kernel
theorem dJ7_fill_53178_2 : decode cJ7_fill_53178 2 = .ok (.aload_n 0, 1) := by decide +kernel
theorem dJ7_fill_53178_3 : decode cJ7_fill_53178 3 = .ok (.arraylength, 1) := by decide +kernel
theorem dJ7_fill_53178_4 : decode cJ7_fill_53178 4 = .ok (.istore_n 3, 1) := by decide +kernel
theorem dJ7_fill_53178_5 : decode cJ7_fill_53178 5 = .ok (.iload_n 2, 1) := by decide +kernel
theorem dJ7_fill_53178_6 : decode cJ7_fill_53178 6 = .ok (.iload_n 3, 1) := by decide +kernel
theorem dJ7_fill_53178_7 : decode cJ7_fill_53178 7 = .ok (.if_icmp .ge 13, 3) := by decide +kernel
theorem dJ7_fill_53178_10 : decode cJ7_fill_53178 10 = .ok (.aload_n 0, 1) := by decide +kernel
theorem dJ7_fill_53178_11 : decode cJ7_fill_53178 11 = .ok (.iload_n 2, 1) := by decide +kernel
theorem dJ7_fill_53178_12 : decode cJ7_fill_53178 12 = .ok (.iload_n 1, 1) := by decide +kernel
theorem dJ7_fill_53178_13 : decode cJ7_fill_53178 13 = .ok (.iastore, 1) := by decide +kernel
theorem dJ7_fill_53178_14 : decode cJ7_fill_53178 14 = .ok (.iinc 2 1, 3) := by decide +kernel
theorem dJ7_fill_53178_17 : decode cJ7_fill_53178 17 = .ok (.goto (-12), 3) := by decide +kernel
theorem dJ7_fill_53178_20 : decode cJ7_fill_53178 20 = .ok (.return_, 1) := by decide +kernel
theorem dX1_link_0 : decode cX1_link 0 = .ok (.aload_n 0, 1) := by decide +kernel
theorem dX1_link_1 : decode cX1_link 1 = .ok (.getfield 32, 3) := by decide +kernel
theorem dX1_link_4 : decode cX1_link 4 = .ok (.iload_n 1, 1) := by decide +kernel
theorem dX1_link_5 : decode cX1_link 5 = .ok (.iload_n 2, 1) := by decide +kernel
theorem dX1_link_6 : decode cX1_link 6 = .ok (.iastore, 1) := by decide +kernel
theorem dX1_link_7 : decode cX1_link 7 = .ok (.aload_n 0, 1) := by decide +kernel
theorem dX1_link_8 : decode cX1_link 8 = .ok (.getfield 35, 3) := by decide +kernel
theorem dX1_link_11 : decode cX1_link 11 = .ok (.iload_n 2, 1) := by decide +kernel
theorem dX1_link_12 : decode cX1_link 12 = .ok (.iload_n 1, 1) := by decide +kernel
theorem dX1_link_13 : decode cX1_link 13 = .ok (.iastore, 1) := by decide +kernel
theorem dX1_link_14 : decode cX1_link 14 = .ok (.return_, 1) := by decide +kernel
theorem dX1_chooseChildren_0 : decode cX1_chooseChildren 0 = .ok (.iconst 0, 1) := by decide +kernel
theorem dX1_chooseChildren_1 : decode cX1_chooseChildren 1 = .ok (.istore_n 3, 1) := by decide +kernel
theorem dX1_chooseChildren_2 : decode cX1_chooseChildren 2 = .ok (.iconst 0, 1) := by decide +kernel
theorem dX1_chooseChildren_3 : decode cX1_chooseChildren 3 = .ok (.istore 4, 2) := by decide +kernel
theorem dX1_chooseChildren_5 : decode cX1_chooseChildren 5 = .ok (.iload_n 3, 1) := by decide +kernel
theorem dX1_chooseChildren_6 : decode cX1_chooseChildren 6 = .ok (.aload_n 0, 1) := by decide +kernel
theorem dX1_chooseChildren_7 : decode cX1_chooseChildren 7 = .ok (.getfield 52, 3) := by decide +kernel
theorem dX1_chooseChildren_10 : decode cX1_chooseChildren 10 = .ok (.if_icmp .ge 97, 3) := by decide +kernel
theorem dX1_chooseChildren_107 : decode cX1_chooseChildren 107 = .ok (.return_, 1) := by decide +kernel
theorem dX1_match_0 : decode cX1_match 0 = .ok (.aload_n 0, 1) := by decide +kernel
theorem dX1_match_1 : decode cX1_match 1 = .ok (.aload_n 1, 1) := by decide +kernel
theorem dX1_match_2 : decode cX1_match 2 = .ok (.aload_n 2, 1) := by decide +kernel
set_option maxRecDepth 20000 in
theorem ggX1_match_X1_leastCost : GoodIn wsX1_match wsX1_leastCost := goodIn_r _ [12, 13, 14, 3, 4, 5, 6, 7, 15, 16, 17, 18, 19, 20, 21, 22, 23, 24, 25, 26, 27, 28, 29, 30, 31, 32, 33, 34, 11, 35, 36, 37, 38, 39, 40, 41, 42, 43, 44, 45, 46, 47, 48, 49, 50, 51, 52, 53, 54, 55, 56, 57, 58, 59, 60, 61, 62, 63, 64, 65, 78, 79, 80, 81, 82, 83, 84, 85, 86, 87, 88, 89, 90, 91, 92, 93, 94] (by decide +kernel) (by decide +kernel)
set_option maxRecDepth 20000 in
theorem gX1_match_X1_leastCost : GoodIn wsX1_match (wsV RX1 92 RX1 yX1_leastCost wsX1_leastCost) := goodIn_app (goodIn_of _ (by decide +kernel)) ggX1_match_X1_leastCost
theorem dX1_match_3 : decode cX1_match 3 = .ok (.invokevirtual 92, 3) := by decide +kernel
theorem dX1_match_6 : decode cX1_match 6 = .ok (.pop, 1) := by decide +kernel
theorem dX1_match_7 : decode cX1_match 7 = .ok (.aload_n 0, 1) := by decide +kernel
theorem dX1_match_8 : decode cX1_match 8 = .ok (.getfield 32, 3) := by decide +kernel
theorem dX1_match_11 : decode cX1_match 11 = .ok (.iconst (-1), 1) := by decide +kernel
set_option maxRecDepth 20000 in
theorem ggX1_match_J7_fill_53178 : GoodIn wsX1_match wsJ7_fill_53178 := goodIn_r _ [69] (by decide +kernel) (by decide +kernel)
set_option maxRecDepth 20000 in
theorem gX1_match_J7_fill_53178 : GoodIn wsX1_match (va_wsS RX1 96 yJ7_fill_53178 wsJ7_fill_53178) := goodIn_app (goodIn_of _ (by decide +kernel)) ggX1_match_J7_fill_53178
theorem dX1_match_12 : decode cX1_match 12 = .ok (.invokestatic 96, 3) := by decide +kernel
theorem dX1_match_15 : decode cX1_match 15 = .ok (.aload_n 0, 1) := by decide +kernel
theorem dX1_match_16 : decode cX1_match 16 = .ok (.getfield 35, 3) := by decide +kernel
theorem dX1_match_19 : decode cX1_match 19 = .ok (.iconst (-1), 1) := by decide +kernel
theorem dX1_match_20 : decode cX1_match 20 = .ok (.invokestatic 96, 3) := by decide +kernel
theorem dX1_match_23 : decode cX1_match 23 = .ok (.aload_n 0, 1) := by decide +kernel
theorem dX1_match_24 : decode cX1_match 24 = .ok (.iconst 0, 1) := by decide +kernel
theorem dX1_match_25 : decode cX1_match 25 = .ok (.iconst 0, 1) := by decide +kernel
set_option maxRecDepth 20000 in
theorem ggX1_match_X1_link : GoodIn wsX1_match wsX1_link := goodIn_r _ [73, 1, 2, 78, 79, 80, 81, 82, 83, 84, 85, 86, 87] (by decide +kernel) (by decide +kernel)
set_option maxRecDepth 20000 in
theorem gX1_match_X1_link : GoodIn wsX1_match (wsV RX1 102 RX1 yX1_link wsX1_link) := goodIn_app (goodIn_of _ (by decide +kernel)) ggX1_match_X1_link
theorem dX1_match_26 : decode cX1_match 26 = .ok (.invokevirtual 102, 3) := by decide +kernel
theorem dX1_match_29 : decode cX1_match 29 = .ok (.iconst 0, 1) := by decide +kernel
theorem dX1_match_30 : decode cX1_match 30 = .ok (.istore_n 3, 1) := by decide +kernel
theorem dX1_match_31 : decode cX1_match 31 = .ok (.iload_n 3, 1) := by decide +kernel
theorem dX1_match_32 : decode cX1_match 32 = .ok (.aload_n 1, 1) := by decide +kernel
theorem dX1_match_33 : decode cX1_match 33 = .ok (.getfield 44, 3) := by decide +kernel
theorem dX1_match_36 : decode cX1_match 36 = .ok (.if_icmp .ge 62, 3) := by decide +kernel
theorem dX1_match_39 : decode cX1_match 39 = .ok (.aload_n 0, 1) := by decide +kernel
theorem dX1_match_40 : decode cX1_match 40 = .ok (.getfield 32, 3) := by decide +kernel
theorem dX1_match_43 : decode cX1_match 43 = .ok (.iload_n 3, 1) := by decide +kernel
theorem dX1_match_44 : decode cX1_match 44 = .ok (.iaload, 1) := by decide +kernel
theorem dX1_match_45 : decode cX1_match 45 = .ok (.istore 4, 2) := by decide +kernel
theorem dX1_match_47 : decode cX1_match 47 = .ok (.iload 4, 2) := by decide +kernel
theorem dX1_match_49 : decode cX1_match 49 = .ok (.iconst (-1), 1) := by decide +kernel
theorem dX1_match_50 : decode cX1_match 50 = .ok (.if_icmp .eq 42, 3) := by decide +kernel
theorem dX1_match_53 : decode cX1_match 53 = .ok (.aload_n 0, 1) := by decide +kernel
theorem dX1_match_54 : decode cX1_match 54 = .ok (.aload_n 1, 1) := by decide +kernel
theorem dX1_match_55 : decode cX1_match 55 = .ok (.iload_n 3, 1) := by decide +kernel
theorem dX1_match_56 : decode cX1_match 56 = .ok (.aload_n 0, 1) := by decide +kernel
theorem dX1_match_57 : decode cX1_match 57 = .ok (.getfield 26, 3) := by decide +kernel
set_option maxRecDepth 20000 in
theorem ggX1_match_X5_listChildren : GoodIn wsX1_match wsX5_listChildren := goodIn_r _ [31, 22, 27, 88, 89, 90, 91, 92, 93, 94] (by decide +kernel) (by decide +kernel)
set_option maxRecDepth 20000 in
theorem gX1_match_X5_listChildren : GoodIn wsX1_match (wsV RX1 48 RX5 yX5_listChildren wsX5_listChildren) := goodIn_app (goodIn_of _ (by decide +kernel)) ggX1_match_X5_listChildren
theorem dX1_match_60 : decode cX1_match 60 = .ok (.invokevirtual 48, 3) := by decide +kernel
theorem dX1_match_63 : decode cX1_match 63 = .ok (.putfield 52, 3) := by decide +kernel
theorem dX1_match_66 : decode cX1_match 66 = .ok (.aload_n 0, 1) := by decide +kernel
theorem dX1_match_67 : decode cX1_match 67 = .ok (.aload_n 2, 1) := by decide +kernel
theorem dX1_match_68 : decode cX1_match 68 = .ok (.iload 4, 2) := by decide +kernel
theorem dX1_match_70 : decode cX1_match 70 = .ok (.aload_n 0, 1) := by decide +kernel
theorem dX1_match_71 : decode cX1_match 71 = .ok (.getfield 29, 3) := by decide +kernel
theorem dX1_match_74 : decode cX1_match 74 = .ok (.invokevirtual 48, 3) := by decide +kernel
theorem dX1_match_77 : decode cX1_match 77 = .ok (.putfield 55, 3) := by decide +kernel
theorem dX1_match_80 : decode cX1_match 80 = .ok (.aload_n 0, 1) := by decide +kernel
theorem dX1_match_81 : decode cX1_match 81 = .ok (.aload_n 1, 1) := by decide +kernel
theorem dX1_match_82 : decode cX1_match 82 = .ok (.aload_n 2, 1) := by decide +kernel
set_option maxRecDepth 20000 in
theorem ggX1_match_X1_fillRestCosts : GoodIn wsX1_match wsX1_fillRestCosts := goodIn_r _ [35, 5, 7, 16, 36, 37, 38, 11, 39, 40, 41, 42, 43, 44, 45, 46, 47, 14, 6, 48, 49, 50, 51, 13, 4, 52, 53, 54, 55, 56, 57, 58, 59, 60, 15, 78, 79, 80, 81, 82, 83, 84, 85, 86, 87, 88, 89, 90, 91, 92, 93, 94] (by decide +kernel) (by decide +kernel)
set_option maxRecDepth 20000 in
theorem gX1_match_X1_fillRestCosts : GoodIn wsX1_match (wsV RX1 58 RX1 yX1_fillRestCosts wsX1_fillRestCosts) := goodIn_app (goodIn_of _ (by decide +kernel)) ggX1_match_X1_fillRestCosts
theorem dX1_match_83 : decode cX1_match 83 = .ok (.invokevirtual 58, 3) := by decide +kernel
theorem dX1_match_86 : decode cX1_match 86 = .ok (.aload_n 0, 1) := by decide +kernel
theorem dX1_match_87 : decode cX1_match 87 = .ok (.aload_n 1, 1) := by decide +kernel
theorem dX1_match_88 : decode cX1_match 88 = .ok (.aload_n 2, 1) := by decide +kernel
set_option maxRecDepth 20000 in
theorem ggX1_match_X1_chooseChildren : GoodIn wsX1_match wsX1_chooseChildren := goodIn_r _ [77, 5, 7, 16, 4, 6, 52, 53, 54, 11, 55, 56, 57, 58, 59, 60, 15, 70, 71, 72, 73, 1, 2, 48, 49, 50, 51, 13, 78, 79, 80, 81, 82, 83, 84, 85, 86, 87, 88, 89, 90, 91, 92, 93, 94] (by decide +kernel) (by decide +kernel)
set_option maxRecDepth 20000 in
theorem gX1_match_X1_chooseChildren : GoodIn wsX1_match (wsV RX1 106 RX1 yX1_chooseChildren wsX1_chooseChildren) := goodIn_app (goodIn_of _ (by decide +kernel)) ggX1_match_X1_chooseChildren
theorem dX1_match_89 : decode cX1_match 89 = .ok (.invokevirtual 106, 3) := by decide +kernel
theorem dX1_match_92 : decode cX1_match 92 = .ok (.iinc 3 1, 3) := by decide +kernel
theorem dX1_match_95 : decode cX1_match 95 = .ok (.goto (-64), 3) := by decide +kernel
theorem dX1_match_98 : decode cX1_match 98 = .ok (.return_, 1) := by decide +kernel
theorem dX3_addChanges_0 : decode cX3_addChanges 0 = .ok (.aload_n 0, 1) := by decide +kernel
theorem dX3_addChanges_1 : decode cX3_addChanges 1 = .ok (.getfield 12, 3) := by decide +kernel
theorem dX3_addChanges_4 : decode cX3_addChanges 4 = .ok (.getfield 93, 3) := by decide +kernel
theorem dX3_addChanges_7 : decode cX3_addChanges 7 = .ok (.iload_n 1, 1) := by decide +kernel
theorem dX3_addChanges_8 : decode cX3_addChanges 8 = .ok (.caload, 1) := by decide +kernel
theorem dX3_addChanges_9 : decode cX3_addChanges 9 = .ok (.aload_n 0, 1) := by decide +kernel
theorem dX3_addChanges_10 : decode cX3_addChanges 10 = .ok (.getfield 18, 3) := by decide +kernel
theorem dX3_addChanges_13 : decode cX3_addChanges 13 = .ok (.getfield 93, 3) := by decide +kernel
theorem dX3_addChanges_16 : decode cX3_addChanges 16 = .ok (.iload_n 2, 1) := by decide +kernel
theorem dX3_addChanges_17 : decode cX3_addChanges 17 = .ok (.caload, 1) := by decide +kernel
theorem dX3_addChanges_18 : decode cX3_addChanges 18 = .ok (.if_icmp .eq 11, 3) := by decide +kernel
theorem dX3_addChanges_29 : decode cX3_addChanges 29 = .ok (.aload_n 0, 1) := by decide +kernel
theorem dX3_addChanges_30 : decode cX3_addChanges 30 = .ok (.getfield 12, 3) := by decide +kernel
theorem dX3_addChanges_33 : decode cX3_addChanges 33 = .ok (.getfield 96, 3) := by decide +kernel
theorem dX3_addChanges_36 : decode cX3_addChanges 36 = .ok (.iload_n 1, 1) := by decide +kernel
theorem dX3_addChanges_37 : decode cX3_addChanges 37 = .ok (.iaload, 1) := by decide +kernel
theorem dX3_addChanges_38 : decode cX3_addChanges 38 = .ok (.aload_n 0, 1) := by decide +kernel
theorem dX3_addChanges_39 : decode cX3_addChanges 39 = .ok (.getfield 18, 3) := by decide +kernel
theorem dX3_addChanges_42 : decode cX3_addChanges 42 = .ok (.getfield 96, 3) := by decide +kernel
theorem dX3_addChanges_45 : decode cX3_addChanges 45 = .ok (.iload_n 2, 1) := by decide +kernel
theorem dX3_addChanges_46 : decode cX3_addChanges 46 = .ok (.iaload, 1) := by decide +kernel
theorem dX3_addChanges_47 : decode cX3_addChanges 47 = .ok (.if_icmp .eq 11, 3) := by decide +kernel
theorem dX3_addChanges_58 : decode cX3_addChanges 58 = .ok (.return_, 1) := by decide +kernel
theorem dX3_findOperations_0 : decode cX3_findOperations 0 = .ok (.aload_n 0, 1) := by decide +kernel
theorem dX3_findOperations_1 : decode cX3_findOperations 1 = .ok (.iconst 0, 1) := by decide +kernel
theorem dX3_findOperations_2 : decode cX3_findOperations 2 = .ok (.putfield 69, 3) := by decide +kernel
theorem dX3_findOperations_5 : decode cX3_findOperations 5 = .ok (.iconst 0, 1) := by decide +kernel
theorem dX3_findOperations_6 : decode cX3_findOperations 6 = .ok (.istore_n 1, 1) := by decide +kernel
theorem dX3_findOperations_7 : decode cX3_findOperations 7 = .ok (.iconst 0, 1) := by decide +kernel
theorem dX3_findOperations_8 : decode cX3_findOperations 8 = .ok (.istore_n 2, 1) := by decide +kernel
theorem dX3_findOperations_9 : decode cX3_findOperations 9 = .ok (.iconst 0, 1) := by decide +kernel
theorem dX3_findOperations_10 : decode cX3_findOperations 10 = .ok (.istore_n 3, 1) := by decide +kernel
theorem dX3_findOperations_11 : decode cX3_findOperations 11 = .ok (.iload_n 3, 1) := by decide +kernel
theorem dX3_findOperations_12 : decode cX3_findOperations 12 = .ok (.bipush 40, 2) := by decide +kernel
theorem dX3_findOperations_14 : decode cX3_findOperations 14 = .ok (.if_icmp .ge 114, 3) := by decide +kernel
theorem dX3_findOperations_17 : decode cX3_findOperations 17 = .ok (.iload_n 1, 1) := by decide +kernel
theorem dX3_findOperations_18 : decode cX3_findOperations 18 = .ok (.aload_n 0, 1) := by decide +kernel
theorem dX3_findOperations_19 : decode cX3_findOperations 19 = .ok (.getfield 12, 3) := by decide +kernel
theorem dX3_findOperations_22 : decode cX3_findOperations 22 = .ok (.getfield 73, 3) := by decide +kernel
theorem dX3_findOperations_25 : decode cX3_findOperations 25 = .ok (.if_icmp .lt 15, 3) := by decide +kernel
theorem dX3_findOperations_40 : decode cX3_findOperations 40 = .ok (.iload_n 1, 1) := by decide +kernel
theorem dX3_findOperations_41 : decode cX3_findOperations 41 = .ok (.aload_n 0, 1) := by decide +kernel
theorem dX3_findOperations_42 : decode cX3_findOperations 42 = .ok (.getfield 12, 3) := by decide +kernel
theorem dX3_findOperations_45 : decode cX3_findOperations 45 = .ok (.getfield 73, 3) := by decide +kernel
theorem dX3_findOperations_48 : decode cX3_findOperations 48 = .ok (.if_icmp .ge 28, 3) := by decide +kernel
theorem dX3_findOperations_51 : decode cX3_findOperations 51 = .ok (.aload_n 0, 1) := by decide +kernel
theorem dX3_findOperations_52 : decode cX3_findOperations 52 = .ok (.getfield 21, 3) := by decide +kernel
theorem dX3_findOperations_55 : decode cX3_findOperations 55 = .ok (.iload_n 1, 1) := by decide +kernel
theorem dX3_findOperations_56 : decode cX3_findOperations 56 = .ok (.iaload, 1) := by decide +kernel
theorem dX3_findOperations_57 : decode cX3_findOperations 57 = .ok (.iload_n 2, 1) := by decide +kernel
theorem dX3_findOperations_58 : decode cX3_findOperations 58 = .ok (.if_icmp .ne 18, 3) := by decide +kernel
theorem dX3_findOperations_61 : decode cX3_findOperations 61 = .ok (.aload_n 0, 1) := by decide +kernel
theorem dX3_findOperations_62 : decode cX3_findOperations 62 = .ok (.iload_n 1, 1) := by decide +kernel
theorem dX3_findOperations_63 : decode cX3_findOperations 63 = .ok (.iload_n 2, 1) := by decide +kernel
set_option maxRecDepth 20000 in
theorem ggX3_findOperations_X3_addChanges : GoodIn wsX3_findOperations wsX3_addChanges := goodIn_r _ [10, 2, 11, 4, 12, 13, 14, 15, 9, 16, 1, 17, 18, 19, 39, 40, 41, 42, 43, 44, 45, 46, 47, 48, 49, 50, 51, 52, 53, 54] (by decide +kernel) (by decide +kernel)
set_option maxRecDepth 20000 in
theorem gX3_findOperations_X3_addChanges : GoodIn wsX3_findOperations (wsV RX3 74 RX3 yX3_addChanges wsX3_addChanges) := goodIn_app (goodIn_of _ (by decide +kernel)) ggX3_findOperations_X3_addChanges
theorem dX3_findOperations_64 : decode cX3_findOperations 64 = .ok (.invokevirtual 74, 3) := by decide +kernel
theorem dX3_findOperations_67 : decode cX3_findOperations 67 = .ok (.iinc 1 1, 3) := by decide +kernel
theorem dX3_findOperations_70 : decode cX3_findOperations 70 = .ok (.iinc 2 1, 3) := by decide +kernel
theorem dX3_findOperations_73 : decode cX3_findOperations 73 = .ok (.goto 49, 3) := by decide +kernel
theorem dX3_findOperations_122 : decode cX3_findOperations 122 = .ok (.iinc 3 1, 3) := by decide +kernel
theorem dX3_findOperations_125 : decode cX3_findOperations 125 = .ok (.goto (-114), 3) := by decide +kernel
theorem dX3_findOperations_28 : decode cX3_findOperations 28 = .ok (.iload_n 2, 1) := by decide +kernel
theorem dX3_findOperations_29 : decode cX3_findOperations 29 = .ok (.aload_n 0, 1) := by decide +kernel
theorem dX3_findOperations_30 : decode cX3_findOperations 30 = .ok (.getfield 18, 3) := by decide +kernel
theorem dX3_findOperations_33 : decode cX3_findOperations 33 = .ok (.getfield 73, 3) := by decide +kernel
theorem dX3_findOperations_36 : decode cX3_findOperations 36 = .ok (.if_icmp .lt 4, 3) := by decide +kernel
theorem dX3_findOperations_39 : decode cX3_findOperations 39 = .ok (.return_, 1) := by decide +kernel
theorem dX3_recognizeMoves_0 : decode cX3_recognizeMoves 0 = .ok (.iconst 0, 1) := by decide +kernel
theorem dX3_recognizeMoves_1 : decode cX3_recognizeMoves 1 = .ok (.istore_n 1, 1) := by decide +kernel
theorem dX3_recognizeMoves_2 : decode cX3_recognizeMoves 2 = .ok (.iload_n 1, 1) := by decide +kernel
theorem dX3_recognizeMoves_3 : decode cX3_recognizeMoves 3 = .ok (.aload_n 0, 1) := by decide +kernel
theorem dX3_recognizeMoves_4 : decode cX3_recognizeMoves 4 = .ok (.getfield 69, 3) := by decide +kernel
theorem dX3_recognizeMoves_7 : decode cX3_recognizeMoves 7 = .ok (.if_icmp .ge 64, 3) := by decide +kernel
theorem dX3_recognizeMoves_71 : decode cX3_recognizeMoves 71 = .ok (.return_, 1) := by decide +kernel
theorem dX3_removeDropped_0 : decode cX3_removeDropped 0 = .ok (.aload_n 0, 1) := by decide +kernel
theorem dX3_removeDropped_1 : decode cX3_removeDropped 1 = .ok (.getfield 69, 3) := by decide +kernel
theorem dX3_removeDropped_4 : decode cX3_removeDropped 4 = .ok (.istore_n 1, 1) := by decide +kernel
theorem dX3_removeDropped_5 : decode cX3_removeDropped 5 = .ok (.aload_n 0, 1) := by decide +kernel
theorem dX3_removeDropped_6 : decode cX3_removeDropped 6 = .ok (.iconst 0, 1) := by decide +kernel
theorem dX3_removeDropped_7 : decode cX3_removeDropped 7 = .ok (.putfield 69, 3) := by decide +kernel
theorem dX3_removeDropped_10 : decode cX3_removeDropped 10 = .ok (.iconst 0, 1) := by decide +kernel
theorem dX3_removeDropped_11 : decode cX3_removeDropped 11 = .ok (.istore_n 2, 1) := by decide +kernel
theorem dX3_removeDropped_12 : decode cX3_removeDropped 12 = .ok (.iload_n 2, 1) := by decide +kernel
theorem dX3_removeDropped_13 : decode cX3_removeDropped 13 = .ok (.iload_n 1, 1) := by decide +kernel
theorem dX3_removeDropped_14 : decode cX3_removeDropped 14 = .ok (.if_icmp .ge 42, 3) := by decide +kernel
theorem dX3_removeDropped_56 : decode cX3_removeDropped 56 = .ok (.return_, 1) := by decide +kernel
theorem dX3_compute_0 : decode cX3_compute 0 = .ok (.aload_n 0, 1) := by decide +kernel
theorem dX3_compute_1 : decode cX3_compute 1 = .ok (.getfield 12, 3) := by decide +kernel
theorem dX3_compute_4 : decode cX3_compute 4 = .ok (.aload_n 1, 1) := by decide +kernel
set_option maxRecDepth 20000 in
theorem ggX3_compute_X5_copyFrom : GoodIn wsX3_compute wsX5_copyFrom := goodIn_r _ [16, 17, 18, 6, 7, 8, 19, 20, 21, 22, 172, 173, 174, 175, 176, 177, 178] (by decide +kernel) (by decide +kernel)
set_option maxRecDepth 20000 in
theorem gX3_compute_X5_copyFrom : GoodIn wsX3_compute (wsV RX3 38 RX5 yX5_copyFrom wsX5_copyFrom) := goodIn_app (goodIn_of _ (by decide +kernel)) ggX3_compute_X5_copyFrom
theorem dX3_compute_5 : decode cX3_compute 5 = .ok (.invokevirtual 38, 3) := by decide +kernel
theorem dX3_compute_8 : decode cX3_compute 8 = .ok (.aload_n 0, 1) := by decide +kernel
theorem dX3_compute_9 : decode cX3_compute 9 = .ok (.getfield 18, 3) := by decide +kernel
theorem dX3_compute_12 : decode cX3_compute 12 = .ok (.aload_n 2, 1) := by decide +kernel
theorem dX3_compute_13 : decode cX3_compute 13 = .ok (.invokevirtual 38, 3) := by decide +kernel
theorem dX3_compute_16 : decode cX3_compute 16 = .ok (.aload_n 3, 1) := by decide +kernel
theorem dX3_compute_17 : decode cX3_compute 17 = .ok (.aload_n 0, 1) := by decide +kernel
theorem dX3_compute_18 : decode cX3_compute 18 = .ok (.getfield 12, 3) := by decide +kernel
theorem dX3_compute_21 : decode cX3_compute 21 = .ok (.aload_n 0, 1) := by decide +kernel
theorem dX3_compute_22 : decode cX3_compute 22 = .ok (.getfield 18, 3) := by decide +kernel
set_option maxRecDepth 20000 in
theorem ggX3_compute_X1_match : GoodIn wsX3_compute wsX1_match := goodIn_r _ [27, 28, 29, 30, 31, 32, 33, 34, 35, 36, 37, 26, 38, 39, 40, 41, 42, 43, 44, 45, 15, 46, 22, 47, 48, 49, 50, 21, 51, 52, 53, 54, 55, 56, 57, 58, 59, 60, 61, 62, 63, 64, 65, 66, 67, 68, 69, 70, 71, 72, 73, 74, 75, 76, 77, 78, 79, 80, 81, 82, 83, 84, 85, 86, 87, 88, 89, 90, 91, 92, 93, 94, 95, 96, 97, 98, 99, 100, 162, 163, 164, 165, 166, 167, 168, 169, 170, 171, 172, 173, 174, 175, 176, 177, 178] (by decide +kernel) (by decide +kernel)
set_option maxRecDepth 20000 in
theorem gX3_compute_X1_match : GoodIn wsX3_compute (wsV RX3 42 RX1 yX1_match wsX1_match) := goodIn_app (goodIn_of _ (by decide +kernel)) ggX3_compute_X1_match
theorem dX3_compute_25 : decode cX3_compute 25 = .ok (.invokevirtual 42, 3) := by decide +kernel
theorem dX3_compute_28 : decode cX3_compute 28 = .ok (.aload_n 3, 1) := by decide +kernel
theorem dX3_compute_29 : decode cX3_compute 29 = .ok (.getfield 48, 3) := by decide +kernel
theorem dX3_compute_32 : decode cX3_compute 32 = .ok (.iconst 0, 1) := by decide +kernel
theorem dX3_compute_33 : decode cX3_compute 33 = .ok (.aload_n 0, 1) := by decide +kernel
theorem dX3_compute_34 : decode cX3_compute 34 = .ok (.getfield 21, 3) := by decide +kernel
theorem dX3_compute_37 : decode cX3_compute 37 = .ok (.iconst 0, 1) := by decide +kernel
theorem dX3_compute_38 : decode cX3_compute 38 = .ok (.bipush 20, 2) := by decide +kernel
theorem dX3_compute_40 : decode cX3_compute 40 = .ok (.invokestatic 49, 3) := by decide +kernel
theorem dX3_compute_43 : decode cX3_compute 43 = .ok (.aload_n 3, 1) := by decide +kernel
theorem dX3_compute_44 : decode cX3_compute 44 = .ok (.getfield 55, 3) := by decide +kernel
theorem dX3_compute_47 : decode cX3_compute 47 = .ok (.iconst 0, 1) := by decide +kernel
theorem dX3_compute_48 : decode cX3_compute 48 = .ok (.aload_n 0, 1) := by decide +kernel
theorem dX3_compute_49 : decode cX3_compute 49 = .ok (.getfield 25, 3) := by decide +kernel
theorem dX3_compute_52 : decode cX3_compute 52 = .ok (.iconst 0, 1) := by decide +kernel
theorem dX3_compute_53 : decode cX3_compute 53 = .ok (.bipush 20, 2) := by decide +kernel
theorem dX3_compute_55 : decode cX3_compute 55 = .ok (.invokestatic 49, 3) := by decide +kernel
theorem dX3_compute_58 : decode cX3_compute 58 = .ok (.aload_n 0, 1) := by decide +kernel
set_option maxRecDepth 20000 in
theorem ggX3_compute_X3_findOperations : GoodIn wsX3_compute wsX3_findOperations := goodIn_r _ [105, 106, 1, 107, 2, 4, 108, 109, 110, 104, 111, 112, 113, 114, 115, 116, 117, 118, 119, 120, 121, 122, 123, 124, 125, 126, 127, 15, 128, 21, 129, 130, 131, 132, 47, 48, 49, 50, 22, 153, 154, 155, 156, 157, 158, 159, 160, 161, 172, 173, 174, 175, 176, 177, 178] (by decide +kernel) (by decide +kernel)
set_option maxRecDepth 20000 in
theorem gX3_compute_X3_findOperations : GoodIn wsX3_compute (wsV RX3 56 RX3 yX3_findOperations wsX3_findOperations) := goodIn_app (goodIn_of _ (by decide +kernel)) ggX3_compute_X3_findOperations
theorem dX3_compute_59 : decode cX3_compute 59 = .ok (.invokevirtual 56, 3) := by decide +kernel
theorem dX3_compute_62 : decode cX3_compute 62 = .ok (.aload_n 0, 1) := by decide +kernel
set_option maxRecDepth 20000 in
theorem ggX3_compute_X3_recognizeMoves : GoodIn wsX3_compute wsX3_recognizeMoves := goodIn_r _ [136, 106, 118, 119, 137, 138, 139, 104, 140, 1, 2, 120, 141, 142, 143, 15, 144, 17, 19, 20, 145, 146, 147, 148, 21, 47, 48, 49, 50, 22, 153, 154, 155, 156, 157, 158, 159, 160, 161, 172, 173, 174, 175, 176, 177, 178] (by decide +kernel) (by decide +kernel)
set_option maxRecDepth 20000 in
theorem gX3_compute_X3_recognizeMoves : GoodIn wsX3_compute (wsV RX3 59 RX3 yX3_recognizeMoves wsX3_recognizeMoves) := goodIn_app (goodIn_of _ (by decide +kernel)) ggX3_compute_X3_recognizeMoves
theorem dX3_compute_63 : decode cX3_compute 63 = .ok (.invokevirtual 59, 3) := by decide +kernel
theorem dX3_compute_66 : decode cX3_compute 66 = .ok (.aload_n 0, 1) := by decide +kernel
set_option maxRecDepth 20000 in
theorem ggX3_compute_X3_removeDropped : GoodIn wsX3_compute wsX3_removeDropped := goodIn_r _ [152, 106, 118, 119, 120, 114, 115, 116, 104, 117, 153, 154, 155, 156, 157, 158, 159, 160, 161] (by decide +kernel) (by decide +kernel)
set_option maxRecDepth 20000 in
theorem gX3_compute_X3_removeDropped : GoodIn wsX3_compute (wsV RX3 62 RX3 yX3_removeDropped wsX3_removeDropped) := goodIn_app (goodIn_of _ (by decide +kernel)) ggX3_compute_X3_removeDropped
theorem dX3_compute_67 : decode cX3_compute 67 = .ok (.invokevirtual 62, 3) := by decide +kernel
theorem dX3_compute_70 : decode cX3_compute 70 = .ok (.aload_n 0, 1) := by decide +kernel
theorem dX3_compute_71 : decode cX3_compute 71 = .ok (.iconst 1, 1) := by decide +kernel
theorem dX3_compute_72 : decode cX3_compute 72 = .ok (.putfield 65, 3) := by decide +kernel
theorem dX3_compute_75 : decode cX3_compute 75 = .ok (.return_, 1) := by decide +kernel
variable {l : Launch} {N0 : Nat} {D : va_G} {cI cC cL cD cII cTr cTm cIt cB : ClassId} {F : Nat → Option va_E} {ql : Nat → Nat}
theorem k1422_X7_diff {n : Nat} {a1 : Int32} {a2 : Int32} (g_a1_le_m1 : a1 ≤ (-1)) (hst : l.stackTraces = false) (hn : N0 + 231 ≤ n) (h0 : F N0 = some (.inr (9, [.ref (N0 + 1), .ref (N0 + 2), .ref (N0 + 11), .ref (N0 + 13), .ref (N0 + 63), .ref (N0 + 65), .ref (N0 + 85), .int (-1), .int (-1), .int 32]))) : vx_Met l yX7_diff wsX7_diff ({ frames := 7, cells := 1, slots := 6, locals := 103 }) (va_Pc [.ref N0, .int a1, .int a2] (fP N0 D vwCl (fty cI cC cL cD cII cTr cTm cIt cB) (fen ql) F n)) (fNo N0 D vwCl (fty cI cC cL cD cII cTr cTm cIt cB) F n) (fXC N0 D vwCl (fty cI cC cL cD cII cTr cTm cIt cB) "java/lang/IndexOutOfBoundsException" F n) 1 6 (fA N0) := by
  refine fx_startX 5 rfl rfl (Nat.le_of_ble_eq_true rfl) ?_ rfl
  intro p e s m below meth c ls S htab hlocks hG hl
  have hl : lv_has ls 5 [(0, .ref N0), (1, .int a1), (2, .int a2)] := hl
  have lt_h0 := hG.1.lt h0
  refine lv_aload_n S.1 S.2.1 dX7_diff_0 rfl (lv_at hl 0 rfl) ?_
  refine lv_iload_n S.1 S.2.1 dX7_diff_1 rfl (lv_at hl 1 rfl) ?_
  refine fx_xV (As := [.int a1]) (rest := []) S hG (k18_X7_treeAt g_a1_le_m1 hst (by omega)) h0 rfl (cwV 1 S.2.2.2.2 gX7_diff_X7_treeAt rfl rfl rfl (by decide +kernel) ⟨Nat.le_of_ble_eq_true rfl, Nat.le_of_ble_eq_true rfl⟩) rfl hl.1 rfl (Nat.le_of_ble_eq_true rfl) dX7_diff_2 ⟨Nat.le_of_ble_eq_true rfl, Nat.le_of_ble_eq_true rfl⟩ (fun ceq_1 q_1 H locs n_2 hn_2 hG h1q_1 h2q_1 h3q_1 => ?_)
  exact fx_out htab hlocks hG (by omega) h1q_1 h2q_1 h3q_1 (by decide) (by decide)
theorem k1423_L_diff {n : Nat} {a1 : Int32} {a2 : Int32} (g_a1_le_m1 : a1 ≤ (-1)) (hst : l.stackTraces = false) (hn : N0 + 231 ≤ n) (h0 : F N0 = some (.inr (9, [.ref (N0 + 1), .ref (N0 + 2), .ref (N0 + 11), .ref (N0 + 13), .ref (N0 + 63), .ref (N0 + 65), .ref (N0 + 85), .int (-1), .int (-1), .int 32]))) : Met l yL_diff wsL_diff ({ frames := 8, cells := 1, slots := 6, locals := 127 }) (va_Pc [.ref N0, .int a1, .int a2, .ref (N0 + 229)] (fP N0 D vwCl (fty cI cC cL cD cII cTr cTm cIt cB) (fen ql) F n)) (fQi N0 D vwCl (fty cI cC cL cD cII cTr cTm cIt cB) (fun (r : Int32) (u : Nat) => r = 1 ∧ n ≤ u) (fun _ => F) (fun u => u)) 1 6 (fA N0) := by
  refine fx_startW (hh := [(0, 10, 13, 19)]) 5 rfl rfl (Nat.le_of_ble_eq_true rfl) ?_ rfl
  intro p e s m below meth c ls S htab hr hlocks hG hl
  have hl : lv_has ls 5 [(0, .ref N0), (1, .int a1), (2, .int a2), (3, .ref (N0 + 229))] := hl
  have lt_h0 := hG.1.lt h0
  refine lv_aload_n S.1 S.2.1 dL_diff_0 rfl (lv_at hl 3 rfl) ?_
  refine lv_iconst (v := 0) S.1 S.2.1 dL_diff_1 (by decide) ?_
  refine lv_aload_n S.1 S.2.1 dL_diff_2 rfl (lv_at hl 0 rfl) ?_
  refine lv_iload_n S.1 S.2.1 dL_diff_3 rfl (lv_at hl 1 rfl) ?_
  refine lv_iload_n S.1 S.2.1 dL_diff_4 rfl (lv_at hl 2 rfl) ?_
  refine fx_xV (As := [.int a1, .int a2]) (rest := [.int 0, .ref (N0 + 229)]) S hG (k1422_X7_diff g_a1_le_m1 hst (by omega) h0) h0 rfl (cwV 2 S.2.2.2.2 gL_diff_X7_diff rfl rfl rfl (by decide +kernel) ⟨Nat.le_of_ble_eq_true rfl, Nat.le_of_ble_eq_true rfl⟩) rfl hl.1 rfl (Nat.le_of_ble_eq_true rfl) dL_diff_5 ⟨Nat.le_of_ble_eq_true rfl, Nat.le_of_ble_eq_true rfl⟩ (fun ceq_1 q_1 H locs n_2 hn_2 hG h1q_1 h2q_1 h3q_1 => ?_)
  refine fx_catch (hh := [(0, 10, 13, 19)]) S htab hG h1q_1 h2q_1 h3q_1 [] ⟨0, 10, 13, 19⟩ [] rfl [] (fun z hz => absurd hz List.not_mem_nil) (by decide) (by decide) (by decide +kernel) (List.mem_of_getElem? (i := 2) rfl) ?_
  refine lv_astore (lv' := [(4, .ref q_1), (0, .ref N0), (1, .int a1), (2, .int a2), (3, .ref (N0 + 229))]) S.1 S.2.1 dL_diff_13 hl (by decide) rfl (fun ls hl => ?_)
  refine lv_iconst (v := 1) S.1 S.2.1 dL_diff_15 (by decide) ?_
  exact fx_iret S hr hlocks n_2 hG (⟨rfl, hn_2⟩) dL_diff_16
theorem k1424_X10_diff {n : Nat} {a1 : Int32} {a2 : Int32} (g_a1_le_m1 : a1 ≤ (-1)) (hn : N0 + 231 ≤ n) (h0 : F (N0 + 164) = some (.inr (12, [.ref (N0 + 165), .int 0, .ref (N0 + 181), .int 0, .int 0, .int 0, .int (-1), .ref (ql 24), .ref (N0 + 182), .ref (N0 + 187), .ref (N0 + 208), .ref (N0 + 209), .ref (N0 + 210), .ref (N0 + 211), .ref (N0 + 212), .int 0, .ref (N0 + 213), .ref (N0 + 218), .ref (N0 + 223), .ref (N0 + 224), .ref (N0 + 225), .ref (N0 + 226), .ref (N0 + 227), .int 0, .int 0, .ref (N0 + 228), .null, .int (-1), .int 0, .int 0, .int 0]))) : Met l yX10_diff wsX10_diff ({ frames := 3, cells := 0, slots := 0, locals := 64 }) (va_Pc [.ref (N0 + 164), .int a1, .int a2] (fP N0 D vwCl (fty cI cC cL cD cII cTr cTm cIt cB) (fen ql) F n)) (fQi N0 D vwCl (fty cI cC cL cD cII cTr cTm cIt cB) (fun (r : Int32) (_ : Unit) => r = 0) (fun _ => (fu F (N0 + 164) (.inr (12, [.ref (N0 + 165), .int 1, .ref (N0 + 181), .int 0, .int 0, .int 0, .int (-1), .ref (ql 24), .ref (N0 + 182), .ref (N0 + 187), .ref (N0 + 208), .ref (N0 + 209), .ref (N0 + 210), .ref (N0 + 211), .ref (N0 + 212), .int 0, .ref (N0 + 213), .ref (N0 + 218), .ref (N0 + 223), .ref (N0 + 224), .ref (N0 + 225), .ref (N0 + 226), .ref (N0 + 227), .int 0, .int 0, .ref (N0 + 228), .null, .int (-1), .int 0, .int 0, .int 0])))) (fun _ => n)) 0 0 (fA N0) := by
  refine fx_start 4 rfl rfl (Nat.le_of_ble_eq_true rfl) ?_ rfl
  intro p e s m below meth c ls S hr hlocks hin hG hl
  have hl : lv_has ls 4 [(0, .ref (N0 + 164)), (1, .int a1), (2, .int a2)] := hl
  have lt_h0 := hG.1.lt h0
  refine lv_aload_n S.1 S.2.1 dX10_diff_0 rfl (lv_at hl 0 rfl) ?_
  refine lv_iload_n S.1 S.2.1 dX10_diff_1 rfl (lv_at hl 1 rfl) ?_
  refine lv_iload_n S.1 S.2.1 dX10_diff_2 rfl (lv_at hl 2 rfl) ?_
  refine fx_cVi (As := [.int a1, .int a2]) (rest := []) S hG (k448_X10_areNone g_a1_le_m1 (by omega) h0) h0 rfl (cwV 2 S.2.2.2.2 gX10_diff_X10_areNone rfl rfl rfl (by decide +kernel) ⟨Nat.le_of_ble_eq_true rfl, Nat.le_of_ble_eq_true rfl⟩) rfl hl.1 rfl (Nat.le_of_ble_eq_true rfl) dX10_diff_3 ⟨Nat.le_of_ble_eq_true rfl, Nat.le_of_ble_eq_true rfl⟩ (fun rv_1 _ H locs hp hG => ?_)
  subst rv_1
  refine lv_if_eq (tgt := 11) S.1 S.2.1 dX10_diff_6 (by decide) (fun c => absurd c (by decide)) (fun _ => ?_)
  refine lv_iconst (v := 0) S.1 S.2.1 dX10_diff_9 (by decide) ?_
  exact fx_iret S hr hlocks () hG (rfl) dX10_diff_10
theorem k1425_X7_diff {n : Nat} {a2 : Int32} (g_a2_le_m1 : a2 ≤ (-1)) (hst : l.stackTraces = false) (hn : N0 + 231 ≤ n) (h0 : F N0 = some (.inr (9, [.ref (N0 + 1), .ref (N0 + 2), .ref (N0 + 11), .ref (N0 + 13), .ref (N0 + 63), .ref (N0 + 65), .ref (N0 + 85), .int (-1), .int (-1), .int 32]))) (h1 : F (N0 + 1) = some (.inl (cTr, 3, .inr (.inr (.inr (.inr (va_up (va_up (va_up (fun _ => none) 0 (some (N0 + 143))) 1 (some (N0 + 150))) 2 (some (N0 + 157))))))))) : vx_Met l yX7_diff wsX7_diff ({ frames := 7, cells := 1, slots := 6, locals := 103 }) (va_Pc [.ref N0, .int 0, .int a2] (fP N0 D vwCl (fty cI cC cL cD cII cTr cTm cIt cB) (fen ql) F n)) (fNo N0 D vwCl (fty cI cC cL cD cII cTr cTm cIt cB) F n) (fXC N0 D vwCl (fty cI cC cL cD cII cTr cTm cIt cB) "java/lang/IndexOutOfBoundsException" F n) 1 6 (fA N0) := by
  refine fx_startX 5 rfl rfl (Nat.le_of_ble_eq_true rfl) ?_ rfl
  intro p e s m below meth c ls S htab hlocks hG hl
  have hl : lv_has ls 5 [(0, .ref N0), (1, .int 0), (2, .int a2)] := hl
  have lt_h0 := hG.1.lt h0
  have lt_h1 := hG.1.lt h1
  refine lv_aload_n S.1 S.2.1 dX7_diff_0 rfl (lv_at hl 0 rfl) ?_
  refine lv_iload_n S.1 S.2.1 dX7_diff_1 rfl (lv_at hl 1 rfl) ?_
  refine fx_cVr (As := [.int 0]) (rest := []) S hG (k26_X7_treeAt (by omega) h0 h1) h0 rfl (cwV 1 S.2.2.2.2 gX7_diff_X7_treeAt rfl rfl rfl (by decide +kernel) ⟨Nat.le_of_ble_eq_true rfl, Nat.le_of_ble_eq_true rfl⟩) rfl hl.1 rfl (Nat.le_of_ble_eq_true rfl) dX7_diff_2 ⟨Nat.le_of_ble_eq_true rfl, Nat.le_of_ble_eq_true rfl⟩ (fun rv_1 _ H locs hp hG => ?_)
  subst rv_1
  refine lv_astore_n (lv' := [(3, .ref (N0 + 143)), (0, .ref N0), (1, .int 0), (2, .int a2)]) S.1 S.2.1 dX7_diff_5 rfl hl (by decide) rfl (fun ls hl => ?_)
  refine lv_aload_n S.1 S.2.1 dX7_diff_6 rfl (lv_at hl 1 rfl) ?_
  refine lv_iload_n S.1 S.2.1 dX7_diff_7 rfl (lv_at hl 3 rfl) ?_
  refine fx_xV (As := [.int a2]) (rest := []) S hG (k450_X7_treeAt g_a2_le_m1 hst (by omega)) h0 rfl (cwV 1 S.2.2.2.2 gX7_diff_X7_treeAt rfl rfl rfl (by decide +kernel) ⟨Nat.le_of_ble_eq_true rfl, Nat.le_of_ble_eq_true rfl⟩) rfl hl.1 rfl (Nat.le_of_ble_eq_true rfl) dX7_diff_8 ⟨Nat.le_of_ble_eq_true rfl, Nat.le_of_ble_eq_true rfl⟩ (fun ceq_2 q_2 H locs n_3 hn_3 hG h1q_2 h2q_2 h3q_2 => ?_)
  exact fx_out htab hlocks hG (by omega) h1q_2 h2q_2 h3q_2 (by decide) (by decide)
theorem k1426_L_diff {n : Nat} {a2 : Int32} (g_a2_le_m1 : a2 ≤ (-1)) (hst : l.stackTraces = false) (hn : N0 + 231 ≤ n) (h0 : F N0 = some (.inr (9, [.ref (N0 + 1), .ref (N0 + 2), .ref (N0 + 11), .ref (N0 + 13), .ref (N0 + 63), .ref (N0 + 65), .ref (N0 + 85), .int (-1), .int (-1), .int 32]))) (h1 : F (N0 + 1) = some (.inl (cTr, 3, .inr (.inr (.inr (.inr (va_up (va_up (va_up (fun _ => none) 0 (some (N0 + 143))) 1 (some (N0 + 150))) 2 (some (N0 + 157))))))))) : Met l yL_diff wsL_diff ({ frames := 8, cells := 1, slots := 6, locals := 127 }) (va_Pc [.ref N0, .int 0, .int a2, .ref (N0 + 229)] (fP N0 D vwCl (fty cI cC cL cD cII cTr cTm cIt cB) (fen ql) F n)) (fQi N0 D vwCl (fty cI cC cL cD cII cTr cTm cIt cB) (fun (r : Int32) (u : Nat) => r = 1 ∧ n ≤ u) (fun _ => F) (fun u => u)) 1 6 (fA N0) := by
  refine fx_startW (hh := [(0, 10, 13, 19)]) 5 rfl rfl (Nat.le_of_ble_eq_true rfl) ?_ rfl
  intro p e s m below meth c ls S htab hr hlocks hG hl
  have hl : lv_has ls 5 [(0, .ref N0), (1, .int 0), (2, .int a2), (3, .ref (N0 + 229))] := hl
  have lt_h0 := hG.1.lt h0
  have lt_h1 := hG.1.lt h1
  refine lv_aload_n S.1 S.2.1 dL_diff_0 rfl (lv_at hl 3 rfl) ?_
  refine lv_iconst (v := 0) S.1 S.2.1 dL_diff_1 (by decide) ?_
  refine lv_aload_n S.1 S.2.1 dL_diff_2 rfl (lv_at hl 0 rfl) ?_
  refine lv_iload_n S.1 S.2.1 dL_diff_3 rfl (lv_at hl 1 rfl) ?_
  refine lv_iload_n S.1 S.2.1 dL_diff_4 rfl (lv_at hl 2 rfl) ?_
  refine fx_xV (As := [.int 0, .int a2]) (rest := [.int 0, .ref (N0 + 229)]) S hG (k1425_X7_diff g_a2_le_m1 hst (by omega) h0 h1) h0 rfl (cwV 2 S.2.2.2.2 gL_diff_X7_diff rfl rfl rfl (by decide +kernel) ⟨Nat.le_of_ble_eq_true rfl, Nat.le_of_ble_eq_true rfl⟩) rfl hl.1 rfl (Nat.le_of_ble_eq_true rfl) dL_diff_5 ⟨Nat.le_of_ble_eq_true rfl, Nat.le_of_ble_eq_true rfl⟩ (fun ceq_1 q_1 H locs n_2 hn_2 hG h1q_1 h2q_1 h3q_1 => ?_)
  refine fx_catch (hh := [(0, 10, 13, 19)]) S htab hG h1q_1 h2q_1 h3q_1 [] ⟨0, 10, 13, 19⟩ [] rfl [] (fun z hz => absurd hz List.not_mem_nil) (by decide) (by decide) (by decide +kernel) (List.mem_of_getElem? (i := 2) rfl) ?_
  refine lv_astore (lv' := [(4, .ref q_1), (0, .ref N0), (1, .int 0), (2, .int a2), (3, .ref (N0 + 229))]) S.1 S.2.1 dL_diff_13 hl (by decide) rfl (fun ls hl => ?_)
  refine lv_iconst (v := 1) S.1 S.2.1 dL_diff_15 (by decide) ?_
  exact fx_iret S hr hlocks n_2 hG (⟨rfl, hn_2⟩) dL_diff_16
theorem k1427_X10_diff {n : Nat} {a2 : Int32} (g_a2_le_m1 : a2 ≤ (-1)) (hn : N0 + 231 ≤ n) (h0 : F (N0 + 164) = some (.inr (12, [.ref (N0 + 165), .int 0, .ref (N0 + 181), .int 0, .int 0, .int 0, .int (-1), .ref (ql 24), .ref (N0 + 182), .ref (N0 + 187), .ref (N0 + 208), .ref (N0 + 209), .ref (N0 + 210), .ref (N0 + 211), .ref (N0 + 212), .int 0, .ref (N0 + 213), .ref (N0 + 218), .ref (N0 + 223), .ref (N0 + 224), .ref (N0 + 225), .ref (N0 + 226), .ref (N0 + 227), .int 0, .int 0, .ref (N0 + 228), .null, .int (-1), .int 0, .int 0, .int 0]))) : Met l yX10_diff wsX10_diff ({ frames := 3, cells := 0, slots := 0, locals := 64 }) (va_Pc [.ref (N0 + 164), .int 0, .int a2] (fP N0 D vwCl (fty cI cC cL cD cII cTr cTm cIt cB) (fen ql) F n)) (fQi N0 D vwCl (fty cI cC cL cD cII cTr cTm cIt cB) (fun (r : Int32) (_ : Unit) => r = 0) (fun _ => (fu F (N0 + 164) (.inr (12, [.ref (N0 + 165), .int 1, .ref (N0 + 181), .int 0, .int 0, .int 0, .int (-1), .ref (ql 24), .ref (N0 + 182), .ref (N0 + 187), .ref (N0 + 208), .ref (N0 + 209), .ref (N0 + 210), .ref (N0 + 211), .ref (N0 + 212), .int 0, .ref (N0 + 213), .ref (N0 + 218), .ref (N0 + 223), .ref (N0 + 224), .ref (N0 + 225), .ref (N0 + 226), .ref (N0 + 227), .int 0, .int 0, .ref (N0 + 228), .null, .int (-1), .int 0, .int 0, .int 0])))) (fun _ => n)) 0 0 (fA N0) := by
  refine fx_start 4 rfl rfl (Nat.le_of_ble_eq_true rfl) ?_ rfl
  intro p e s m below meth c ls S hr hlocks hin hG hl
  have hl : lv_has ls 4 [(0, .ref (N0 + 164)), (1, .int 0), (2, .int a2)] := hl
  have lt_h0 := hG.1.lt h0
  refine lv_aload_n S.1 S.2.1 dX10_diff_0 rfl (lv_at hl 0 rfl) ?_
  refine lv_iload_n S.1 S.2.1 dX10_diff_1 rfl (lv_at hl 1 rfl) ?_
  refine lv_iload_n S.1 S.2.1 dX10_diff_2 rfl (lv_at hl 2 rfl) ?_
  refine fx_cVi (As := [.int 0, .int a2]) (rest := []) S hG (k455_X10_areNone g_a2_le_m1 (by omega) h0) h0 rfl (cwV 2 S.2.2.2.2 gX10_diff_X10_areNone rfl rfl rfl (by decide +kernel) ⟨Nat.le_of_ble_eq_true rfl, Nat.le_of_ble_eq_true rfl⟩) rfl hl.1 rfl (Nat.le_of_ble_eq_true rfl) dX10_diff_3 ⟨Nat.le_of_ble_eq_true rfl, Nat.le_of_ble_eq_true rfl⟩ (fun rv_1 _ H locs hp hG => ?_)
  subst rv_1
  refine lv_if_eq (tgt := 11) S.1 S.2.1 dX10_diff_6 (by decide) (fun c => absurd c (by decide)) (fun _ => ?_)
  refine lv_iconst (v := 0) S.1 S.2.1 dX10_diff_9 (by decide) ?_
  exact fx_iret S hr hlocks () hG (rfl) dX10_diff_10
theorem k1428_X5_copyFrom {n : Nat} (hn : N0 + 231 ≤ n) (h0 : F (N0 + 143) = some (.inr (7, [.ref (N0 + 144), .ref (N0 + 145), .ref (N0 + 146), .ref (N0 + 147), .ref (N0 + 148), .ref (N0 + 149), .int 1]))) (h1 : F (N0 + 66) = some (.inr (7, [.ref (N0 + 67), .ref (N0 + 68), .ref (N0 + 69), .ref (N0 + 70), .ref (N0 + 71), .ref (N0 + 72), .int 1]))) (h2 : F (N0 + 144) = some (.inl (cC, 20, .inl (upd (fun _ => 0) 0 97)))) (h3 : F (N0 + 67) = some (.inl (cC, 20, .inl (upd (fun _ => 0) 0 97)))) (h4 : F (N0 + 145) = some (.inl (cI, 20, .inl (fun _ => 0)))) (h5 : F (N0 + 68) = some (.inl (cI, 20, .inl (fun _ => 0)))) (h6 : F (N0 + 146) = some (.inl (cI, 20, .inl (fun _ => 0)))) (h7 : F (N0 + 69) = some (.inl (cI, 20, .inl (fun _ => 0)))) (h8 : F (N0 + 147) = some (.inl (cI, 20, .inl (upd (fun _ => 0) 0 (-1))))) (h9 : F (N0 + 70) = some (.inl (cI, 20, .inl (upd (fun _ => 0) 0 (-1))))) : Met l yX5_copyFrom wsX5_copyFrom ({ frames := 1, cells := 0, slots := 0, locals := 40 }) (va_Pc [.ref (N0 + 66), .ref (N0 + 143)] (fP N0 D vwCl (fty cI cC cL cD cII cTr cTm cIt cB) (fen ql) F n)) (fQv N0 D vwCl (fty cI cC cL cD cII cTr cTm cIt cB) (fun (_ : Unit) => True) (fun _ => (fu (fu (fu (fu (fu F (N0 + 67) (.inl (cC, 20, .inl (upd (fun _ => 0) 0 97)))) (N0 + 68) (.inl (cI, 20, .inl (fun _ => 0)))) (N0 + 69) (.inl (cI, 20, .inl (fun _ => 0)))) (N0 + 70) (.inl (cI, 20, .inl (upd (fun _ => 0) 0 (-1))))) (N0 + 66) (.inr (7, [.ref (N0 + 67), .ref (N0 + 68), .ref (N0 + 69), .ref (N0 + 70), .ref (N0 + 71), .ref (N0 + 72), .int 1])))) (fun _ => n)) 0 0 (fA N0) := by
  refine fx_start 2 rfl rfl (Nat.le_of_ble_eq_true rfl) ?_ rfl
  intro p e s m below meth c ls S hr hlocks hin hG hl
  have hl : lv_has ls 2 [(0, .ref (N0 + 66)), (1, .ref (N0 + 143))] := hl
  have lt_h0 := hG.1.lt h0
  have lt_h1 := hG.1.lt h1
  have lt_h2 := hG.1.lt h2
  have lt_h3 := hG.1.lt h3
  have lt_h4 := hG.1.lt h4
  have lt_h5 := hG.1.lt h5
  have lt_h6 := hG.1.lt h6
  have lt_h7 := hG.1.lt h7
  have lt_h8 := hG.1.lt h8
  have lt_h9 := hG.1.lt h9
  refine lv_aload_n S.1 S.2.1 dX5_copyFrom_0 rfl (lv_at hl 1 rfl) ?_
  refine gx_get (C := RX5) (T := TX5) (N := 7) S hG h0 i_X5_copyFrom_X5 rfl 0 (by decide) (by decide +kernel) rfl dX5_copyFrom_1 ?_
  refine lv_iconst (v := 0) S.1 S.2.1 dX5_copyFrom_4 (by decide) ?_
  refine lv_aload_n S.1 S.2.1 dX5_copyFrom_5 rfl (lv_at hl 0 rfl) ?_
  refine gx_get (C := RX5) (T := TX5) (N := 7) S hG h1 i_X5_copyFrom_X5 rfl 0 (by decide) (by decide +kernel) rfl dX5_copyFrom_6 ?_
  refine lv_iconst (v := 0) S.1 S.2.1 dX5_copyFrom_9 (by decide) ?_
  refine lv_bipush (v := 20) S.1 S.2.1 dX5_copyFrom_10 (by decide) ?_
  refine gx_copyi (f' := upd (fun _ => 0) 0 97) S hG hl.1 (by decide +kernel) (by decide +kernel) (by decide +kernel) (by decide +kernel) 1 h2 h3 rfl rfl (by decide) (by decide) (by decide) (by decide) (by decide) (fun i _ => (ffitU ffit0 (by decide)) _) (Nat.le_of_ble_eq_true rfl) (Nat.le_of_ble_eq_true rfl) dX5_copyFrom_12 fcpy_same (fun H locs hG => ?_)
  refine lv_aload_n S.1 S.2.1 dX5_copyFrom_15 rfl (lv_at hl 1 rfl) ?_
  refine gx_get (C := RX5) (T := TX5) (N := 7) S hG (fu_at (by omega) h0) i_X5_copyFrom_X5 rfl 1 (by decide) (by decide +kernel) rfl dX5_copyFrom_16 ?_
  refine lv_iconst (v := 0) S.1 S.2.1 dX5_copyFrom_19 (by decide) ?_
  refine lv_aload_n S.1 S.2.1 dX5_copyFrom_20 rfl (lv_at hl 0 rfl) ?_
  refine gx_get (C := RX5) (T := TX5) (N := 7) S hG (fu_at (by omega) h1) i_X5_copyFrom_X5 rfl 1 (by decide) (by decide +kernel) rfl dX5_copyFrom_21 ?_
  refine lv_iconst (v := 0) S.1 S.2.1 dX5_copyFrom_24 (by decide) ?_
  refine lv_bipush (v := 20) S.1 S.2.1 dX5_copyFrom_25 (by decide) ?_
  refine gx_copyi (f' := fun _ => 0) S hG hl.1 (by decide +kernel) (by decide +kernel) (by decide +kernel) (by decide +kernel) 0 (fu_at (by omega) h4) (fu_at (by omega) h5) rfl rfl (by decide) (by decide) (by decide) (by decide) (by decide) (fun i _ => rfl) (Nat.le_of_ble_eq_true rfl) (Nat.le_of_ble_eq_true rfl) dX5_copyFrom_27 fcpy_same (fun H locs hG => ?_)
  refine lv_aload_n S.1 S.2.1 dX5_copyFrom_30 rfl (lv_at hl 1 rfl) ?_
  refine gx_get (C := RX5) (T := TX5) (N := 7) S hG (fu_at (by omega) (fu_at (by omega) h0)) i_X5_copyFrom_X5 rfl 2 (by decide) (by decide +kernel) rfl dX5_copyFrom_31 ?_
  refine lv_iconst (v := 0) S.1 S.2.1 dX5_copyFrom_34 (by decide) ?_
  refine lv_aload_n S.1 S.2.1 dX5_copyFrom_35 rfl (lv_at hl 0 rfl) ?_
  refine gx_get (C := RX5) (T := TX5) (N := 7) S hG (fu_at (by omega) (fu_at (by omega) h1)) i_X5_copyFrom_X5 rfl 2 (by decide) (by decide +kernel) rfl dX5_copyFrom_36 ?_
  refine lv_iconst (v := 0) S.1 S.2.1 dX5_copyFrom_39 (by decide) ?_
  refine lv_bipush (v := 20) S.1 S.2.1 dX5_copyFrom_40 (by decide) ?_
  refine gx_copyi (f' := fun _ => 0) S hG hl.1 (by decide +kernel) (by decide +kernel) (by decide +kernel) (by decide +kernel) 0 (fu_at (by omega) (fu_at (by omega) h6)) (fu_at (by omega) (fu_at (by omega) h7)) rfl rfl (by decide) (by decide) (by decide) (by decide) (by decide) (fun i _ => rfl) (Nat.le_of_ble_eq_true rfl) (Nat.le_of_ble_eq_true rfl) dX5_copyFrom_42 fcpy_same (fun H locs hG => ?_)
  refine lv_aload_n S.1 S.2.1 dX5_copyFrom_45 rfl (lv_at hl 1 rfl) ?_
  refine gx_get (C := RX5) (T := TX5) (N := 7) S hG (fu_at (by omega) (fu_at (by omega) (fu_at (by omega) h0))) i_X5_copyFrom_X5 rfl 3 (by decide) (by decide +kernel) rfl dX5_copyFrom_46 ?_
  refine lv_iconst (v := 0) S.1 S.2.1 dX5_copyFrom_49 (by decide) ?_
  refine lv_aload_n S.1 S.2.1 dX5_copyFrom_50 rfl (lv_at hl 0 rfl) ?_
  refine gx_get (C := RX5) (T := TX5) (N := 7) S hG (fu_at (by omega) (fu_at (by omega) (fu_at (by omega) h1))) i_X5_copyFrom_X5 rfl 3 (by decide) (by decide +kernel) rfl dX5_copyFrom_51 ?_
  refine lv_iconst (v := 0) S.1 S.2.1 dX5_copyFrom_54 (by decide) ?_
  refine lv_bipush (v := 20) S.1 S.2.1 dX5_copyFrom_55 (by decide) ?_
  refine gx_copyi (f' := upd (fun _ => 0) 0 (-1)) S hG hl.1 (by decide +kernel) (by decide +kernel) (by decide +kernel) (by decide +kernel) 0 (fu_at (by omega) (fu_at (by omega) (fu_at (by omega) h8))) (fu_at (by omega) (fu_at (by omega) (fu_at (by omega) h9))) rfl rfl (by decide) (by decide) (by decide) (by decide) (by decide) (fun i _ => rfl) (Nat.le_of_ble_eq_true rfl) (Nat.le_of_ble_eq_true rfl) dX5_copyFrom_57 fcpy_same (fun H locs hG => ?_)
  refine lv_aload_n S.1 S.2.1 dX5_copyFrom_60 rfl (lv_at hl 0 rfl) ?_
  refine lv_aload_n S.1 S.2.1 dX5_copyFrom_61 rfl (lv_at hl 1 rfl) ?_
  refine gx_get (C := RX5) (T := TX5) (N := 7) S hG (fu_at (by omega) (fu_at (by omega) (fu_at (by omega) (fu_at (by omega) h0)))) i_X5_copyFrom_X5 rfl 6 (by decide) (by decide +kernel) rfl dX5_copyFrom_62 ?_
  refine gx_put (C := RX5) (T := TX5) (N := 7) (ty := .int) (v := .int 1) (fs' := [.ref (N0 + 67), .ref (N0 + 68), .ref (N0 + 69), .ref (N0 + 70), .ref (N0 + 71), .ref (N0 + 72), .int 1]) S hG (fu_at (by omega) (fu_at (by omega) (fu_at (by omega) (fu_at (by omega) h1)))) i_X5_copyFrom_X5 rfl 6 (by decide) tyX5 tyX5_ok nmX5 (by decide +kernel) rfl (by decide +kernel) rfl rfl (Nat.le_of_ble_eq_true rfl) rfl dX5_copyFrom_65 (fun H locs hG => ?_)
  exact fx_vret S hr hlocks () hG trivial dX5_copyFrom_68
theorem k1429_X5_copyFrom {n : Nat} (hn : N0 + 231 ≤ n) (h0 : F (N0 + 143) = some (.inr (7, [.ref (N0 + 144), .ref (N0 + 145), .ref (N0 + 146), .ref (N0 + 147), .ref (N0 + 148), .ref (N0 + 149), .int 1]))) (h1 : F (N0 + 73) = some (.inr (7, [.ref (N0 + 74), .ref (N0 + 75), .ref (N0 + 76), .ref (N0 + 77), .ref (N0 + 78), .ref (N0 + 79), .int 1]))) (h2 : F (N0 + 144) = some (.inl (cC, 20, .inl (upd (fun _ => 0) 0 97)))) (h3 : F (N0 + 74) = some (.inl (cC, 20, .inl (upd (fun _ => 0) 0 97)))) (h4 : F (N0 + 145) = some (.inl (cI, 20, .inl (fun _ => 0)))) (h5 : F (N0 + 75) = some (.inl (cI, 20, .inl (fun _ => 0)))) (h6 : F (N0 + 146) = some (.inl (cI, 20, .inl (fun _ => 0)))) (h7 : F (N0 + 76) = some (.inl (cI, 20, .inl (fun _ => 0)))) (h8 : F (N0 + 147) = some (.inl (cI, 20, .inl (upd (fun _ => 0) 0 (-1))))) (h9 : F (N0 + 77) = some (.inl (cI, 20, .inl (upd (fun _ => 0) 0 (-1))))) : Met l yX5_copyFrom wsX5_copyFrom ({ frames := 1, cells := 0, slots := 0, locals := 40 }) (va_Pc [.ref (N0 + 73), .ref (N0 + 143)] (fP N0 D vwCl (fty cI cC cL cD cII cTr cTm cIt cB) (fen ql) F n)) (fQv N0 D vwCl (fty cI cC cL cD cII cTr cTm cIt cB) (fun (_ : Unit) => True) (fun _ => (fu (fu (fu (fu (fu F (N0 + 74) (.inl (cC, 20, .inl (upd (fun _ => 0) 0 97)))) (N0 + 75) (.inl (cI, 20, .inl (fun _ => 0)))) (N0 + 76) (.inl (cI, 20, .inl (fun _ => 0)))) (N0 + 77) (.inl (cI, 20, .inl (upd (fun _ => 0) 0 (-1))))) (N0 + 73) (.inr (7, [.ref (N0 + 74), .ref (N0 + 75), .ref (N0 + 76), .ref (N0 + 77), .ref (N0 + 78), .ref (N0 + 79), .int 1])))) (fun _ => n)) 0 0 (fA N0) := by
  refine fx_start 2 rfl rfl (Nat.le_of_ble_eq_true rfl) ?_ rfl
  intro p e s m below meth c ls S hr hlocks hin hG hl
  have hl : lv_has ls 2 [(0, .ref (N0 + 73)), (1, .ref (N0 + 143))] := hl
  have lt_h0 := hG.1.lt h0
  have lt_h1 := hG.1.lt h1
  have lt_h2 := hG.1.lt h2
  have lt_h3 := hG.1.lt h3
  have lt_h4 := hG.1.lt h4
  have lt_h5 := hG.1.lt h5
  have lt_h6 := hG.1.lt h6
  have lt_h7 := hG.1.lt h7
  have lt_h8 := hG.1.lt h8
  have lt_h9 := hG.1.lt h9
  refine lv_aload_n S.1 S.2.1 dX5_copyFrom_0 rfl (lv_at hl 1 rfl) ?_
  refine gx_get (C := RX5) (T := TX5) (N := 7) S hG h0 i_X5_copyFrom_X5 rfl 0 (by decide) (by decide +kernel) rfl dX5_copyFrom_1 ?_
  refine lv_iconst (v := 0) S.1 S.2.1 dX5_copyFrom_4 (by decide) ?_
  refine lv_aload_n S.1 S.2.1 dX5_copyFrom_5 rfl (lv_at hl 0 rfl) ?_
  refine gx_get (C := RX5) (T := TX5) (N := 7) S hG h1 i_X5_copyFrom_X5 rfl 0 (by decide) (by decide +kernel) rfl dX5_copyFrom_6 ?_
  refine lv_iconst (v := 0) S.1 S.2.1 dX5_copyFrom_9 (by decide) ?_
  refine lv_bipush (v := 20) S.1 S.2.1 dX5_copyFrom_10 (by decide) ?_
  refine gx_copyi (f' := upd (fun _ => 0) 0 97) S hG hl.1 (by decide +kernel) (by decide +kernel) (by decide +kernel) (by decide +kernel) 1 h2 h3 rfl rfl (by decide) (by decide) (by decide) (by decide) (by decide) (fun i _ => (ffitU ffit0 (by decide)) _) (Nat.le_of_ble_eq_true rfl) (Nat.le_of_ble_eq_true rfl) dX5_copyFrom_12 fcpy_same (fun H locs hG => ?_)
  refine lv_aload_n S.1 S.2.1 dX5_copyFrom_15 rfl (lv_at hl 1 rfl) ?_
  refine gx_get (C := RX5) (T := TX5) (N := 7) S hG (fu_at (by omega) h0) i_X5_copyFrom_X5 rfl 1 (by decide) (by decide +kernel) rfl dX5_copyFrom_16 ?_
  refine lv_iconst (v := 0) S.1 S.2.1 dX5_copyFrom_19 (by decide) ?_
  refine lv_aload_n S.1 S.2.1 dX5_copyFrom_20 rfl (lv_at hl 0 rfl) ?_
  refine gx_get (C := RX5) (T := TX5) (N := 7) S hG (fu_at (by omega) h1) i_X5_copyFrom_X5 rfl 1 (by decide) (by decide +kernel) rfl dX5_copyFrom_21 ?_
  refine lv_iconst (v := 0) S.1 S.2.1 dX5_copyFrom_24 (by decide) ?_
  refine lv_bipush (v := 20) S.1 S.2.1 dX5_copyFrom_25 (by decide) ?_
  refine gx_copyi (f' := fun _ => 0) S hG hl.1 (by decide +kernel) (by decide +kernel) (by decide +kernel) (by decide +kernel) 0 (fu_at (by omega) h4) (fu_at (by omega) h5) rfl rfl (by decide) (by decide) (by decide) (by decide) (by decide) (fun i _ => rfl) (Nat.le_of_ble_eq_true rfl) (Nat.le_of_ble_eq_true rfl) dX5_copyFrom_27 fcpy_same (fun H locs hG => ?_)
  refine lv_aload_n S.1 S.2.1 dX5_copyFrom_30 rfl (lv_at hl 1 rfl) ?_
  refine gx_get (C := RX5) (T := TX5) (N := 7) S hG (fu_at (by omega) (fu_at (by omega) h0)) i_X5_copyFrom_X5 rfl 2 (by decide) (by decide +kernel) rfl dX5_copyFrom_31 ?_
  refine lv_iconst (v := 0) S.1 S.2.1 dX5_copyFrom_34 (by decide) ?_
  refine lv_aload_n S.1 S.2.1 dX5_copyFrom_35 rfl (lv_at hl 0 rfl) ?_
  refine gx_get (C := RX5) (T := TX5) (N := 7) S hG (fu_at (by omega) (fu_at (by omega) h1)) i_X5_copyFrom_X5 rfl 2 (by decide) (by decide +kernel) rfl dX5_copyFrom_36 ?_
  refine lv_iconst (v := 0) S.1 S.2.1 dX5_copyFrom_39 (by decide) ?_
  refine lv_bipush (v := 20) S.1 S.2.1 dX5_copyFrom_40 (by decide) ?_
  refine gx_copyi (f' := fun _ => 0) S hG hl.1 (by decide +kernel) (by decide +kernel) (by decide +kernel) (by decide +kernel) 0 (fu_at (by omega) (fu_at (by omega) h6)) (fu_at (by omega) (fu_at (by omega) h7)) rfl rfl (by decide) (by decide) (by decide) (by decide) (by decide) (fun i _ => rfl) (Nat.le_of_ble_eq_true rfl) (Nat.le_of_ble_eq_true rfl) dX5_copyFrom_42 fcpy_same (fun H locs hG => ?_)
  refine lv_aload_n S.1 S.2.1 dX5_copyFrom_45 rfl (lv_at hl 1 rfl) ?_
  refine gx_get (C := RX5) (T := TX5) (N := 7) S hG (fu_at (by omega) (fu_at (by omega) (fu_at (by omega) h0))) i_X5_copyFrom_X5 rfl 3 (by decide) (by decide +kernel) rfl dX5_copyFrom_46 ?_
  refine lv_iconst (v := 0) S.1 S.2.1 dX5_copyFrom_49 (by decide) ?_
  refine lv_aload_n S.1 S.2.1 dX5_copyFrom_50 rfl (lv_at hl 0 rfl) ?_
  refine gx_get (C := RX5) (T := TX5) (N := 7) S hG (fu_at (by omega) (fu_at (by omega) (fu_at (by omega) h1))) i_X5_copyFrom_X5 rfl 3 (by decide) (by decide +kernel) rfl dX5_copyFrom_51 ?_
  refine lv_iconst (v := 0) S.1 S.2.1 dX5_copyFrom_54 (by decide) ?_
  refine lv_bipush (v := 20) S.1 S.2.1 dX5_copyFrom_55 (by decide) ?_
  refine gx_copyi (f' := upd (fun _ => 0) 0 (-1)) S hG hl.1 (by decide +kernel) (by decide +kernel) (by decide +kernel) (by decide +kernel) 0 (fu_at (by omega) (fu_at (by omega) (fu_at (by omega) h8))) (fu_at (by omega) (fu_at (by omega) (fu_at (by omega) h9))) rfl rfl (by decide) (by decide) (by decide) (by decide) (by decide) (fun i _ => rfl) (Nat.le_of_ble_eq_true rfl) (Nat.le_of_ble_eq_true rfl) dX5_copyFrom_57 fcpy_same (fun H locs hG => ?_)
  refine lv_aload_n S.1 S.2.1 dX5_copyFrom_60 rfl (lv_at hl 0 rfl) ?_
  refine lv_aload_n S.1 S.2.1 dX5_copyFrom_61 rfl (lv_at hl 1 rfl) ?_
  refine gx_get (C := RX5) (T := TX5) (N := 7) S hG (fu_at (by omega) (fu_at (by omega) (fu_at (by omega) (fu_at (by omega) h0)))) i_X5_copyFrom_X5 rfl 6 (by decide) (by decide +kernel) rfl dX5_copyFrom_62 ?_
  refine gx_put (C := RX5) (T := TX5) (N := 7) (ty := .int) (v := .int 1) (fs' := [.ref (N0 + 74), .ref (N0 + 75), .ref (N0 + 76), .ref (N0 + 77), .ref (N0 + 78), .ref (N0 + 79), .int 1]) S hG (fu_at (by omega) (fu_at (by omega) (fu_at (by omega) (fu_at (by omega) h1)))) i_X5_copyFrom_X5 rfl 6 (by decide) tyX5 tyX5_ok nmX5 (by decide +kernel) rfl (by decide +kernel) rfl rfl (Nat.le_of_ble_eq_true rfl) rfl dX5_copyFrom_65 (fun H locs hG => ?_)
  exact fx_vret S hr hlocks () hG trivial dX5_copyFrom_68
theorem k1430_X5_widthOf {n : Nat} (hn : N0 + 231 ≤ n) (h0 : F (N0 + 66) = some (.inr (7, [.ref (N0 + 67), .ref (N0 + 68), .ref (N0 + 69), .ref (N0 + 70), .ref (N0 + 71), .ref (N0 + 72), .int 1]))) : Met l yX5_widthOf wsX5_widthOf ({ frames := 0, cells := 0, slots := 0, locals := 0 }) (va_Pc [.ref (N0 + 66), .int 0] (fP N0 D vwCl (fty cI cC cL cD cII cTr cTm cIt cB) (fen ql) F n)) (fQi N0 D vwCl (fty cI cC cL cD cII cTr cTm cIt cB) (fun (r : Int32) (_ : Unit) => r = 1) (fun _ => F) (fun _ => n)) 0 0 (fA N0) := by
  refine fx_start 3 rfl rfl (Nat.le_of_ble_eq_true rfl) ?_ rfl
  intro p e s m below meth c ls S hr hlocks hin hG hl
  have hl : lv_has ls 3 [(0, .ref (N0 + 66)), (1, .int 0)] := hl
  have lt_h0 := hG.1.lt h0
  refine lv_iload_n S.1 S.2.1 dX5_widthOf_0 rfl (lv_at hl 1 rfl) ?_
  refine lv_iconst (v := 1) S.1 S.2.1 dX5_widthOf_1 (by decide) ?_
  refine lv_iadd S.1 S.2.1 dX5_widthOf_2 ?_
  refine fx_topi (y := 1) (by decide) ?_
  refine lv_istore_n (lv' := [(2, .int 1), (0, .ref (N0 + 66)), (1, .int 0)]) S.1 S.2.1 dX5_widthOf_3 rfl hl (by decide) rfl (fun ls hl => ?_)
  refine lv_iload_n S.1 S.2.1 dX5_widthOf_4 rfl (lv_at hl 0 rfl) ?_
  refine lv_aload_n S.1 S.2.1 dX5_widthOf_5 rfl (lv_at hl 1 rfl) ?_
  refine gx_get (C := RX5) (T := TX5) (N := 7) S hG h0 i_X5_widthOf_X5 rfl 6 (by decide) (by decide +kernel) rfl dX5_widthOf_6 ?_
  refine lv_icmp_ge (tgt := 28) S.1 S.2.1 dX5_widthOf_9 (by decide) (fun _ => ?_) (fun c => absurd (by decide) c)
  refine lv_iload_n S.1 S.2.1 dX5_widthOf_28 rfl (lv_at hl 0 rfl) ?_
  refine lv_iload_n S.1 S.2.1 dX5_widthOf_29 rfl (lv_at hl 2 rfl) ?_
  refine lv_isub S.1 S.2.1 dX5_widthOf_30 ?_
  refine fx_topi (y := 1) (by decide) ?_
  exact fx_iret S hr hlocks () hG (rfl) dX5_widthOf_31
theorem k1431_X5_listWidths {n : Nat} (hn : N0 + 231 ≤ n) (h0 : F (N0 + 66) = some (.inr (7, [.ref (N0 + 67), .ref (N0 + 68), .ref (N0 + 69), .ref (N0 + 70), .ref (N0 + 71), .ref (N0 + 72), .int 1]))) (h1 : F (N0 + 57) = some (.inl (cI, 20, .inl (fun _ => 0)))) : Met l yX5_listWidths wsX5_listWidths ({ frames := 1, cells := 0, slots := 0, locals := 22 }) (va_Pc [.ref (N0 + 66), .ref (N0 + 57)] (fP N0 D vwCl (fty cI cC cL cD cII cTr cTm cIt cB) (fen ql) F n)) (fQv N0 D vwCl (fty cI cC cL cD cII cTr cTm cIt cB) (fun (_ : Unit) => True) (fun _ => (fu F (N0 + 57) (.inl (cI, 20, .inl (upd (fun _ => 0) 0 1))))) (fun _ => n)) 0 0 (fA N0) := by
  refine fx_start 3 rfl rfl (Nat.le_of_ble_eq_true rfl) ?_ rfl
  intro p e s m below meth c ls S hr hlocks hin hG hl
  have hl : lv_has ls 3 [(0, .ref (N0 + 66)), (1, .ref (N0 + 57))] := hl
  have lt_h0 := hG.1.lt h0
  have lt_h1 := hG.1.lt h1
  refine lv_iconst (v := 0) S.1 S.2.1 dX5_listWidths_0 (by decide) ?_
  refine lv_istore_n (lv' := [(2, .int 0), (0, .ref (N0 + 66)), (1, .ref (N0 + 57))]) S.1 S.2.1 dX5_listWidths_1 rfl hl (by decide) rfl (fun ls hl => ?_)
  refine lv_iload_n S.1 S.2.1 dX5_listWidths_2 rfl (lv_at hl 0 rfl) ?_
  refine lv_aload_n S.1 S.2.1 dX5_listWidths_3 rfl (lv_at hl 1 rfl) ?_
  refine gx_get (C := RX5) (T := TX5) (N := 7) S hG h0 i_X5_listWidths_X5 rfl 6 (by decide) (by decide +kernel) rfl dX5_listWidths_4 ?_
  refine lv_icmp_ge (tgt := 30) S.1 S.2.1 dX5_listWidths_7 (by decide) (fun c => absurd c (by decide)) (fun _ => ?_)
  refine lv_iload_n S.1 S.2.1 dX5_listWidths_10 rfl (lv_at hl 0 rfl) ?_
  refine lv_aload_n S.1 S.2.1 dX5_listWidths_11 rfl (lv_at hl 2 rfl) ?_
  refine gx_alen (v := 20) S hG 0 h1 rfl (rfl) dX5_listWidths_12 ?_
  refine lv_icmp_ge (tgt := 30) S.1 S.2.1 dX5_listWidths_13 (by decide) (fun c => absurd c (by decide)) (fun _ => ?_)
  refine lv_aload_n S.1 S.2.1 dX5_listWidths_16 rfl (lv_at hl 2 rfl) ?_
  refine lv_iload_n S.1 S.2.1 dX5_listWidths_17 rfl (lv_at hl 0 rfl) ?_
  refine lv_aload_n S.1 S.2.1 dX5_listWidths_18 rfl (lv_at hl 1 rfl) ?_
  refine lv_iload_n S.1 S.2.1 dX5_listWidths_19 rfl (lv_at hl 0 rfl) ?_
  refine fx_cVi (As := [.int 0]) (rest := [.int 0, .ref (N0 + 57)]) S hG (k1430_X5_widthOf (by omega) h0) h0 rfl (cwV 1 S.2.2.2.2 gX5_listWidths_X5_widthOf rfl rfl rfl (by decide +kernel) ⟨Nat.le_of_ble_eq_true rfl, Nat.le_of_ble_eq_true rfl⟩) rfl hl.1 rfl (Nat.le_of_ble_eq_true rfl) dX5_listWidths_20 ⟨Nat.le_of_ble_eq_true rfl, Nat.le_of_ble_eq_true rfl⟩ (fun rv_1 _ H locs hp hG => ?_)
  subst rv_1
  refine gx_iast (f' := upd (fun _ => 0) 0 1) S hG 0 h1 rfl (fin_l (by decide)) dX5_listWidths_23 (rfl) (fun H locs hG => ?_)
  refine lv_iinc (v := 1) (lv' := [(2, .int 1), (0, .ref (N0 + 66)), (1, .ref (N0 + 57))]) S.1 S.2.1 dX5_listWidths_24 hl (k := 0) rfl (by decide) (by decide) rfl (fun ls hl => ?_)
  refine lv_goto (tgt := 2) S.1 S.2.1 dX5_listWidths_27 (by decide) ?_
  refine lv_iload_n S.1 S.2.1 dX5_listWidths_2 rfl (lv_at hl 0 rfl) ?_
  refine lv_aload_n S.1 S.2.1 dX5_listWidths_3 rfl (lv_at hl 1 rfl) ?_
  refine gx_get (C := RX5) (T := TX5) (N := 7) S hG (fu_at (by omega) h0) i_X5_listWidths_X5 rfl 6 (by decide) (by decide +kernel) rfl dX5_listWidths_4 ?_
  refine lv_icmp_ge (tgt := 30) S.1 S.2.1 dX5_listWidths_7 (by decide) (fun _ => ?_) (fun c => absurd (by decide) c)
  exact fx_vret S hr hlocks () hG trivial dX5_listWidths_30
theorem k1432_X5_widthOf {n : Nat} (hn : N0 + 231 ≤ n) (h0 : F (N0 + 73) = some (.inr (7, [.ref (N0 + 74), .ref (N0 + 75), .ref (N0 + 76), .ref (N0 + 77), .ref (N0 + 78), .ref (N0 + 79), .int 1]))) : Met l yX5_widthOf wsX5_widthOf ({ frames := 0, cells := 0, slots := 0, locals := 0 }) (va_Pc [.ref (N0 + 73), .int 0] (fP N0 D vwCl (fty cI cC cL cD cII cTr cTm cIt cB) (fen ql) F n)) (fQi N0 D vwCl (fty cI cC cL cD cII cTr cTm cIt cB) (fun (r : Int32) (_ : Unit) => r = 1) (fun _ => F) (fun _ => n)) 0 0 (fA N0) := by
  refine fx_start 3 rfl rfl (Nat.le_of_ble_eq_true rfl) ?_ rfl
  intro p e s m below meth c ls S hr hlocks hin hG hl
  have hl : lv_has ls 3 [(0, .ref (N0 + 73)), (1, .int 0)] := hl
  have lt_h0 := hG.1.lt h0
  refine lv_iload_n S.1 S.2.1 dX5_widthOf_0 rfl (lv_at hl 1 rfl) ?_
  refine lv_iconst (v := 1) S.1 S.2.1 dX5_widthOf_1 (by decide) ?_
  refine lv_iadd S.1 S.2.1 dX5_widthOf_2 ?_
  refine fx_topi (y := 1) (by decide) ?_
  refine lv_istore_n (lv' := [(2, .int 1), (0, .ref (N0 + 73)), (1, .int 0)]) S.1 S.2.1 dX5_widthOf_3 rfl hl (by decide) rfl (fun ls hl => ?_)
  refine lv_iload_n S.1 S.2.1 dX5_widthOf_4 rfl (lv_at hl 0 rfl) ?_
  refine lv_aload_n S.1 S.2.1 dX5_widthOf_5 rfl (lv_at hl 1 rfl) ?_
  refine gx_get (C := RX5) (T := TX5) (N := 7) S hG h0 i_X5_widthOf_X5 rfl 6 (by decide) (by decide +kernel) rfl dX5_widthOf_6 ?_
  refine lv_icmp_ge (tgt := 28) S.1 S.2.1 dX5_widthOf_9 (by decide) (fun _ => ?_) (fun c => absurd (by decide) c)
  refine lv_iload_n S.1 S.2.1 dX5_widthOf_28 rfl (lv_at hl 0 rfl) ?_
  refine lv_iload_n S.1 S.2.1 dX5_widthOf_29 rfl (lv_at hl 2 rfl) ?_
  refine lv_isub S.1 S.2.1 dX5_widthOf_30 ?_
  refine fx_topi (y := 1) (by decide) ?_
  exact fx_iret S hr hlocks () hG (rfl) dX5_widthOf_31
theorem k1433_X5_listWidths {n : Nat} (hn : N0 + 231 ≤ n) (h0 : F (N0 + 73) = some (.inr (7, [.ref (N0 + 74), .ref (N0 + 75), .ref (N0 + 76), .ref (N0 + 77), .ref (N0 + 78), .ref (N0 + 79), .int 1]))) (h1 : F (N0 + 58) = some (.inl (cI, 20, .inl (fun _ => 0)))) : Met l yX5_listWidths wsX5_listWidths ({ frames := 1, cells := 0, slots := 0, locals := 22 }) (va_Pc [.ref (N0 + 73), .ref (N0 + 58)] (fP N0 D vwCl (fty cI cC cL cD cII cTr cTm cIt cB) (fen ql) F n)) (fQv N0 D vwCl (fty cI cC cL cD cII cTr cTm cIt cB) (fun (_ : Unit) => True) (fun _ => (fu F (N0 + 58) (.inl (cI, 20, .inl (upd (fun _ => 0) 0 1))))) (fun _ => n)) 0 0 (fA N0) := by
  refine fx_start 3 rfl rfl (Nat.le_of_ble_eq_true rfl) ?_ rfl
  intro p e s m below meth c ls S hr hlocks hin hG hl
  have hl : lv_has ls 3 [(0, .ref (N0 + 73)), (1, .ref (N0 + 58))] := hl
  have lt_h0 := hG.1.lt h0
  have lt_h1 := hG.1.lt h1
  refine lv_iconst (v := 0) S.1 S.2.1 dX5_listWidths_0 (by decide) ?_
  refine lv_istore_n (lv' := [(2, .int 0), (0, .ref (N0 + 73)), (1, .ref (N0 + 58))]) S.1 S.2.1 dX5_listWidths_1 rfl hl (by decide) rfl (fun ls hl => ?_)
  refine lv_iload_n S.1 S.2.1 dX5_listWidths_2 rfl (lv_at hl 0 rfl) ?_
  refine lv_aload_n S.1 S.2.1 dX5_listWidths_3 rfl (lv_at hl 1 rfl) ?_
  refine gx_get (C := RX5) (T := TX5) (N := 7) S hG h0 i_X5_listWidths_X5 rfl 6 (by decide) (by decide +kernel) rfl dX5_listWidths_4 ?_
  refine lv_icmp_ge (tgt := 30) S.1 S.2.1 dX5_listWidths_7 (by decide) (fun c => absurd c (by decide)) (fun _ => ?_)
  refine lv_iload_n S.1 S.2.1 dX5_listWidths_10 rfl (lv_at hl 0 rfl) ?_
  refine lv_aload_n S.1 S.2.1 dX5_listWidths_11 rfl (lv_at hl 2 rfl) ?_
  refine gx_alen (v := 20) S hG 0 h1 rfl (rfl) dX5_listWidths_12 ?_
  refine lv_icmp_ge (tgt := 30) S.1 S.2.1 dX5_listWidths_13 (by decide) (fun c => absurd c (by decide)) (fun _ => ?_)
  refine lv_aload_n S.1 S.2.1 dX5_listWidths_16 rfl (lv_at hl 2 rfl) ?_
  refine lv_iload_n S.1 S.2.1 dX5_listWidths_17 rfl (lv_at hl 0 rfl) ?_
  refine lv_aload_n S.1 S.2.1 dX5_listWidths_18 rfl (lv_at hl 1 rfl) ?_
  refine lv_iload_n S.1 S.2.1 dX5_listWidths_19 rfl (lv_at hl 0 rfl) ?_
  refine fx_cVi (As := [.int 0]) (rest := [.int 0, .ref (N0 + 58)]) S hG (k1432_X5_widthOf (by omega) h0) h0 rfl (cwV 1 S.2.2.2.2 gX5_listWidths_X5_widthOf rfl rfl rfl (by decide +kernel) ⟨Nat.le_of_ble_eq_true rfl, Nat.le_of_ble_eq_true rfl⟩) rfl hl.1 rfl (Nat.le_of_ble_eq_true rfl) dX5_listWidths_20 ⟨Nat.le_of_ble_eq_true rfl, Nat.le_of_ble_eq_true rfl⟩ (fun rv_1 _ H locs hp hG => ?_)
  subst rv_1
  refine gx_iast (f' := upd (fun _ => 0) 0 1) S hG 0 h1 rfl (fin_l (by decide)) dX5_listWidths_23 (rfl) (fun H locs hG => ?_)
  refine lv_iinc (v := 1) (lv' := [(2, .int 1), (0, .ref (N0 + 73)), (1, .ref (N0 + 58))]) S.1 S.2.1 dX5_listWidths_24 hl (k := 0) rfl (by decide) (by decide) rfl (fun ls hl => ?_)
  refine lv_goto (tgt := 2) S.1 S.2.1 dX5_listWidths_27 (by decide) ?_
  refine lv_iload_n S.1 S.2.1 dX5_listWidths_2 rfl (lv_at hl 0 rfl) ?_
  refine lv_aload_n S.1 S.2.1 dX5_listWidths_3 rfl (lv_at hl 1 rfl) ?_
  refine gx_get (C := RX5) (T := TX5) (N := 7) S hG (fu_at (by omega) h0) i_X5_listWidths_X5 rfl 6 (by decide) (by decide +kernel) rfl dX5_listWidths_4 ?_
  refine lv_icmp_ge (tgt := 30) S.1 S.2.1 dX5_listWidths_7 (by decide) (fun _ => ?_) (fun c => absurd (by decide) c)
  exact fx_vret S hr hlocks () hG trivial dX5_listWidths_30
theorem k1434_X5_listChildren {n : Nat} (hn : N0 + 231 ≤ n) (h0 : F (N0 + 66) = some (.inr (7, [.ref (N0 + 67), .ref (N0 + 68), .ref (N0 + 69), .ref (N0 + 70), .ref (N0 + 71), .ref (N0 + 72), .int 1]))) : Met l yX5_listChildren wsX5_listChildren ({ frames := 0, cells := 0, slots := 0, locals := 0 }) (va_Pc [.ref (N0 + 66), .int 0, .ref (N0 + 59)] (fP N0 D vwCl (fty cI cC cL cD cII cTr cTm cIt cB) (fen ql) F n)) (fQi N0 D vwCl (fty cI cC cL cD cII cTr cTm cIt cB) (fun (r : Int32) (_ : Unit) => r = 0) (fun _ => F) (fun _ => n)) 0 0 (fA N0) := by
  refine fx_start 5 rfl rfl (Nat.le_of_ble_eq_true rfl) ?_ rfl
  intro p e s m below meth c ls S hr hlocks hin hG hl
  have hl : lv_has ls 5 [(0, .ref (N0 + 66)), (1, .int 0), (2, .ref (N0 + 59))] := hl
  have lt_h0 := hG.1.lt h0
  refine lv_iconst (v := 0) S.1 S.2.1 dX5_listChildren_0 (by decide) ?_
  refine lv_istore_n (lv' := [(3, .int 0), (0, .ref (N0 + 66)), (1, .int 0), (2, .ref (N0 + 59))]) S.1 S.2.1 dX5_listChildren_1 rfl hl (by decide) rfl (fun ls hl => ?_)
  refine lv_iload_n S.1 S.2.1 dX5_listChildren_2 rfl (lv_at hl 2 rfl) ?_
  refine lv_iconst (v := 1) S.1 S.2.1 dX5_listChildren_3 (by decide) ?_
  refine lv_iadd S.1 S.2.1 dX5_listChildren_4 ?_
  refine fx_topi (y := 1) (by decide) ?_
  refine lv_istore (lv' := [(4, .int 1), (3, .int 0), (0, .ref (N0 + 66)), (1, .int 0), (2, .ref (N0 + 59))]) S.1 S.2.1 dX5_listChildren_5 hl (by decide) rfl (fun ls hl => ?_)
  refine lv_iload S.1 S.2.1 dX5_listChildren_7 (lv_at hl 0 rfl) ?_
  refine lv_aload_n S.1 S.2.1 dX5_listChildren_9 rfl (lv_at hl 2 rfl) ?_
  refine gx_get (C := RX5) (T := TX5) (N := 7) S hG h0 i_X5_listChildren_X5 rfl 6 (by decide) (by decide +kernel) rfl dX5_listChildren_10 ?_
  refine lv_icmp_ge (tgt := 47) S.1 S.2.1 dX5_listChildren_13 (by decide) (fun _ => ?_) (fun c => absurd (by decide) c)
  refine lv_iload_n S.1 S.2.1 dX5_listChildren_47 rfl (lv_at hl 1 rfl) ?_
  exact fx_iret S hr hlocks () hG (rfl) dX5_listChildren_48
theorem k1435_X5_listChildren {n : Nat} (hn : N0 + 231 ≤ n) (h0 : F (N0 + 73) = some (.inr (7, [.ref (N0 + 74), .ref (N0 + 75), .ref (N0 + 76), .ref (N0 + 77), .ref (N0 + 78), .ref (N0 + 79), .int 1]))) : Met l yX5_listChildren wsX5_listChildren ({ frames := 0, cells := 0, slots := 0, locals := 0 }) (va_Pc [.ref (N0 + 73), .int 0, .ref (N0 + 60)] (fP N0 D vwCl (fty cI cC cL cD cII cTr cTm cIt cB) (fen ql) F n)) (fQi N0 D vwCl (fty cI cC cL cD cII cTr cTm cIt cB) (fun (r : Int32) (_ : Unit) => r = 0) (fun _ => F) (fun _ => n)) 0 0 (fA N0) := by
  refine fx_start 5 rfl rfl (Nat.le_of_ble_eq_true rfl) ?_ rfl
  intro p e s m below meth c ls S hr hlocks hin hG hl
  have hl : lv_has ls 5 [(0, .ref (N0 + 73)), (1, .int 0), (2, .ref (N0 + 60))] := hl
  have lt_h0 := hG.1.lt h0
  refine lv_iconst (v := 0) S.1 S.2.1 dX5_listChildren_0 (by decide) ?_
  refine lv_istore_n (lv' := [(3, .int 0), (0, .ref (N0 + 73)), (1, .int 0), (2, .ref (N0 + 60))]) S.1 S.2.1 dX5_listChildren_1 rfl hl (by decide) rfl (fun ls hl => ?_)
  refine lv_iload_n S.1 S.2.1 dX5_listChildren_2 rfl (lv_at hl 2 rfl) ?_
  refine lv_iconst (v := 1) S.1 S.2.1 dX5_listChildren_3 (by decide) ?_
  refine lv_iadd S.1 S.2.1 dX5_listChildren_4 ?_
  refine fx_topi (y := 1) (by decide) ?_
  refine lv_istore (lv' := [(4, .int 1), (3, .int 0), (0, .ref (N0 + 73)), (1, .int 0), (2, .ref (N0 + 60))]) S.1 S.2.1 dX5_listChildren_5 hl (by decide) rfl (fun ls hl => ?_)
  refine lv_iload S.1 S.2.1 dX5_listChildren_7 (lv_at hl 0 rfl) ?_
  refine lv_aload_n S.1 S.2.1 dX5_listChildren_9 rfl (lv_at hl 2 rfl) ?_
  refine gx_get (C := RX5) (T := TX5) (N := 7) S hG h0 i_X5_listChildren_X5 rfl 6 (by decide) (by decide +kernel) rfl dX5_listChildren_10 ?_
  refine lv_icmp_ge (tgt := 47) S.1 S.2.1 dX5_listChildren_13 (by decide) (fun _ => ?_) (fun c => absurd (by decide) c)
  refine lv_iload_n S.1 S.2.1 dX5_listChildren_47 rfl (lv_at hl 1 rfl) ?_
  exact fx_iret S hr hlocks () hG (rfl) dX5_listChildren_48
theorem k1436_X1_restCost {n : Nat} (hn : N0 + 231 ≤ n) (h0 : F (N0 + 13) = some (.inr (3, [.ref (N0 + 14), .ref (N0 + 35), .ref (N0 + 57), .ref (N0 + 58), .ref (N0 + 59), .ref (N0 + 60), .int 0, .int 0, .ref (N0 + 61), .ref (N0 + 62)]))) : Met l yX1_restCost wsX1_restCost ({ frames := 0, cells := 0, slots := 0, locals := 0 }) (va_Pc [.ref (N0 + 13), .ref (N0 + 66), .ref (N0 + 73), .int 0, .int 0] (fP N0 D vwCl (fty cI cC cL cD cII cTr cTm cIt cB) (fen ql) F n)) (fQi N0 D vwCl (fty cI cC cL cD cII cTr cTm cIt cB) (fun (r : Int32) (_ : Unit) => r = 0) (fun _ => F) (fun _ => n)) 0 0 (fA N0) := by
  refine fx_start 6 rfl rfl (Nat.le_of_ble_eq_true rfl) ?_ rfl
  intro p e s m below meth c ls S hr hlocks hin hG hl
  have hl : lv_has ls 6 [(0, .ref (N0 + 13)), (1, .ref (N0 + 66)), (2, .ref (N0 + 73)), (3, .int 0), (4, .int 0)] := hl
  have lt_h0 := hG.1.lt h0
  refine lv_iload_n S.1 S.2.1 dX1_restCost_0 rfl (lv_at hl 3 rfl) ?_
  refine lv_aload_n S.1 S.2.1 dX1_restCost_1 rfl (lv_at hl 0 rfl) ?_
  refine gx_get (C := RX1) (T := TX1) (N := 10) S hG h0 i_X1_restCost_X1 rfl 6 (by decide) (by decide +kernel) rfl dX1_restCost_2 ?_
  refine lv_icmp_ne (tgt := 29) S.1 S.2.1 dX1_restCost_5 (by decide) (fun c => absurd (by decide) c) (fun _ => ?_)
  refine lv_iload S.1 S.2.1 dX1_restCost_8 (lv_at hl 4 rfl) ?_
  refine lv_aload_n S.1 S.2.1 dX1_restCost_10 rfl (lv_at hl 0 rfl) ?_
  refine gx_get (C := RX1) (T := TX1) (N := 10) S hG h0 i_X1_restCost_X1 rfl 7 (by decide) (by decide +kernel) rfl dX1_restCost_11 ?_
  refine lv_icmp_ne (tgt := 21) S.1 S.2.1 dX1_restCost_14 (by decide) (fun c => absurd (by decide) c) (fun _ => ?_)
  refine lv_iconst (v := 0) S.1 S.2.1 dX1_restCost_17 (by decide) ?_
  refine lv_goto (tgt := 28) S.1 S.2.1 dX1_restCost_18 (by decide) ?_
  exact fx_iret S hr hlocks () hG (rfl) dX1_restCost_28
theorem k1437_X1_fillRestCosts {n : Nat} (hn : N0 + 231 ≤ n) (h0 : F (N0 + 13) = some (.inr (3, [.ref (N0 + 14), .ref (N0 + 35), .ref (N0 + 57), .ref (N0 + 58), .ref (N0 + 59), .ref (N0 + 60), .int 0, .int 0, .ref (N0 + 61), .ref (N0 + 62)]))) (h1 : F (N0 + 35) = some (.inl (cII, 21, .inr (.inr (.inr (.inr (fun j => if j < 21 then some ((N0 + 36) + j) else none))))))) (h2 : F (N0 + 36) = some (.inl (cI, 21, .inl (fun _ => 0)))) : Met l yX1_fillRestCosts wsX1_fillRestCosts ({ frames := 1, cells := 0, slots := 0, locals := 25 }) (va_Pc [.ref (N0 + 13), .ref (N0 + 66), .ref (N0 + 73)] (fP N0 D vwCl (fty cI cC cL cD cII cTr cTm cIt cB) (fen ql) F n)) (fQv N0 D vwCl (fty cI cC cL cD cII cTr cTm cIt cB) (fun (_ : Unit) => True) (fun _ => (fu F (N0 + 36) (.inl (cI, 21, .inl (upd (fun _ => 0) 0 0))))) (fun _ => n)) 0 0 (fA N0) := by
  refine fx_start 5 rfl rfl (Nat.le_of_ble_eq_true rfl) ?_ rfl
  intro p e s m below meth c ls S hr hlocks hin hG hl
  have hl : lv_has ls 5 [(0, .ref (N0 + 13)), (1, .ref (N0 + 66)), (2, .ref (N0 + 73))] := hl
  have lt_h0 := hG.1.lt h0
  have lt_h1 := hG.1.lt h1
  have lt_h2 := hG.1.lt h2
  refine lv_aload_n S.1 S.2.1 dX1_fillRestCosts_0 rfl (lv_at hl 0 rfl) ?_
  refine gx_get (C := RX1) (T := TX1) (N := 10) S hG h0 i_X1_fillRestCosts_X1 rfl 6 (by decide) (by decide +kernel) rfl dX1_fillRestCosts_1 ?_
  refine lv_istore_n (lv' := [(3, .int 0), (0, .ref (N0 + 13)), (1, .ref (N0 + 66)), (2, .ref (N0 + 73))]) S.1 S.2.1 dX1_fillRestCosts_4 rfl hl (by decide) rfl (fun ls hl => ?_)
  refine lv_iload_n S.1 S.2.1 dX1_fillRestCosts_5 rfl (lv_at hl 0 rfl) ?_
  refine lv_if_lt (tgt := 50) S.1 S.2.1 dX1_fillRestCosts_6 (by decide) (fun c => absurd c (by decide)) (fun _ => ?_)
  refine lv_aload_n S.1 S.2.1 dX1_fillRestCosts_9 rfl (lv_at hl 1 rfl) ?_
  refine gx_get (C := RX1) (T := TX1) (N := 10) S hG h0 i_X1_fillRestCosts_X1 rfl 7 (by decide) (by decide +kernel) rfl dX1_fillRestCosts_10 ?_
  refine lv_istore (lv' := [(4, .int 0), (3, .int 0), (0, .ref (N0 + 13)), (1, .ref (N0 + 66)), (2, .ref (N0 + 73))]) S.1 S.2.1 dX1_fillRestCosts_13 hl (by decide) rfl (fun ls hl => ?_)
  refine lv_iload S.1 S.2.1 dX1_fillRestCosts_15 (lv_at hl 0 rfl) ?_
  refine lv_if_lt (tgt := 44) S.1 S.2.1 dX1_fillRestCosts_17 (by decide) (fun c => absurd c (by decide)) (fun _ => ?_)
  refine lv_aload_n S.1 S.2.1 dX1_fillRestCosts_20 rfl (lv_at hl 2 rfl) ?_
  refine gx_get (C := RX1) (T := TX1) (N := 10) S hG h0 i_X1_fillRestCosts_X1 rfl 1 (by decide) (by decide +kernel) rfl dX1_fillRestCosts_21 ?_
  refine lv_iload_n S.1 S.2.1 dX1_fillRestCosts_24 rfl (lv_at hl 1 rfl) ?_
  refine gx_aldq (x := (N0 + 36)) S hG 4 rfl h1 rfl (fin_l (by decide)) (rfl) dX1_fillRestCosts_25 ?_
  refine lv_iload S.1 S.2.1 dX1_fillRestCosts_26 (lv_at hl 0 rfl) ?_
  refine lv_aload_n S.1 S.2.1 dX1_fillRestCosts_28 rfl (lv_at hl 2 rfl) ?_
  refine lv_aload_n S.1 S.2.1 dX1_fillRestCosts_29 rfl (lv_at hl 3 rfl) ?_
  refine lv_aload_n S.1 S.2.1 dX1_fillRestCosts_30 rfl (lv_at hl 4 rfl) ?_
  refine lv_iload_n S.1 S.2.1 dX1_fillRestCosts_31 rfl (lv_at hl 1 rfl) ?_
  refine lv_iload S.1 S.2.1 dX1_fillRestCosts_32 (lv_at hl 0 rfl) ?_
  refine fx_cVi (As := [.ref (N0 + 66), .ref (N0 + 73), .int 0, .int 0]) (rest := [.int 0, .ref (N0 + 36)]) S hG (k1436_X1_restCost (by omega) h0) h0 rfl (cwV 4 S.2.2.2.2 gX1_fillRestCosts_X1_restCost rfl rfl rfl (by decide +kernel) ⟨Nat.le_of_ble_eq_true rfl, Nat.le_of_ble_eq_true rfl⟩) rfl hl.1 rfl (Nat.le_of_ble_eq_true rfl) dX1_fillRestCosts_34 ⟨Nat.le_of_ble_eq_true rfl, Nat.le_of_ble_eq_true rfl⟩ (fun rv_1 _ H locs hp hG => ?_)
  subst rv_1
  refine gx_iast (f' := upd (fun _ => 0) 0 0) S hG 0 h2 rfl (fin_l (by decide)) dX1_fillRestCosts_37 (rfl) (fun H locs hG => ?_)
  refine lv_iinc (v := (-1)) (lv' := [(4, .int (-1)), (3, .int 0), (0, .ref (N0 + 13)), (1, .ref (N0 + 66)), (2, .ref (N0 + 73))]) S.1 S.2.1 dX1_fillRestCosts_38 hl (k := 0) rfl (by decide) (by decide) rfl (fun ls hl => ?_)
  refine lv_goto (tgt := 15) S.1 S.2.1 dX1_fillRestCosts_41 (by decide) ?_
  refine lv_iload S.1 S.2.1 dX1_fillRestCosts_15 (lv_at hl 0 rfl) ?_
  refine lv_if_lt (tgt := 44) S.1 S.2.1 dX1_fillRestCosts_17 (by decide) (fun _ => ?_) (fun c => absurd (by decide) c)
  refine lv_iinc (v := (-1)) (lv' := [(3, .int (-1)), (4, .int (-1)), (0, .ref (N0 + 13)), (1, .ref (N0 + 66)), (2, .ref (N0 + 73))]) S.1 S.2.1 dX1_fillRestCosts_44 hl (k := 1) rfl (by decide) (by decide) rfl (fun ls hl => ?_)
  refine lv_goto (tgt := 5) S.1 S.2.1 dX1_fillRestCosts_47 (by decide) ?_
  refine lv_iload_n S.1 S.2.1 dX1_fillRestCosts_5 rfl (lv_at hl 0 rfl) ?_
  refine lv_if_lt (tgt := 50) S.1 S.2.1 dX1_fillRestCosts_6 (by decide) (fun _ => ?_) (fun c => absurd (by decide) c)
  exact fx_vret S hr hlocks () hG trivial dX1_fillRestCosts_50
theorem k1438_X7_changeCost {n : Nat} (hn : N0 + 231 ≤ n) (h0 : F (N0 + 66) = some (.inr (7, [.ref (N0 + 67), .ref (N0 + 68), .ref (N0 + 69), .ref (N0 + 70), .ref (N0 + 71), .ref (N0 + 72), .int 1]))) (h1 : F (N0 + 67) = some (.inl (cC, 20, .inl (upd (fun _ => 0) 0 97)))) (h2 : F (N0 + 73) = some (.inr (7, [.ref (N0 + 74), .ref (N0 + 75), .ref (N0 + 76), .ref (N0 + 77), .ref (N0 + 78), .ref (N0 + 79), .int 1]))) (h3 : F (N0 + 74) = some (.inl (cC, 20, .inl (upd (fun _ => 0) 0 97)))) (h4 : F (N0 + 69) = some (.inl (cI, 20, .inl (fun _ => 0)))) (h5 : F (N0 + 76) = some (.inl (cI, 20, .inl (fun _ => 0)))) : Met l yX7_changeCost wsX7_changeCost ({ frames := 0, cells := 0, slots := 0, locals := 0 }) (va_Pc [.ref (N0 + 66), .int 0, .ref (N0 + 73), .int 0] (fP N0 D vwCl (fty cI cC cL cD cII cTr cTm cIt cB) (fen ql) F n)) (fQi N0 D vwCl (fty cI cC cL cD cII cTr cTm cIt cB) (fun (r : Int32) (_ : Unit) => r = 0) (fun _ => F) (fun _ => n)) 0 0 (fA N0) := by
  refine fx_start 5 rfl rfl (Nat.le_of_ble_eq_true rfl) ?_ rfl
  intro p e s m below meth c ls S hr hlocks hin hG hl
  have hl : lv_has ls 5 [(0, .ref (N0 + 66)), (1, .int 0), (2, .ref (N0 + 73)), (3, .int 0)] := hl
  have lt_h0 := hG.1.lt h0
  have lt_h1 := hG.1.lt h1
  have lt_h2 := hG.1.lt h2
  have lt_h3 := hG.1.lt h3
  have lt_h4 := hG.1.lt h4
  have lt_h5 := hG.1.lt h5
  refine lv_iconst (v := 0) S.1 S.2.1 dX7_changeCost_0 (by decide) ?_
  refine lv_istore (lv' := [(4, .int 0), (0, .ref (N0 + 66)), (1, .int 0), (2, .ref (N0 + 73)), (3, .int 0)]) S.1 S.2.1 dX7_changeCost_1 hl (by decide) rfl (fun ls hl => ?_)
  refine lv_aload_n S.1 S.2.1 dX7_changeCost_3 rfl (lv_at hl 1 rfl) ?_
  refine gx_get (C := RX5) (T := TX5) (N := 7) S hG h0 i_X7_changeCost_X5 rfl 0 (by decide) (by decide +kernel) rfl dX7_changeCost_4 ?_
  refine lv_iload_n S.1 S.2.1 dX7_changeCost_7 rfl (lv_at hl 2 rfl) ?_
  refine gx_cald (v := 97) S hG 1 h1 rfl (fin_l (by decide)) (by decide) dX7_changeCost_8 ?_
  refine lv_aload_n S.1 S.2.1 dX7_changeCost_9 rfl (lv_at hl 3 rfl) ?_
  refine gx_get (C := RX5) (T := TX5) (N := 7) S hG h2 i_X7_changeCost_X5 rfl 0 (by decide) (by decide +kernel) rfl dX7_changeCost_10 ?_
  refine lv_iload_n S.1 S.2.1 dX7_changeCost_13 rfl (lv_at hl 4 rfl) ?_
  refine gx_cald (v := 97) S hG 1 h3 rfl (fin_l (by decide)) (by decide) dX7_changeCost_14 ?_
  refine lv_icmp_eq (tgt := 21) S.1 S.2.1 dX7_changeCost_15 (by decide) (fun _ => ?_) (fun c => absurd (by decide) c)
  refine lv_aload_n S.1 S.2.1 dX7_changeCost_21 rfl (lv_at hl 1 rfl) ?_
  refine gx_get (C := RX5) (T := TX5) (N := 7) S hG h0 i_X7_changeCost_X5 rfl 2 (by decide) (by decide +kernel) rfl dX7_changeCost_22 ?_
  refine lv_iload_n S.1 S.2.1 dX7_changeCost_25 rfl (lv_at hl 2 rfl) ?_
  refine gx_iald (v := 0) S hG 0 h4 rfl (fin_l (by decide)) (by decide) dX7_changeCost_26 ?_
  refine lv_aload_n S.1 S.2.1 dX7_changeCost_27 rfl (lv_at hl 3 rfl) ?_
  refine gx_get (C := RX5) (T := TX5) (N := 7) S hG h2 i_X7_changeCost_X5 rfl 2 (by decide) (by decide +kernel) rfl dX7_changeCost_28 ?_
  refine lv_iload_n S.1 S.2.1 dX7_changeCost_31 rfl (lv_at hl 4 rfl) ?_
  refine gx_iald (v := 0) S hG 0 h5 rfl (fin_l (by decide)) (by decide) dX7_changeCost_32 ?_
  refine lv_icmp_eq (tgt := 39) S.1 S.2.1 dX7_changeCost_33 (by decide) (fun _ => ?_) (fun c => absurd (by decide) c)
  refine lv_iload S.1 S.2.1 dX7_changeCost_39 (lv_at hl 0 rfl) ?_
  exact fx_iret S hr hlocks () hG (rfl) dX7_changeCost_41
set_option maxHeartbeats 16000000 in
theorem k1439_X1_leastCost {n : Nat} (hn : N0 + 231 ≤ n) (h0 : F (N0 + 13) = some (.inr (3, [.ref (N0 + 14), .ref (N0 + 35), .ref (N0 + 57), .ref (N0 + 58), .ref (N0 + 59), .ref (N0 + 60), .int 0, .int 0, .ref (N0 + 61), .ref (N0 + 62)]))) (h1 : F (N0 + 66) = some (.inr (7, [.ref (N0 + 67), .ref (N0 + 68), .ref (N0 + 69), .ref (N0 + 70), .ref (N0 + 71), .ref (N0 + 72), .int 1]))) (h2 : F (N0 + 57) = some (.inl (cI, 20, .inl (fun _ => 0)))) (h3 : F (N0 + 73) = some (.inr (7, [.ref (N0 + 74), .ref (N0 + 75), .ref (N0 + 76), .ref (N0 + 77), .ref (N0 + 78), .ref (N0 + 79), .int 1]))) (h4 : F (N0 + 58) = some (.inl (cI, 20, .inl (fun _ => 0)))) (h5 : F (N0 + 35) = some (.inl (cII, 21, .inr (.inr (.inr (.inr (fun j => if j < 21 then some ((N0 + 36) + j) else none))))))) (h6 : F (N0 + 36) = some (.inl (cI, 21, .inl (fun _ => 0)))) (h7 : F (N0 + 14) = some (.inl (cII, 20, .inr (.inr (.inr (.inr (fun j => if j < 20 then some ((N0 + 15) + j) else none))))))) (h8 : F (N0 + 67) = some (.inl (cC, 20, .inl (upd (fun _ => 0) 0 97)))) (h9 : F (N0 + 74) = some (.inl (cC, 20, .inl (upd (fun _ => 0) 0 97)))) (h10 : F (N0 + 69) = some (.inl (cI, 20, .inl (fun _ => 0)))) (h11 : F (N0 + 76) = some (.inl (cI, 20, .inl (fun _ => 0)))) (h12 : F (N0 + 15) = some (.inl (cI, 20, .inl (fun _ => 0)))) : Met l yX1_leastCost wsX1_leastCost ({ frames := 2, cells := 0, slots := 0, locals := 49 }) (va_Pc [.ref (N0 + 13), .ref (N0 + 66), .ref (N0 + 73)] (fP N0 D vwCl (fty cI cC cL cD cII cTr cTm cIt cB) (fen ql) F n)) (fQi N0 D vwCl (fty cI cC cL cD cII cTr cTm cIt cB) (fun (r : Int32) (_ : Unit) => r = 0) (fun _ => (fu (fu (fu (fu (fu F (N0 + 57) (.inl (cI, 20, .inl (upd (fun _ => 0) 0 1)))) (N0 + 58) (.inl (cI, 20, .inl (upd (fun _ => 0) 0 1)))) (N0 + 13) (.inr (3, [.ref (N0 + 14), .ref (N0 + 35), .ref (N0 + 57), .ref (N0 + 58), .ref (N0 + 59), .ref (N0 + 60), .int 0, .int 0, .ref (N0 + 61), .ref (N0 + 62)]))) (N0 + 36) (.inl (cI, 21, .inl (upd (fun _ => 0) 0 0)))) (N0 + 15) (.inl (cI, 20, .inl (upd (fun _ => 0) 0 0))))) (fun _ => n)) 0 0 (fA N0) := by
  refine fx_start 5 rfl rfl (Nat.le_of_ble_eq_true rfl) ?_ rfl
  intro p e s m below meth c ls S hr hlocks hin hG hl
  have hl : lv_has ls 5 [(0, .ref (N0 + 13)), (1, .ref (N0 + 66)), (2, .ref (N0 + 73))] := hl
  have lt_h0 := hG.1.lt h0
  have lt_h1 := hG.1.lt h1
  have lt_h2 := hG.1.lt h2
  have lt_h3 := hG.1.lt h3
  have lt_h4 := hG.1.lt h4
  have lt_h5 := hG.1.lt h5
  have lt_h6 := hG.1.lt h6
  have lt_h7 := hG.1.lt h7
  have lt_h8 := hG.1.lt h8
  have lt_h9 := hG.1.lt h9
  have lt_h10 := hG.1.lt h10
  have lt_h11 := hG.1.lt h11
  have lt_h12 := hG.1.lt h12
  refine lv_aload_n S.1 S.2.1 dX1_leastCost_0 rfl (lv_at hl 1 rfl) ?_
  refine lv_aload_n S.1 S.2.1 dX1_leastCost_1 rfl (lv_at hl 0 rfl) ?_
  refine gx_get (C := RX1) (T := TX1) (N := 10) S hG h0 i_X1_leastCost_X1 rfl 2 (by decide) (by decide +kernel) rfl dX1_leastCost_2 ?_
  refine fx_cVv (As := [.ref (N0 + 57)]) (rest := []) S hG (k1431_X5_listWidths (by omega) h1 h2) h1 rfl (cwV 1 S.2.2.2.2 gX1_leastCost_X5_listWidths rfl rfl rfl (by decide +kernel) ⟨Nat.le_of_ble_eq_true rfl, Nat.le_of_ble_eq_true rfl⟩) rfl hl.1 rfl (Nat.le_of_ble_eq_true rfl) dX1_leastCost_5 ⟨Nat.le_of_ble_eq_true rfl, Nat.le_of_ble_eq_true rfl⟩ (fun _ H locs hp hG => ?_)
  refine lv_aload_n S.1 S.2.1 dX1_leastCost_8 rfl (lv_at hl 2 rfl) ?_
  refine lv_aload_n S.1 S.2.1 dX1_leastCost_9 rfl (lv_at hl 0 rfl) ?_
  refine gx_get (C := RX1) (T := TX1) (N := 10) S hG (fu_at (by omega) h0) i_X1_leastCost_X1 rfl 3 (by decide) (by decide +kernel) rfl dX1_leastCost_10 ?_
  refine fx_cVv (As := [.ref (N0 + 58)]) (rest := []) S hG (k1433_X5_listWidths (by omega) (fu_at (by omega) h3) (fu_at (by omega) h4)) (fu_at (by omega) h3) rfl (cwV 1 S.2.2.2.2 gX1_leastCost_X5_listWidths rfl rfl rfl (by decide +kernel) ⟨Nat.le_of_ble_eq_true rfl, Nat.le_of_ble_eq_true rfl⟩) rfl hl.1 rfl (Nat.le_of_ble_eq_true rfl) dX1_leastCost_13 ⟨Nat.le_of_ble_eq_true rfl, Nat.le_of_ble_eq_true rfl⟩ (fun _ H locs hp hG => ?_)
  refine lv_aload_n S.1 S.2.1 dX1_leastCost_16 rfl (lv_at hl 1 rfl) ?_
  refine gx_get (C := RX5) (T := TX5) (N := 7) S hG (fu_at (by omega) (fu_at (by omega) h1)) i_X1_leastCost_X5 rfl 6 (by decide) (by decide +kernel) rfl dX1_leastCost_17 ?_
  refine lv_iconst (v := 1) S.1 S.2.1 dX1_leastCost_20 (by decide) ?_
  refine lv_isub S.1 S.2.1 dX1_leastCost_21 ?_
  refine fx_topi (y := 0) (by decide) ?_
  refine lv_istore_n (lv' := [(3, .int 0), (0, .ref (N0 + 13)), (1, .ref (N0 + 66)), (2, .ref (N0 + 73))]) S.1 S.2.1 dX1_leastCost_22 rfl hl (by decide) rfl (fun ls hl => ?_)
  refine lv_iload_n S.1 S.2.1 dX1_leastCost_23 rfl (lv_at hl 0 rfl) ?_
  refine lv_if_lt (tgt := 111) S.1 S.2.1 dX1_leastCost_24 (by decide) (fun c => absurd c (by decide)) (fun _ => ?_)
  refine lv_aload_n S.1 S.2.1 dX1_leastCost_27 rfl (lv_at hl 1 rfl) ?_
  refine lv_aload_n S.1 S.2.1 dX1_leastCost_28 rfl (lv_at hl 2 rfl) ?_
  refine lv_iload_n S.1 S.2.1 dX1_leastCost_29 rfl (lv_at hl 0 rfl) ?_
  refine lv_aload_n S.1 S.2.1 dX1_leastCost_30 rfl (lv_at hl 1 rfl) ?_
  refine gx_get (C := RX1) (T := TX1) (N := 10) S hG (fu_at (by omega) (fu_at (by omega) h0)) i_X1_leastCost_X1 rfl 4 (by decide) (by decide +kernel) rfl dX1_leastCost_31 ?_
  refine fx_cVi (As := [.int 0, .ref (N0 + 59)]) (rest := [.ref (N0 + 13)]) S hG (k1434_X5_listChildren (by omega) (fu_at (by omega) (fu_at (by omega) h1))) (fu_at (by omega) (fu_at (by omega) h1)) rfl (cwV 2 S.2.2.2.2 gX1_leastCost_X5_listChildren rfl rfl rfl (by decide +kernel) ⟨Nat.le_of_ble_eq_true rfl, Nat.le_of_ble_eq_true rfl⟩) rfl hl.1 rfl (Nat.le_of_ble_eq_true rfl) dX1_leastCost_34 ⟨Nat.le_of_ble_eq_true rfl, Nat.le_of_ble_eq_true rfl⟩ (fun rv_3 _ H locs hp hG => ?_)
  subst rv_3
  refine gx_put (C := RX1) (T := TX1) (N := 10) (ty := .int) (v := .int 0) (fs' := [.ref (N0 + 14), .ref (N0 + 35), .ref (N0 + 57), .ref (N0 + 58), .ref (N0 + 59), .ref (N0 + 60), .int 0, .int 0, .ref (N0 + 61), .ref (N0 + 62)]) S hG (fu_at (by omega) (fu_at (by omega) h0)) i_X1_leastCost_X1 rfl 6 (by decide) tyX1 tyX1_ok nmX1 (by decide +kernel) rfl (by decide +kernel) rfl rfl (Nat.le_of_ble_eq_true rfl) rfl dX1_leastCost_37 (fun H locs hG => ?_)
  refine lv_aload_n S.1 S.2.1 dX1_leastCost_40 rfl (lv_at hl 3 rfl) ?_
  refine gx_get (C := RX5) (T := TX5) (N := 7) S hG (fu_at (by omega) (fu_at (by omega) (fu_at (by omega) h3))) i_X1_leastCost_X5 rfl 6 (by decide) (by decide +kernel) rfl dX1_leastCost_41 ?_
  refine lv_iconst (v := 1) S.1 S.2.1 dX1_leastCost_44 (by decide) ?_
  refine lv_isub S.1 S.2.1 dX1_leastCost_45 ?_
  refine fx_topi (y := 0) (by decide) ?_
  refine lv_istore (lv' := [(4, .int 0), (3, .int 0), (0, .ref (N0 + 13)), (1, .ref (N0 + 66)), (2, .ref (N0 + 73))]) S.1 S.2.1 dX1_leastCost_46 hl (by decide) rfl (fun ls hl => ?_)
  refine lv_iload S.1 S.2.1 dX1_leastCost_48 (lv_at hl 0 rfl) ?_
  refine lv_if_lt (tgt := 105) S.1 S.2.1 dX1_leastCost_50 (by decide) (fun c => absurd c (by decide)) (fun _ => ?_)
  refine lv_aload_n S.1 S.2.1 dX1_leastCost_53 rfl (lv_at hl 2 rfl) ?_
  refine lv_aload_n S.1 S.2.1 dX1_leastCost_54 rfl (lv_at hl 4 rfl) ?_
  refine lv_iload S.1 S.2.1 dX1_leastCost_55 (lv_at hl 0 rfl) ?_
  refine lv_aload_n S.1 S.2.1 dX1_leastCost_57 rfl (lv_at hl 2 rfl) ?_
  refine gx_get (C := RX1) (T := TX1) (N := 10) S hG fu_s i_X1_leastCost_X1 rfl 5 (by decide) (by decide +kernel) rfl dX1_leastCost_58 ?_
  refine fx_cVi (As := [.int 0, .ref (N0 + 60)]) (rest := [.ref (N0 + 13)]) S hG (k1435_X5_listChildren (by omega) (fu_at (by omega) (fu_at (by omega) (fu_at (by omega) h3)))) (fu_at (by omega) (fu_at (by omega) (fu_at (by omega) h3))) rfl (cwV 2 S.2.2.2.2 gX1_leastCost_X5_listChildren rfl rfl rfl (by decide +kernel) ⟨Nat.le_of_ble_eq_true rfl, Nat.le_of_ble_eq_true rfl⟩) rfl hl.1 rfl (Nat.le_of_ble_eq_true rfl) dX1_leastCost_61 ⟨Nat.le_of_ble_eq_true rfl, Nat.le_of_ble_eq_true rfl⟩ (fun rv_4 _ H locs hp hG => ?_)
  subst rv_4
  refine gx_put (C := RX1) (T := TX1) (N := 10) (ty := .int) (v := .int 0) (fs' := [.ref (N0 + 14), .ref (N0 + 35), .ref (N0 + 57), .ref (N0 + 58), .ref (N0 + 59), .ref (N0 + 60), .int 0, .int 0, .ref (N0 + 61), .ref (N0 + 62)]) S hG fu_s i_X1_leastCost_X1 rfl 7 (by decide) tyX1 tyX1_ok nmX1 (by decide +kernel) rfl (by decide +kernel) rfl rfl (Nat.le_of_ble_eq_true rfl) rfl dX1_leastCost_64 (fun H locs hG => ?_)
  refine lv_aload_n S.1 S.2.1 dX1_leastCost_67 rfl (lv_at hl 2 rfl) ?_
  refine lv_aload_n S.1 S.2.1 dX1_leastCost_68 rfl (lv_at hl 3 rfl) ?_
  refine lv_aload_n S.1 S.2.1 dX1_leastCost_69 rfl (lv_at hl 4 rfl) ?_
  refine fx_cVv (As := [.ref (N0 + 66), .ref (N0 + 73)]) (rest := []) S hG (k1437_X1_fillRestCosts (by omega) fu_s (fu_at (by omega) (fu_at (by omega) (fu_at (by omega) (fu_at (by omega) h5)))) (fu_at (by omega) (fu_at (by omega) (fu_at (by omega) (fu_at (by omega) h6))))) fu_s rfl (cwV 2 S.2.2.2.2 gX1_leastCost_X1_fillRestCosts rfl rfl rfl (by decide +kernel) ⟨Nat.le_of_ble_eq_true rfl, Nat.le_of_ble_eq_true rfl⟩) rfl hl.1 rfl (Nat.le_of_ble_eq_true rfl) dX1_leastCost_70 ⟨Nat.le_of_ble_eq_true rfl, Nat.le_of_ble_eq_true rfl⟩ (fun _ H locs hp hG => ?_)
  refine lv_aload_n S.1 S.2.1 dX1_leastCost_73 rfl (lv_at hl 2 rfl) ?_
  refine gx_get (C := RX1) (T := TX1) (N := 10) S hG (fu_at (by omega) fu_s) i_X1_leastCost_X1 rfl 0 (by decide) (by decide +kernel) rfl dX1_leastCost_74 ?_
  refine lv_iload_n S.1 S.2.1 dX1_leastCost_77 rfl (lv_at hl 1 rfl) ?_
  refine gx_aldq (x := (N0 + 15)) S hG 4 rfl (fu_at (by omega) (fu_at (by omega) (fu_at (by omega) (fu_at (by omega) (fu_at (by omega) h7))))) rfl (fin_l (by decide)) (rfl) dX1_leastCost_78 ?_
  refine lv_iload S.1 S.2.1 dX1_leastCost_79 (lv_at hl 0 rfl) ?_
  refine lv_aload_n S.1 S.2.1 dX1_leastCost_81 rfl (lv_at hl 3 rfl) ?_
  refine lv_iload_n S.1 S.2.1 dX1_leastCost_82 rfl (lv_at hl 1 rfl) ?_
  refine lv_aload_n S.1 S.2.1 dX1_leastCost_83 rfl (lv_at hl 4 rfl) ?_
  refine lv_iload S.1 S.2.1 dX1_leastCost_84 (lv_at hl 0 rfl) ?_
  refine fx_cSNi (host := "TreeDiffer") (As := [.ref (N0 + 66), .int 0, .ref (N0 + 73), .int 0]) (rest := [.int 0, .ref (N0 + 15)]) S hG (k1438_X7_changeCost (by omega) (fu_at (by omega) (fu_at (by omega) (fu_at (by omega) (fu_at (by omega) (fu_at (by omega) h1))))) (fu_at (by omega) (fu_at (by omega) (fu_at (by omega) (fu_at (by omega) (fu_at (by omega) h8))))) (fu_at (by omega) (fu_at (by omega) (fu_at (by omega) (fu_at (by omega) (fu_at (by omega) h3))))) (fu_at (by omega) (fu_at (by omega) (fu_at (by omega) (fu_at (by omega) (fu_at (by omega) h9))))) (fu_at (by omega) (fu_at (by omega) (fu_at (by omega) (fu_at (by omega) (fu_at (by omega) h10))))) (fu_at (by omega) (fu_at (by omega) (fu_at (by omega) (fu_at (by omega) (fu_at (by omega) h11)))))) ⟨(va_cnB 4 S.2.2.2.2 gX1_leastCost_X7_changeCost_n62 rfl rfl rfl (hG.nest (show _ ∈ fen2.2.2.1 from by decide)) (S.2.2.2.2 (.initialized RX7) (by decide +kernel)) (by decide +kernel) ⟨Nat.le_of_ble_eq_true rfl, Nat.le_of_ble_eq_true rfl⟩), S.2.2.2.2 (.static yX7_changeCost) (by decide +kernel), trivial⟩ rfl hl.1 rfl (Nat.le_of_ble_eq_true rfl) dX1_leastCost_86 ⟨Nat.le_of_ble_eq_true rfl, Nat.le_of_ble_eq_true rfl⟩ (fun rv_6 _ H locs hp hG => ?_)
  subst rv_6
  refine lv_aload_n S.1 S.2.1 dX1_leastCost_89 rfl (lv_at hl 2 rfl) ?_
  refine gx_get (C := RX1) (T := TX1) (N := 10) S hG (fu_at (by omega) fu_s) i_X1_leastCost_X1 rfl 1 (by decide) (by decide +kernel) rfl dX1_leastCost_90 ?_
  refine lv_iconst (v := 0) S.1 S.2.1 dX1_leastCost_93 (by decide) ?_
  refine gx_aldq (x := (N0 + 36)) S hG 4 rfl (fu_at (by omega) (fu_at (by omega) (fu_at (by omega) (fu_at (by omega) (fu_at (by omega) h5))))) rfl (fin_l (by decide)) (rfl) dX1_leastCost_94 ?_
  refine lv_iconst (v := 0) S.1 S.2.1 dX1_leastCost_95 (by decide) ?_
  refine gx_iald (v := 0) S hG 0 fu_s rfl (fin_l (by decide)) (by decide) dX1_leastCost_96 ?_
  refine lv_iadd S.1 S.2.1 dX1_leastCost_97 ?_
  refine fx_topi (y := 0) (by decide) ?_
  refine gx_iast (f' := upd (fun _ => 0) 0 0) S hG 0 (fu_at (by omega) (fu_at (by omega) (fu_at (by omega) (fu_at (by omega) (fu_at (by omega) h12))))) rfl (fin_l (by decide)) dX1_leastCost_98 (rfl) (fun H locs hG => ?_)
  refine lv_iinc (v := (-1)) (lv' := [(4, .int (-1)), (3, .int 0), (0, .ref (N0 + 13)), (1, .ref (N0 + 66)), (2, .ref (N0 + 73))]) S.1 S.2.1 dX1_leastCost_99 hl (k := 0) rfl (by decide) (by decide) rfl (fun ls hl => ?_)
  refine lv_goto (tgt := 48) S.1 S.2.1 dX1_leastCost_102 (by decide) ?_
  refine lv_iload S.1 S.2.1 dX1_leastCost_48 (lv_at hl 0 rfl) ?_
  refine lv_if_lt (tgt := 105) S.1 S.2.1 dX1_leastCost_50 (by decide) (fun _ => ?_) (fun c => absurd (by decide) c)
  refine lv_iinc (v := (-1)) (lv' := [(3, .int (-1)), (4, .int (-1)), (0, .ref (N0 + 13)), (1, .ref (N0 + 66)), (2, .ref (N0 + 73))]) S.1 S.2.1 dX1_leastCost_105 hl (k := 1) rfl (by decide) (by decide) rfl (fun ls hl => ?_)
  refine lv_goto (tgt := 23) S.1 S.2.1 dX1_leastCost_108 (by decide) ?_
  refine lv_iload_n S.1 S.2.1 dX1_leastCost_23 rfl (lv_at hl 0 rfl) ?_
  refine lv_if_lt (tgt := 111) S.1 S.2.1 dX1_leastCost_24 (by decide) (fun _ => ?_) (fun c => absurd (by decide) c)
  refine lv_aload_n S.1 S.2.1 dX1_leastCost_111 rfl (lv_at hl 2 rfl) ?_
  refine gx_get (C := RX1) (T := TX1) (N := 10) S hG (fu_at (by omega) (fu_at (by omega) fu_s)) i_X1_leastCost_X1 rfl 0 (by decide) (by decide +kernel) rfl dX1_leastCost_112 ?_
  refine lv_iconst (v := 0) S.1 S.2.1 dX1_leastCost_115 (by decide) ?_
  refine gx_aldq (x := (N0 + 15)) S hG 4 rfl (fu_at (by omega) (fu_at (by omega) (fu_at (by omega) (fu_at (by omega) (fu_at (by omega) (fu_at (by omega) h7)))))) rfl (fin_l (by decide)) (rfl) dX1_leastCost_116 ?_
  refine lv_iconst (v := 0) S.1 S.2.1 dX1_leastCost_117 (by decide) ?_
  refine gx_iald (v := 0) S hG 0 fu_s rfl (fin_l (by decide)) (by decide) dX1_leastCost_118 ?_
  have hG : fG N0 D vwCl (fty cI cC cL cD cII cTr cTm cIt cB) (fen ql) s (fu (fu (fu (fu (fu F (N0 + 57) (.inl (cI, 20, .inl (upd (fun _ => 0) 0 1)))) (N0 + 58) (.inl (cI, 20, .inl (upd (fun _ => 0) 0 1)))) (N0 + 13) (.inr (3, [.ref (N0 + 14), .ref (N0 + 35), .ref (N0 + 57), .ref (N0 + 58), .ref (N0 + 59), .ref (N0 + 60), .int 0, .int 0, .ref (N0 + 61), .ref (N0 + 62)]))) (N0 + 36) (.inl (cI, 21, .inl (upd (fun _ => 0) 0 0)))) (N0 + 15) (.inl (cI, 20, .inl (upd (fun _ => 0) 0 0)))) n H locs := hG.weak (fun a e h => by
    rcases fu_cases h with ⟨rfl, he⟩ | ⟨hne0, h⟩
    · cases he; exact fu_s
    · skip
      rcases fu_cases h with ⟨rfl, he⟩ | ⟨hne1, h⟩
      · cases he; exact (fu_at (by omega) fu_s)
      · skip
        rcases fu_cases h with ⟨rfl, he⟩ | ⟨hne2, h⟩
        · cases he; exact (fu_at (by omega) (fu_at (by omega) fu_s))
        · skip
          rcases fu_cases h with ⟨rfl, he⟩ | ⟨hne3, h⟩
          · cases he; exact (fu_at (by omega) (fu_at (by omega) (fu_at (by omega) (fu_at (by omega) fu_s))))
          · skip
            rcases fu_cases h with ⟨rfl, he⟩ | ⟨hne4, h⟩
            · cases he; exact (fu_at (by omega) (fu_at (by omega) (fu_at (by omega) (fu_at (by omega) (fu_at (by omega) fu_s)))))
            · exact (fu_at (by omega) (fu_at (by omega) (fu_at (by omega) (fu_at (by omega) (fu_at (by omega) (fu_at (by omega) h)))))))
  exact fx_iret S hr hlocks () hG (rfl) dX1_leastCost_119
set_option maxHeartbeats 16000000 in
theorem k1440_J7_fill_53178 {n : Nat} (hn : N0 + 231 ≤ n) (h0 : F (N0 + 61) = some (.inl (cI, 20, .inl (fun _ => 0)))) : Met l yJ7_fill_53178 wsJ7_fill_53178 ({ frames := 0, cells := 0, slots := 0, locals := 0 }) (va_Pc [.ref (N0 + 61), .int (-1)] (fP N0 D vwCl (fty cI cC cL cD cII cTr cTm cIt cB) (fen ql) F n)) (fQv N0 D vwCl (fty cI cC cL cD cII cTr cTm cIt cB) (fun (_ : Unit) => True) (fun _ => (fu F (N0 + 61) (.inl (cI, 20, .inl (upd (upd (upd (upd (upd (upd (upd (upd (upd (upd (upd (upd (upd (upd (upd (upd (upd (upd (upd (upd (fun _ => 0) 0 (-1)) 1 (-1)) 2 (-1)) 3 (-1)) 4 (-1)) 5 (-1)) 6 (-1)) 7 (-1)) 8 (-1)) 9 (-1)) 10 (-1)) 11 (-1)) 12 (-1)) 13 (-1)) 14 (-1)) 15 (-1)) 16 (-1)) 17 (-1)) 18 (-1)) 19 (-1)))))) (fun _ => n)) 0 0 (fA N0) := by
  refine fx_start 4 rfl rfl (Nat.le_of_ble_eq_true rfl) ?_ rfl
  intro p e s m below meth c ls S hr hlocks hin hG hl
  have hl : lv_has ls 4 [(0, .ref (N0 + 61)), (1, .int (-1))] := hl
  have lt_h0 := hG.1.lt h0
  refine lv_iconst (v := 0) S.1 S.2.1 dJ7_fill_53178_0 (by decide) ?_
  refine lv_istore_n (lv' := [(2, .int 0), (0, .ref (N0 + 61)), (1, .int (-1))]) S.1 S.2.1 dJ7_fill_53178_1 rfl hl (by decide) rfl (fun ls hl => ?_)
  refine lv_aload_n S.1 S.2.1 dJ7_fill_53178_2 rfl (lv_at hl 1 rfl) ?_
  refine gx_alen (v := 20) S hG 0 h0 rfl (rfl) dJ7_fill_53178_3 ?_
  refine lv_istore_n (lv' := [(3, .int 20), (2, .int 0), (0, .ref (N0 + 61)), (1, .int (-1))]) S.1 S.2.1 dJ7_fill_53178_4 rfl hl (by decide) rfl (fun ls hl => ?_)
  refine lv_iload_n S.1 S.2.1 dJ7_fill_53178_5 rfl (lv_at hl 1 rfl) ?_
  refine lv_iload_n S.1 S.2.1 dJ7_fill_53178_6 rfl (lv_at hl 0 rfl) ?_
  refine lv_icmp_ge (tgt := 20) S.1 S.2.1 dJ7_fill_53178_7 (by decide) (fun c => absurd c (by decide)) (fun _ => ?_)
  refine lv_aload_n S.1 S.2.1 dJ7_fill_53178_10 rfl (lv_at hl 2 rfl) ?_
  refine lv_iload_n S.1 S.2.1 dJ7_fill_53178_11 rfl (lv_at hl 1 rfl) ?_
  refine lv_iload_n S.1 S.2.1 dJ7_fill_53178_12 rfl (lv_at hl 3 rfl) ?_
  refine gx_iast (f' := upd (fun _ => 0) 0 (-1)) S hG 0 h0 rfl (fin_l (by decide)) dJ7_fill_53178_13 (rfl) (fun H locs hG => ?_)
  refine lv_iinc (v := 1) (lv' := [(2, .int 1), (3, .int 20), (0, .ref (N0 + 61)), (1, .int (-1))]) S.1 S.2.1 dJ7_fill_53178_14 hl (k := 1) rfl (by decide) (by decide) rfl (fun ls hl => ?_)
  refine lv_goto (tgt := 5) S.1 S.2.1 dJ7_fill_53178_17 (by decide) ?_
  refine lv_iload_n S.1 S.2.1 dJ7_fill_53178_5 rfl (lv_at hl 0 rfl) ?_
  refine lv_iload_n S.1 S.2.1 dJ7_fill_53178_6 rfl (lv_at hl 1 rfl) ?_
  refine lv_icmp_ge (tgt := 20) S.1 S.2.1 dJ7_fill_53178_7 (by decide) (fun c => absurd c (by decide)) (fun _ => ?_)
  refine lv_aload_n S.1 S.2.1 dJ7_fill_53178_10 rfl (lv_at hl 2 rfl) ?_
  refine lv_iload_n S.1 S.2.1 dJ7_fill_53178_11 rfl (lv_at hl 0 rfl) ?_
  refine lv_iload_n S.1 S.2.1 dJ7_fill_53178_12 rfl (lv_at hl 3 rfl) ?_
  refine gx_iast (f' := upd (upd (fun _ => 0) 0 (-1)) 1 (-1)) S hG 0 fu_s rfl (fin_l (by decide)) dJ7_fill_53178_13 (rfl) (fun H locs hG => ?_)
  refine lv_iinc (v := 2) (lv' := [(2, .int 2), (3, .int 20), (0, .ref (N0 + 61)), (1, .int (-1))]) S.1 S.2.1 dJ7_fill_53178_14 hl (k := 0) rfl (by decide) (by decide) rfl (fun ls hl => ?_)
  refine lv_goto (tgt := 5) S.1 S.2.1 dJ7_fill_53178_17 (by decide) ?_
  refine lv_iload_n S.1 S.2.1 dJ7_fill_53178_5 rfl (lv_at hl 0 rfl) ?_
  refine lv_iload_n S.1 S.2.1 dJ7_fill_53178_6 rfl (lv_at hl 1 rfl) ?_
  refine lv_icmp_ge (tgt := 20) S.1 S.2.1 dJ7_fill_53178_7 (by decide) (fun c => absurd c (by decide)) (fun _ => ?_)
  refine lv_aload_n S.1 S.2.1 dJ7_fill_53178_10 rfl (lv_at hl 2 rfl) ?_
  refine lv_iload_n S.1 S.2.1 dJ7_fill_53178_11 rfl (lv_at hl 0 rfl) ?_
  refine lv_iload_n S.1 S.2.1 dJ7_fill_53178_12 rfl (lv_at hl 3 rfl) ?_
  refine gx_iast (f' := upd (upd (upd (fun _ => 0) 0 (-1)) 1 (-1)) 2 (-1)) S hG 0 fu_s rfl (fin_l (by decide)) dJ7_fill_53178_13 (rfl) (fun H locs hG => ?_)
  refine lv_iinc (v := 3) (lv' := [(2, .int 3), (3, .int 20), (0, .ref (N0 + 61)), (1, .int (-1))]) S.1 S.2.1 dJ7_fill_53178_14 hl (k := 0) rfl (by decide) (by decide) rfl (fun ls hl => ?_)
  refine lv_goto (tgt := 5) S.1 S.2.1 dJ7_fill_53178_17 (by decide) ?_
  refine lv_iload_n S.1 S.2.1 dJ7_fill_53178_5 rfl (lv_at hl 0 rfl) ?_
  refine lv_iload_n S.1 S.2.1 dJ7_fill_53178_6 rfl (lv_at hl 1 rfl) ?_
  refine lv_icmp_ge (tgt := 20) S.1 S.2.1 dJ7_fill_53178_7 (by decide) (fun c => absurd c (by decide)) (fun _ => ?_)
  refine lv_aload_n S.1 S.2.1 dJ7_fill_53178_10 rfl (lv_at hl 2 rfl) ?_
  refine lv_iload_n S.1 S.2.1 dJ7_fill_53178_11 rfl (lv_at hl 0 rfl) ?_
  refine lv_iload_n S.1 S.2.1 dJ7_fill_53178_12 rfl (lv_at hl 3 rfl) ?_
  refine gx_iast (f' := upd (upd (upd (upd (fun _ => 0) 0 (-1)) 1 (-1)) 2 (-1)) 3 (-1)) S hG 0 fu_s rfl (fin_l (by decide)) dJ7_fill_53178_13 (rfl) (fun H locs hG => ?_)
  refine lv_iinc (v := 4) (lv' := [(2, .int 4), (3, .int 20), (0, .ref (N0 + 61)), (1, .int (-1))]) S.1 S.2.1 dJ7_fill_53178_14 hl (k := 0) rfl (by decide) (by decide) rfl (fun ls hl => ?_)
  refine lv_goto (tgt := 5) S.1 S.2.1 dJ7_fill_53178_17 (by decide) ?_
  refine lv_iload_n S.1 S.2.1 dJ7_fill_53178_5 rfl (lv_at hl 0 rfl) ?_
  refine lv_iload_n S.1 S.2.1 dJ7_fill_53178_6 rfl (lv_at hl 1 rfl) ?_
  refine lv_icmp_ge (tgt := 20) S.1 S.2.1 dJ7_fill_53178_7 (by decide) (fun c => absurd c (by decide)) (fun _ => ?_)
  refine lv_aload_n S.1 S.2.1 dJ7_fill_53178_10 rfl (lv_at hl 2 rfl) ?_
  refine lv_iload_n S.1 S.2.1 dJ7_fill_53178_11 rfl (lv_at hl 0 rfl) ?_
  refine lv_iload_n S.1 S.2.1 dJ7_fill_53178_12 rfl (lv_at hl 3 rfl) ?_
  refine gx_iast (f' := upd (upd (upd (upd (upd (fun _ => 0) 0 (-1)) 1 (-1)) 2 (-1)) 3 (-1)) 4 (-1)) S hG 0 fu_s rfl (fin_l (by decide)) dJ7_fill_53178_13 (rfl) (fun H locs hG => ?_)
  refine lv_iinc (v := 5) (lv' := [(2, .int 5), (3, .int 20), (0, .ref (N0 + 61)), (1, .int (-1))]) S.1 S.2.1 dJ7_fill_53178_14 hl (k := 0) rfl (by decide) (by decide) rfl (fun ls hl => ?_)
  refine lv_goto (tgt := 5) S.1 S.2.1 dJ7_fill_53178_17 (by decide) ?_
  refine lv_iload_n S.1 S.2.1 dJ7_fill_53178_5 rfl (lv_at hl 0 rfl) ?_
  refine lv_iload_n S.1 S.2.1 dJ7_fill_53178_6 rfl (lv_at hl 1 rfl) ?_
  refine lv_icmp_ge (tgt := 20) S.1 S.2.1 dJ7_fill_53178_7 (by decide) (fun c => absurd c (by decide)) (fun _ => ?_)
  refine lv_aload_n S.1 S.2.1 dJ7_fill_53178_10 rfl (lv_at hl 2 rfl) ?_
  refine lv_iload_n S.1 S.2.1 dJ7_fill_53178_11 rfl (lv_at hl 0 rfl) ?_
  refine lv_iload_n S.1 S.2.1 dJ7_fill_53178_12 rfl (lv_at hl 3 rfl) ?_
  refine gx_iast (f' := upd (upd (upd (upd (upd (upd (fun _ => 0) 0 (-1)) 1 (-1)) 2 (-1)) 3 (-1)) 4 (-1)) 5 (-1)) S hG 0 fu_s rfl (fin_l (by decide)) dJ7_fill_53178_13 (rfl) (fun H locs hG => ?_)
  refine lv_iinc (v := 6) (lv' := [(2, .int 6), (3, .int 20), (0, .ref (N0 + 61)), (1, .int (-1))]) S.1 S.2.1 dJ7_fill_53178_14 hl (k := 0) rfl (by decide) (by decide) rfl (fun ls hl => ?_)
  refine lv_goto (tgt := 5) S.1 S.2.1 dJ7_fill_53178_17 (by decide) ?_
  refine lv_iload_n S.1 S.2.1 dJ7_fill_53178_5 rfl (lv_at hl 0 rfl) ?_
  refine lv_iload_n S.1 S.2.1 dJ7_fill_53178_6 rfl (lv_at hl 1 rfl) ?_
  refine lv_icmp_ge (tgt := 20) S.1 S.2.1 dJ7_fill_53178_7 (by decide) (fun c => absurd c (by decide)) (fun _ => ?_)
  refine lv_aload_n S.1 S.2.1 dJ7_fill_53178_10 rfl (lv_at hl 2 rfl) ?_
  refine lv_iload_n S.1 S.2.1 dJ7_fill_53178_11 rfl (lv_at hl 0 rfl) ?_
  refine lv_iload_n S.1 S.2.1 dJ7_fill_53178_12 rfl (lv_at hl 3 rfl) ?_
  refine gx_iast (f' := upd (upd (upd (upd (upd (upd (upd (fun _ => 0) 0 (-1)) 1 (-1)) 2 (-1)) 3 (-1)) 4 (-1)) 5 (-1)) 6 (-1)) S hG 0 fu_s rfl (fin_l (by decide)) dJ7_fill_53178_13 (rfl) (fun H locs hG => ?_)
  refine lv_iinc (v := 7) (lv' := [(2, .int 7), (3, .int 20), (0, .ref (N0 + 61)), (1, .int (-1))]) S.1 S.2.1 dJ7_fill_53178_14 hl (k := 0) rfl (by decide) (by decide) rfl (fun ls hl => ?_)
  refine lv_goto (tgt := 5) S.1 S.2.1 dJ7_fill_53178_17 (by decide) ?_
  refine lv_iload_n S.1 S.2.1 dJ7_fill_53178_5 rfl (lv_at hl 0 rfl) ?_
  refine lv_iload_n S.1 S.2.1 dJ7_fill_53178_6 rfl (lv_at hl 1 rfl) ?_
  refine lv_icmp_ge (tgt := 20) S.1 S.2.1 dJ7_fill_53178_7 (by decide) (fun c => absurd c (by decide)) (fun _ => ?_)
  refine lv_aload_n S.1 S.2.1 dJ7_fill_53178_10 rfl (lv_at hl 2 rfl) ?_
  refine lv_iload_n S.1 S.2.1 dJ7_fill_53178_11 rfl (lv_at hl 0 rfl) ?_
  refine lv_iload_n S.1 S.2.1 dJ7_fill_53178_12 rfl (lv_at hl 3 rfl) ?_
  refine gx_iast (f' := upd (upd (upd (upd (upd (upd (upd (upd (fun _ => 0) 0 (-1)) 1 (-1)) 2 (-1)) 3 (-1)) 4 (-1)) 5 (-1)) 6 (-1)) 7 (-1)) S hG 0 fu_s rfl (fin_l (by decide)) dJ7_fill_53178_13 (rfl) (fun H locs hG => ?_)
  refine lv_iinc (v := 8) (lv' := [(2, .int 8), (3, .int 20), (0, .ref (N0 + 61)), (1, .int (-1))]) S.1 S.2.1 dJ7_fill_53178_14 hl (k := 0) rfl (by decide) (by decide) rfl (fun ls hl => ?_)
  refine lv_goto (tgt := 5) S.1 S.2.1 dJ7_fill_53178_17 (by decide) ?_
  refine lv_iload_n S.1 S.2.1 dJ7_fill_53178_5 rfl (lv_at hl 0 rfl) ?_
  refine lv_iload_n S.1 S.2.1 dJ7_fill_53178_6 rfl (lv_at hl 1 rfl) ?_
  refine lv_icmp_ge (tgt := 20) S.1 S.2.1 dJ7_fill_53178_7 (by decide) (fun c => absurd c (by decide)) (fun _ => ?_)
  refine lv_aload_n S.1 S.2.1 dJ7_fill_53178_10 rfl (lv_at hl 2 rfl) ?_
  refine lv_iload_n S.1 S.2.1 dJ7_fill_53178_11 rfl (lv_at hl 0 rfl) ?_
  refine lv_iload_n S.1 S.2.1 dJ7_fill_53178_12 rfl (lv_at hl 3 rfl) ?_
  refine gx_iast (f' := upd (upd (upd (upd (upd (upd (upd (upd (upd (fun _ => 0) 0 (-1)) 1 (-1)) 2 (-1)) 3 (-1)) 4 (-1)) 5 (-1)) 6 (-1)) 7 (-1)) 8 (-1)) S hG 0 fu_s rfl (fin_l (by decide)) dJ7_fill_53178_13 (rfl) (fun H locs hG => ?_)
  refine lv_iinc (v := 9) (lv' := [(2, .int 9), (3, .int 20), (0, .ref (N0 + 61)), (1, .int (-1))]) S.1 S.2.1 dJ7_fill_53178_14 hl (k := 0) rfl (by decide) (by decide) rfl (fun ls hl => ?_)
  refine lv_goto (tgt := 5) S.1 S.2.1 dJ7_fill_53178_17 (by decide) ?_
  refine lv_iload_n S.1 S.2.1 dJ7_fill_53178_5 rfl (lv_at hl 0 rfl) ?_
  refine lv_iload_n S.1 S.2.1 dJ7_fill_53178_6 rfl (lv_at hl 1 rfl) ?_
  refine lv_icmp_ge (tgt := 20) S.1 S.2.1 dJ7_fill_53178_7 (by decide) (fun c => absurd c (by decide)) (fun _ => ?_)
  refine lv_aload_n S.1 S.2.1 dJ7_fill_53178_10 rfl (lv_at hl 2 rfl) ?_
  refine lv_iload_n S.1 S.2.1 dJ7_fill_53178_11 rfl (lv_at hl 0 rfl) ?_
  refine lv_iload_n S.1 S.2.1 dJ7_fill_53178_12 rfl (lv_at hl 3 rfl) ?_
  refine gx_iast (f' := upd (upd (upd (upd (upd (upd (upd (upd (upd (upd (fun _ => 0) 0 (-1)) 1 (-1)) 2 (-1)) 3 (-1)) 4 (-1)) 5 (-1)) 6 (-1)) 7 (-1)) 8 (-1)) 9 (-1)) S hG 0 fu_s rfl (fin_l (by decide)) dJ7_fill_53178_13 (rfl) (fun H locs hG => ?_)
  refine lv_iinc (v := 10) (lv' := [(2, .int 10), (3, .int 20), (0, .ref (N0 + 61)), (1, .int (-1))]) S.1 S.2.1 dJ7_fill_53178_14 hl (k := 0) rfl (by decide) (by decide) rfl (fun ls hl => ?_)
  refine lv_goto (tgt := 5) S.1 S.2.1 dJ7_fill_53178_17 (by decide) ?_
  refine lv_iload_n S.1 S.2.1 dJ7_fill_53178_5 rfl (lv_at hl 0 rfl) ?_
  refine lv_iload_n S.1 S.2.1 dJ7_fill_53178_6 rfl (lv_at hl 1 rfl) ?_
  refine lv_icmp_ge (tgt := 20) S.1 S.2.1 dJ7_fill_53178_7 (by decide) (fun c => absurd c (by decide)) (fun _ => ?_)
  refine lv_aload_n S.1 S.2.1 dJ7_fill_53178_10 rfl (lv_at hl 2 rfl) ?_
  refine lv_iload_n S.1 S.2.1 dJ7_fill_53178_11 rfl (lv_at hl 0 rfl) ?_
  refine lv_iload_n S.1 S.2.1 dJ7_fill_53178_12 rfl (lv_at hl 3 rfl) ?_
  refine gx_iast (f' := upd (upd (upd (upd (upd (upd (upd (upd (upd (upd (upd (fun _ => 0) 0 (-1)) 1 (-1)) 2 (-1)) 3 (-1)) 4 (-1)) 5 (-1)) 6 (-1)) 7 (-1)) 8 (-1)) 9 (-1)) 10 (-1)) S hG 0 fu_s rfl (fin_l (by decide)) dJ7_fill_53178_13 (rfl) (fun H locs hG => ?_)
  refine lv_iinc (v := 11) (lv' := [(2, .int 11), (3, .int 20), (0, .ref (N0 + 61)), (1, .int (-1))]) S.1 S.2.1 dJ7_fill_53178_14 hl (k := 0) rfl (by decide) (by decide) rfl (fun ls hl => ?_)
  refine lv_goto (tgt := 5) S.1 S.2.1 dJ7_fill_53178_17 (by decide) ?_
  refine lv_iload_n S.1 S.2.1 dJ7_fill_53178_5 rfl (lv_at hl 0 rfl) ?_
  refine lv_iload_n S.1 S.2.1 dJ7_fill_53178_6 rfl (lv_at hl 1 rfl) ?_
  refine lv_icmp_ge (tgt := 20) S.1 S.2.1 dJ7_fill_53178_7 (by decide) (fun c => absurd c (by decide)) (fun _ => ?_)
  refine lv_aload_n S.1 S.2.1 dJ7_fill_53178_10 rfl (lv_at hl 2 rfl) ?_
  refine lv_iload_n S.1 S.2.1 dJ7_fill_53178_11 rfl (lv_at hl 0 rfl) ?_
  refine lv_iload_n S.1 S.2.1 dJ7_fill_53178_12 rfl (lv_at hl 3 rfl) ?_
  refine gx_iast (f' := upd (upd (upd (upd (upd (upd (upd (upd (upd (upd (upd (upd (fun _ => 0) 0 (-1)) 1 (-1)) 2 (-1)) 3 (-1)) 4 (-1)) 5 (-1)) 6 (-1)) 7 (-1)) 8 (-1)) 9 (-1)) 10 (-1)) 11 (-1)) S hG 0 fu_s rfl (fin_l (by decide)) dJ7_fill_53178_13 (rfl) (fun H locs hG => ?_)
  refine lv_iinc (v := 12) (lv' := [(2, .int 12), (3, .int 20), (0, .ref (N0 + 61)), (1, .int (-1))]) S.1 S.2.1 dJ7_fill_53178_14 hl (k := 0) rfl (by decide) (by decide) rfl (fun ls hl => ?_)
  refine lv_goto (tgt := 5) S.1 S.2.1 dJ7_fill_53178_17 (by decide) ?_
  refine lv_iload_n S.1 S.2.1 dJ7_fill_53178_5 rfl (lv_at hl 0 rfl) ?_
  refine lv_iload_n S.1 S.2.1 dJ7_fill_53178_6 rfl (lv_at hl 1 rfl) ?_
  refine lv_icmp_ge (tgt := 20) S.1 S.2.1 dJ7_fill_53178_7 (by decide) (fun c => absurd c (by decide)) (fun _ => ?_)
  refine lv_aload_n S.1 S.2.1 dJ7_fill_53178_10 rfl (lv_at hl 2 rfl) ?_
  refine lv_iload_n S.1 S.2.1 dJ7_fill_53178_11 rfl (lv_at hl 0 rfl) ?_
  refine lv_iload_n S.1 S.2.1 dJ7_fill_53178_12 rfl (lv_at hl 3 rfl) ?_
  refine gx_iast (f' := upd (upd (upd (upd (upd (upd (upd (upd (upd (upd (upd (upd (upd (fun _ => 0) 0 (-1)) 1 (-1)) 2 (-1)) 3 (-1)) 4 (-1)) 5 (-1)) 6 (-1)) 7 (-1)) 8 (-1)) 9 (-1)) 10 (-1)) 11 (-1)) 12 (-1)) S hG 0 fu_s rfl (fin_l (by decide)) dJ7_fill_53178_13 (rfl) (fun H locs hG => ?_)
  refine lv_iinc (v := 13) (lv' := [(2, .int 13), (3, .int 20), (0, .ref (N0 + 61)), (1, .int (-1))]) S.1 S.2.1 dJ7_fill_53178_14 hl (k := 0) rfl (by decide) (by decide) rfl (fun ls hl => ?_)
  refine lv_goto (tgt := 5) S.1 S.2.1 dJ7_fill_53178_17 (by decide) ?_
  refine lv_iload_n S.1 S.2.1 dJ7_fill_53178_5 rfl (lv_at hl 0 rfl) ?_
  refine lv_iload_n S.1 S.2.1 dJ7_fill_53178_6 rfl (lv_at hl 1 rfl) ?_
  refine lv_icmp_ge (tgt := 20) S.1 S.2.1 dJ7_fill_53178_7 (by decide) (fun c => absurd c (by decide)) (fun _ => ?_)
  refine lv_aload_n S.1 S.2.1 dJ7_fill_53178_10 rfl (lv_at hl 2 rfl) ?_
  refine lv_iload_n S.1 S.2.1 dJ7_fill_53178_11 rfl (lv_at hl 0 rfl) ?_
  refine lv_iload_n S.1 S.2.1 dJ7_fill_53178_12 rfl (lv_at hl 3 rfl) ?_
  refine gx_iast (f' := upd (upd (upd (upd (upd (upd (upd (upd (upd (upd (upd (upd (upd (upd (fun _ => 0) 0 (-1)) 1 (-1)) 2 (-1)) 3 (-1)) 4 (-1)) 5 (-1)) 6 (-1)) 7 (-1)) 8 (-1)) 9 (-1)) 10 (-1)) 11 (-1)) 12 (-1)) 13 (-1)) S hG 0 fu_s rfl (fin_l (by decide)) dJ7_fill_53178_13 (rfl) (fun H locs hG => ?_)
  refine lv_iinc (v := 14) (lv' := [(2, .int 14), (3, .int 20), (0, .ref (N0 + 61)), (1, .int (-1))]) S.1 S.2.1 dJ7_fill_53178_14 hl (k := 0) rfl (by decide) (by decide) rfl (fun ls hl => ?_)
  refine lv_goto (tgt := 5) S.1 S.2.1 dJ7_fill_53178_17 (by decide) ?_
  refine lv_iload_n S.1 S.2.1 dJ7_fill_53178_5 rfl (lv_at hl 0 rfl) ?_
  refine lv_iload_n S.1 S.2.1 dJ7_fill_53178_6 rfl (lv_at hl 1 rfl) ?_
  refine lv_icmp_ge (tgt := 20) S.1 S.2.1 dJ7_fill_53178_7 (by decide) (fun c => absurd c (by decide)) (fun _ => ?_)
  refine lv_aload_n S.1 S.2.1 dJ7_fill_53178_10 rfl (lv_at hl 2 rfl) ?_
  refine lv_iload_n S.1 S.2.1 dJ7_fill_53178_11 rfl (lv_at hl 0 rfl) ?_
  refine lv_iload_n S.1 S.2.1 dJ7_fill_53178_12 rfl (lv_at hl 3 rfl) ?_
  refine gx_iast (f' := upd (upd (upd (upd (upd (upd (upd (upd (upd (upd (upd (upd (upd (upd (upd (fun _ => 0) 0 (-1)) 1 (-1)) 2 (-1)) 3 (-1)) 4 (-1)) 5 (-1)) 6 (-1)) 7 (-1)) 8 (-1)) 9 (-1)) 10 (-1)) 11 (-1)) 12 (-1)) 13 (-1)) 14 (-1)) S hG 0 fu_s rfl (fin_l (by decide)) dJ7_fill_53178_13 (rfl) (fun H locs hG => ?_)
  refine lv_iinc (v := 15) (lv' := [(2, .int 15), (3, .int 20), (0, .ref (N0 + 61)), (1, .int (-1))]) S.1 S.2.1 dJ7_fill_53178_14 hl (k := 0) rfl (by decide) (by decide) rfl (fun ls hl => ?_)
  refine lv_goto (tgt := 5) S.1 S.2.1 dJ7_fill_53178_17 (by decide) ?_
  refine lv_iload_n S.1 S.2.1 dJ7_fill_53178_5 rfl (lv_at hl 0 rfl) ?_
  refine lv_iload_n S.1 S.2.1 dJ7_fill_53178_6 rfl (lv_at hl 1 rfl) ?_
  refine lv_icmp_ge (tgt := 20) S.1 S.2.1 dJ7_fill_53178_7 (by decide) (fun c => absurd c (by decide)) (fun _ => ?_)
  refine lv_aload_n S.1 S.2.1 dJ7_fill_53178_10 rfl (lv_at hl 2 rfl) ?_
  refine lv_iload_n S.1 S.2.1 dJ7_fill_53178_11 rfl (lv_at hl 0 rfl) ?_
  refine lv_iload_n S.1 S.2.1 dJ7_fill_53178_12 rfl (lv_at hl 3 rfl) ?_
  refine gx_iast (f' := upd (upd (upd (upd (upd (upd (upd (upd (upd (upd (upd (upd (upd (upd (upd (upd (fun _ => 0) 0 (-1)) 1 (-1)) 2 (-1)) 3 (-1)) 4 (-1)) 5 (-1)) 6 (-1)) 7 (-1)) 8 (-1)) 9 (-1)) 10 (-1)) 11 (-1)) 12 (-1)) 13 (-1)) 14 (-1)) 15 (-1)) S hG 0 fu_s rfl (fin_l (by decide)) dJ7_fill_53178_13 (rfl) (fun H locs hG => ?_)
  refine lv_iinc (v := 16) (lv' := [(2, .int 16), (3, .int 20), (0, .ref (N0 + 61)), (1, .int (-1))]) S.1 S.2.1 dJ7_fill_53178_14 hl (k := 0) rfl (by decide) (by decide) rfl (fun ls hl => ?_)
  refine lv_goto (tgt := 5) S.1 S.2.1 dJ7_fill_53178_17 (by decide) ?_
  refine lv_iload_n S.1 S.2.1 dJ7_fill_53178_5 rfl (lv_at hl 0 rfl) ?_
  refine lv_iload_n S.1 S.2.1 dJ7_fill_53178_6 rfl (lv_at hl 1 rfl) ?_
  refine lv_icmp_ge (tgt := 20) S.1 S.2.1 dJ7_fill_53178_7 (by decide) (fun c => absurd c (by decide)) (fun _ => ?_)
  refine lv_aload_n S.1 S.2.1 dJ7_fill_53178_10 rfl (lv_at hl 2 rfl) ?_
  refine lv_iload_n S.1 S.2.1 dJ7_fill_53178_11 rfl (lv_at hl 0 rfl) ?_
  refine lv_iload_n S.1 S.2.1 dJ7_fill_53178_12 rfl (lv_at hl 3 rfl) ?_
  refine gx_iast (f' := upd (upd (upd (upd (upd (upd (upd (upd (upd (upd (upd (upd (upd (upd (upd (upd (upd (fun _ => 0) 0 (-1)) 1 (-1)) 2 (-1)) 3 (-1)) 4 (-1)) 5 (-1)) 6 (-1)) 7 (-1)) 8 (-1)) 9 (-1)) 10 (-1)) 11 (-1)) 12 (-1)) 13 (-1)) 14 (-1)) 15 (-1)) 16 (-1)) S hG 0 fu_s rfl (fin_l (by decide)) dJ7_fill_53178_13 (rfl) (fun H locs hG => ?_)
  refine lv_iinc (v := 17) (lv' := [(2, .int 17), (3, .int 20), (0, .ref (N0 + 61)), (1, .int (-1))]) S.1 S.2.1 dJ7_fill_53178_14 hl (k := 0) rfl (by decide) (by decide) rfl (fun ls hl => ?_)
  refine lv_goto (tgt := 5) S.1 S.2.1 dJ7_fill_53178_17 (by decide) ?_
  refine lv_iload_n S.1 S.2.1 dJ7_fill_53178_5 rfl (lv_at hl 0 rfl) ?_
  refine lv_iload_n S.1 S.2.1 dJ7_fill_53178_6 rfl (lv_at hl 1 rfl) ?_
  refine lv_icmp_ge (tgt := 20) S.1 S.2.1 dJ7_fill_53178_7 (by decide) (fun c => absurd c (by decide)) (fun _ => ?_)
  refine lv_aload_n S.1 S.2.1 dJ7_fill_53178_10 rfl (lv_at hl 2 rfl) ?_
  refine lv_iload_n S.1 S.2.1 dJ7_fill_53178_11 rfl (lv_at hl 0 rfl) ?_
  refine lv_iload_n S.1 S.2.1 dJ7_fill_53178_12 rfl (lv_at hl 3 rfl) ?_
  refine gx_iast (f' := upd (upd (upd (upd (upd (upd (upd (upd (upd (upd (upd (upd (upd (upd (upd (upd (upd (upd (fun _ => 0) 0 (-1)) 1 (-1)) 2 (-1)) 3 (-1)) 4 (-1)) 5 (-1)) 6 (-1)) 7 (-1)) 8 (-1)) 9 (-1)) 10 (-1)) 11 (-1)) 12 (-1)) 13 (-1)) 14 (-1)) 15 (-1)) 16 (-1)) 17 (-1)) S hG 0 fu_s rfl (fin_l (by decide)) dJ7_fill_53178_13 (rfl) (fun H locs hG => ?_)
  refine lv_iinc (v := 18) (lv' := [(2, .int 18), (3, .int 20), (0, .ref (N0 + 61)), (1, .int (-1))]) S.1 S.2.1 dJ7_fill_53178_14 hl (k := 0) rfl (by decide) (by decide) rfl (fun ls hl => ?_)
  refine lv_goto (tgt := 5) S.1 S.2.1 dJ7_fill_53178_17 (by decide) ?_
  refine lv_iload_n S.1 S.2.1 dJ7_fill_53178_5 rfl (lv_at hl 0 rfl) ?_
  refine lv_iload_n S.1 S.2.1 dJ7_fill_53178_6 rfl (lv_at hl 1 rfl) ?_
  refine lv_icmp_ge (tgt := 20) S.1 S.2.1 dJ7_fill_53178_7 (by decide) (fun c => absurd c (by decide)) (fun _ => ?_)
  refine lv_aload_n S.1 S.2.1 dJ7_fill_53178_10 rfl (lv_at hl 2 rfl) ?_
  refine lv_iload_n S.1 S.2.1 dJ7_fill_53178_11 rfl (lv_at hl 0 rfl) ?_
  refine lv_iload_n S.1 S.2.1 dJ7_fill_53178_12 rfl (lv_at hl 3 rfl) ?_
  refine gx_iast (f' := upd (upd (upd (upd (upd (upd (upd (upd (upd (upd (upd (upd (upd (upd (upd (upd (upd (upd (upd (fun _ => 0) 0 (-1)) 1 (-1)) 2 (-1)) 3 (-1)) 4 (-1)) 5 (-1)) 6 (-1)) 7 (-1)) 8 (-1)) 9 (-1)) 10 (-1)) 11 (-1)) 12 (-1)) 13 (-1)) 14 (-1)) 15 (-1)) 16 (-1)) 17 (-1)) 18 (-1)) S hG 0 fu_s rfl (fin_l (by decide)) dJ7_fill_53178_13 (rfl) (fun H locs hG => ?_)
  refine lv_iinc (v := 19) (lv' := [(2, .int 19), (3, .int 20), (0, .ref (N0 + 61)), (1, .int (-1))]) S.1 S.2.1 dJ7_fill_53178_14 hl (k := 0) rfl (by decide) (by decide) rfl (fun ls hl => ?_)
  refine lv_goto (tgt := 5) S.1 S.2.1 dJ7_fill_53178_17 (by decide) ?_
  refine lv_iload_n S.1 S.2.1 dJ7_fill_53178_5 rfl (lv_at hl 0 rfl) ?_
  refine lv_iload_n S.1 S.2.1 dJ7_fill_53178_6 rfl (lv_at hl 1 rfl) ?_
  refine lv_icmp_ge (tgt := 20) S.1 S.2.1 dJ7_fill_53178_7 (by decide) (fun c => absurd c (by decide)) (fun _ => ?_)
  refine lv_aload_n S.1 S.2.1 dJ7_fill_53178_10 rfl (lv_at hl 2 rfl) ?_
  refine lv_iload_n S.1 S.2.1 dJ7_fill_53178_11 rfl (lv_at hl 0 rfl) ?_
  refine lv_iload_n S.1 S.2.1 dJ7_fill_53178_12 rfl (lv_at hl 3 rfl) ?_
  refine gx_iast (f' := upd (upd (upd (upd (upd (upd (upd (upd (upd (upd (upd (upd (upd (upd (upd (upd (upd (upd (upd (upd (fun _ => 0) 0 (-1)) 1 (-1)) 2 (-1)) 3 (-1)) 4 (-1)) 5 (-1)) 6 (-1)) 7 (-1)) 8 (-1)) 9 (-1)) 10 (-1)) 11 (-1)) 12 (-1)) 13 (-1)) 14 (-1)) 15 (-1)) 16 (-1)) 17 (-1)) 18 (-1)) 19 (-1)) S hG 0 fu_s rfl (fin_l (by decide)) dJ7_fill_53178_13 (rfl) (fun H locs hG => ?_)
  refine lv_iinc (v := 20) (lv' := [(2, .int 20), (3, .int 20), (0, .ref (N0 + 61)), (1, .int (-1))]) S.1 S.2.1 dJ7_fill_53178_14 hl (k := 0) rfl (by decide) (by decide) rfl (fun ls hl => ?_)
  refine lv_goto (tgt := 5) S.1 S.2.1 dJ7_fill_53178_17 (by decide) ?_
  refine lv_iload_n S.1 S.2.1 dJ7_fill_53178_5 rfl (lv_at hl 0 rfl) ?_
  refine lv_iload_n S.1 S.2.1 dJ7_fill_53178_6 rfl (lv_at hl 1 rfl) ?_
  refine lv_icmp_ge (tgt := 20) S.1 S.2.1 dJ7_fill_53178_7 (by decide) (fun _ => ?_) (fun c => absurd (by decide) c)
  have hG : fG N0 D vwCl (fty cI cC cL cD cII cTr cTm cIt cB) (fen ql) s (fu F (N0 + 61) (.inl (cI, 20, .inl (upd (upd (upd (upd (upd (upd (upd (upd (upd (upd (upd (upd (upd (upd (upd (upd (upd (upd (upd (upd (fun _ => 0) 0 (-1)) 1 (-1)) 2 (-1)) 3 (-1)) 4 (-1)) 5 (-1)) 6 (-1)) 7 (-1)) 8 (-1)) 9 (-1)) 10 (-1)) 11 (-1)) 12 (-1)) 13 (-1)) 14 (-1)) 15 (-1)) 16 (-1)) 17 (-1)) 18 (-1)) 19 (-1))))) n H locs := hG.weak (fun a e h => by
    rcases fu_cases h with ⟨rfl, he⟩ | ⟨hne0, h⟩
    · cases he; exact fu_s
    · exact (fu_at (by omega) (fu_at (by omega) (fu_at (by omega) (fu_at (by omega) (fu_at (by omega) (fu_at (by omega) (fu_at (by omega) (fu_at (by omega) (fu_at (by omega) (fu_at (by omega) (fu_at (by omega) (fu_at (by omega) (fu_at (by omega) (fu_at (by omega) (fu_at (by omega) (fu_at (by omega) (fu_at (by omega) (fu_at (by omega) (fu_at (by omega) (fu_at (by omega) h)))))))))))))))))))))
  exact fx_vret S hr hlocks () hG trivial dJ7_fill_53178_20
set_option maxHeartbeats 16000000 in
theorem k1441_J7_fill_53178 {n : Nat} (hn : N0 + 231 ≤ n) (h0 : F (N0 + 62) = some (.inl (cI, 20, .inl (fun _ => 0)))) : Met l yJ7_fill_53178 wsJ7_fill_53178 ({ frames := 0, cells := 0, slots := 0, locals := 0 }) (va_Pc [.ref (N0 + 62), .int (-1)] (fP N0 D vwCl (fty cI cC cL cD cII cTr cTm cIt cB) (fen ql) F n)) (fQv N0 D vwCl (fty cI cC cL cD cII cTr cTm cIt cB) (fun (_ : Unit) => True) (fun _ => (fu F (N0 + 62) (.inl (cI, 20, .inl (upd (upd (upd (upd (upd (upd (upd (upd (upd (upd (upd (upd (upd (upd (upd (upd (upd (upd (upd (upd (fun _ => 0) 0 (-1)) 1 (-1)) 2 (-1)) 3 (-1)) 4 (-1)) 5 (-1)) 6 (-1)) 7 (-1)) 8 (-1)) 9 (-1)) 10 (-1)) 11 (-1)) 12 (-1)) 13 (-1)) 14 (-1)) 15 (-1)) 16 (-1)) 17 (-1)) 18 (-1)) 19 (-1)))))) (fun _ => n)) 0 0 (fA N0) := by
  refine fx_start 4 rfl rfl (Nat.le_of_ble_eq_true rfl) ?_ rfl
  intro p e s m below meth c ls S hr hlocks hin hG hl
  have hl : lv_has ls 4 [(0, .ref (N0 + 62)), (1, .int (-1))] := hl
  have lt_h0 := hG.1.lt h0
  refine lv_iconst (v := 0) S.1 S.2.1 dJ7_fill_53178_0 (by decide) ?_
  refine lv_istore_n (lv' := [(2, .int 0), (0, .ref (N0 + 62)), (1, .int (-1))]) S.1 S.2.1 dJ7_fill_53178_1 rfl hl (by decide) rfl (fun ls hl => ?_)
  refine lv_aload_n S.1 S.2.1 dJ7_fill_53178_2 rfl (lv_at hl 1 rfl) ?_
  refine gx_alen (v := 20) S hG 0 h0 rfl (rfl) dJ7_fill_53178_3 ?_
  refine lv_istore_n (lv' := [(3, .int 20), (2, .int 0), (0, .ref (N0 + 62)), (1, .int (-1))]) S.1 S.2.1 dJ7_fill_53178_4 rfl hl (by decide) rfl (fun ls hl => ?_)
  refine lv_iload_n S.1 S.2.1 dJ7_fill_53178_5 rfl (lv_at hl 1 rfl) ?_
  refine lv_iload_n S.1 S.2.1 dJ7_fill_53178_6 rfl (lv_at hl 0 rfl) ?_
  refine lv_icmp_ge (tgt := 20) S.1 S.2.1 dJ7_fill_53178_7 (by decide) (fun c => absurd c (by decide)) (fun _ => ?_)
  refine lv_aload_n S.1 S.2.1 dJ7_fill_53178_10 rfl (lv_at hl 2 rfl) ?_
  refine lv_iload_n S.1 S.2.1 dJ7_fill_53178_11 rfl (lv_at hl 1 rfl) ?_
  refine lv_iload_n S.1 S.2.1 dJ7_fill_53178_12 rfl (lv_at hl 3 rfl) ?_
  refine gx_iast (f' := upd (fun _ => 0) 0 (-1)) S hG 0 h0 rfl (fin_l (by decide)) dJ7_fill_53178_13 (rfl) (fun H locs hG => ?_)
  refine lv_iinc (v := 1) (lv' := [(2, .int 1), (3, .int 20), (0, .ref (N0 + 62)), (1, .int (-1))]) S.1 S.2.1 dJ7_fill_53178_14 hl (k := 1) rfl (by decide) (by decide) rfl (fun ls hl => ?_)
  refine lv_goto (tgt := 5) S.1 S.2.1 dJ7_fill_53178_17 (by decide) ?_
  refine lv_iload_n S.1 S.2.1 dJ7_fill_53178_5 rfl (lv_at hl 0 rfl) ?_
  refine lv_iload_n S.1 S.2.1 dJ7_fill_53178_6 rfl (lv_at hl 1 rfl) ?_
  refine lv_icmp_ge (tgt := 20) S.1 S.2.1 dJ7_fill_53178_7 (by decide) (fun c => absurd c (by decide)) (fun _ => ?_)
  refine lv_aload_n S.1 S.2.1 dJ7_fill_53178_10 rfl (lv_at hl 2 rfl) ?_
  refine lv_iload_n S.1 S.2.1 dJ7_fill_53178_11 rfl (lv_at hl 0 rfl) ?_
  refine lv_iload_n S.1 S.2.1 dJ7_fill_53178_12 rfl (lv_at hl 3 rfl) ?_
  refine gx_iast (f' := upd (upd (fun _ => 0) 0 (-1)) 1 (-1)) S hG 0 fu_s rfl (fin_l (by decide)) dJ7_fill_53178_13 (rfl) (fun H locs hG => ?_)
  refine lv_iinc (v := 2) (lv' := [(2, .int 2), (3, .int 20), (0, .ref (N0 + 62)), (1, .int (-1))]) S.1 S.2.1 dJ7_fill_53178_14 hl (k := 0) rfl (by decide) (by decide) rfl (fun ls hl => ?_)
  refine lv_goto (tgt := 5) S.1 S.2.1 dJ7_fill_53178_17 (by decide) ?_
  refine lv_iload_n S.1 S.2.1 dJ7_fill_53178_5 rfl (lv_at hl 0 rfl) ?_
  refine lv_iload_n S.1 S.2.1 dJ7_fill_53178_6 rfl (lv_at hl 1 rfl) ?_
  refine lv_icmp_ge (tgt := 20) S.1 S.2.1 dJ7_fill_53178_7 (by decide) (fun c => absurd c (by decide)) (fun _ => ?_)
  refine lv_aload_n S.1 S.2.1 dJ7_fill_53178_10 rfl (lv_at hl 2 rfl) ?_
  refine lv_iload_n S.1 S.2.1 dJ7_fill_53178_11 rfl (lv_at hl 0 rfl) ?_
  refine lv_iload_n S.1 S.2.1 dJ7_fill_53178_12 rfl (lv_at hl 3 rfl) ?_
  refine gx_iast (f' := upd (upd (upd (fun _ => 0) 0 (-1)) 1 (-1)) 2 (-1)) S hG 0 fu_s rfl (fin_l (by decide)) dJ7_fill_53178_13 (rfl) (fun H locs hG => ?_)
  refine lv_iinc (v := 3) (lv' := [(2, .int 3), (3, .int 20), (0, .ref (N0 + 62)), (1, .int (-1))]) S.1 S.2.1 dJ7_fill_53178_14 hl (k := 0) rfl (by decide) (by decide) rfl (fun ls hl => ?_)
  refine lv_goto (tgt := 5) S.1 S.2.1 dJ7_fill_53178_17 (by decide) ?_
  refine lv_iload_n S.1 S.2.1 dJ7_fill_53178_5 rfl (lv_at hl 0 rfl) ?_
  refine lv_iload_n S.1 S.2.1 dJ7_fill_53178_6 rfl (lv_at hl 1 rfl) ?_
  refine lv_icmp_ge (tgt := 20) S.1 S.2.1 dJ7_fill_53178_7 (by decide) (fun c => absurd c (by decide)) (fun _ => ?_)
  refine lv_aload_n S.1 S.2.1 dJ7_fill_53178_10 rfl (lv_at hl 2 rfl) ?_
  refine lv_iload_n S.1 S.2.1 dJ7_fill_53178_11 rfl (lv_at hl 0 rfl) ?_
  refine lv_iload_n S.1 S.2.1 dJ7_fill_53178_12 rfl (lv_at hl 3 rfl) ?_
  refine gx_iast (f' := upd (upd (upd (upd (fun _ => 0) 0 (-1)) 1 (-1)) 2 (-1)) 3 (-1)) S hG 0 fu_s rfl (fin_l (by decide)) dJ7_fill_53178_13 (rfl) (fun H locs hG => ?_)
  refine lv_iinc (v := 4) (lv' := [(2, .int 4), (3, .int 20), (0, .ref (N0 + 62)), (1, .int (-1))]) S.1 S.2.1 dJ7_fill_53178_14 hl (k := 0) rfl (by decide) (by decide) rfl (fun ls hl => ?_)
  refine lv_goto (tgt := 5) S.1 S.2.1 dJ7_fill_53178_17 (by decide) ?_
  refine lv_iload_n S.1 S.2.1 dJ7_fill_53178_5 rfl (lv_at hl 0 rfl) ?_
  refine lv_iload_n S.1 S.2.1 dJ7_fill_53178_6 rfl (lv_at hl 1 rfl) ?_
  refine lv_icmp_ge (tgt := 20) S.1 S.2.1 dJ7_fill_53178_7 (by decide) (fun c => absurd c (by decide)) (fun _ => ?_)
  refine lv_aload_n S.1 S.2.1 dJ7_fill_53178_10 rfl (lv_at hl 2 rfl) ?_
  refine lv_iload_n S.1 S.2.1 dJ7_fill_53178_11 rfl (lv_at hl 0 rfl) ?_
  refine lv_iload_n S.1 S.2.1 dJ7_fill_53178_12 rfl (lv_at hl 3 rfl) ?_
  refine gx_iast (f' := upd (upd (upd (upd (upd (fun _ => 0) 0 (-1)) 1 (-1)) 2 (-1)) 3 (-1)) 4 (-1)) S hG 0 fu_s rfl (fin_l (by decide)) dJ7_fill_53178_13 (rfl) (fun H locs hG => ?_)
  refine lv_iinc (v := 5) (lv' := [(2, .int 5), (3, .int 20), (0, .ref (N0 + 62)), (1, .int (-1))]) S.1 S.2.1 dJ7_fill_53178_14 hl (k := 0) rfl (by decide) (by decide) rfl (fun ls hl => ?_)
  refine lv_goto (tgt := 5) S.1 S.2.1 dJ7_fill_53178_17 (by decide) ?_
  refine lv_iload_n S.1 S.2.1 dJ7_fill_53178_5 rfl (lv_at hl 0 rfl) ?_
  refine lv_iload_n S.1 S.2.1 dJ7_fill_53178_6 rfl (lv_at hl 1 rfl) ?_
  refine lv_icmp_ge (tgt := 20) S.1 S.2.1 dJ7_fill_53178_7 (by decide) (fun c => absurd c (by decide)) (fun _ => ?_)
  refine lv_aload_n S.1 S.2.1 dJ7_fill_53178_10 rfl (lv_at hl 2 rfl) ?_
  refine lv_iload_n S.1 S.2.1 dJ7_fill_53178_11 rfl (lv_at hl 0 rfl) ?_
  refine lv_iload_n S.1 S.2.1 dJ7_fill_53178_12 rfl (lv_at hl 3 rfl) ?_
  refine gx_iast (f' := upd (upd (upd (upd (upd (upd (fun _ => 0) 0 (-1)) 1 (-1)) 2 (-1)) 3 (-1)) 4 (-1)) 5 (-1)) S hG 0 fu_s rfl (fin_l (by decide)) dJ7_fill_53178_13 (rfl) (fun H locs hG => ?_)
  refine lv_iinc (v := 6) (lv' := [(2, .int 6), (3, .int 20), (0, .ref (N0 + 62)), (1, .int (-1))]) S.1 S.2.1 dJ7_fill_53178_14 hl (k := 0) rfl (by decide) (by decide) rfl (fun ls hl => ?_)
  refine lv_goto (tgt := 5) S.1 S.2.1 dJ7_fill_53178_17 (by decide) ?_
  refine lv_iload_n S.1 S.2.1 dJ7_fill_53178_5 rfl (lv_at hl 0 rfl) ?_
  refine lv_iload_n S.1 S.2.1 dJ7_fill_53178_6 rfl (lv_at hl 1 rfl) ?_
  refine lv_icmp_ge (tgt := 20) S.1 S.2.1 dJ7_fill_53178_7 (by decide) (fun c => absurd c (by decide)) (fun _ => ?_)
  refine lv_aload_n S.1 S.2.1 dJ7_fill_53178_10 rfl (lv_at hl 2 rfl) ?_
  refine lv_iload_n S.1 S.2.1 dJ7_fill_53178_11 rfl (lv_at hl 0 rfl) ?_
  refine lv_iload_n S.1 S.2.1 dJ7_fill_53178_12 rfl (lv_at hl 3 rfl) ?_
  refine gx_iast (f' := upd (upd (upd (upd (upd (upd (upd (fun _ => 0) 0 (-1)) 1 (-1)) 2 (-1)) 3 (-1)) 4 (-1)) 5 (-1)) 6 (-1)) S hG 0 fu_s rfl (fin_l (by decide)) dJ7_fill_53178_13 (rfl) (fun H locs hG => ?_)
  refine lv_iinc (v := 7) (lv' := [(2, .int 7), (3, .int 20), (0, .ref (N0 + 62)), (1, .int (-1))]) S.1 S.2.1 dJ7_fill_53178_14 hl (k := 0) rfl (by decide) (by decide) rfl (fun ls hl => ?_)
  refine lv_goto (tgt := 5) S.1 S.2.1 dJ7_fill_53178_17 (by decide) ?_
  refine lv_iload_n S.1 S.2.1 dJ7_fill_53178_5 rfl (lv_at hl 0 rfl) ?_
  refine lv_iload_n S.1 S.2.1 dJ7_fill_53178_6 rfl (lv_at hl 1 rfl) ?_
  refine lv_icmp_ge (tgt := 20) S.1 S.2.1 dJ7_fill_53178_7 (by decide) (fun c => absurd c (by decide)) (fun _ => ?_)
  refine lv_aload_n S.1 S.2.1 dJ7_fill_53178_10 rfl (lv_at hl 2 rfl) ?_
  refine lv_iload_n S.1 S.2.1 dJ7_fill_53178_11 rfl (lv_at hl 0 rfl) ?_
  refine lv_iload_n S.1 S.2.1 dJ7_fill_53178_12 rfl (lv_at hl 3 rfl) ?_
  refine gx_iast (f' := upd (upd (upd (upd (upd (upd (upd (upd (fun _ => 0) 0 (-1)) 1 (-1)) 2 (-1)) 3 (-1)) 4 (-1)) 5 (-1)) 6 (-1)) 7 (-1)) S hG 0 fu_s rfl (fin_l (by decide)) dJ7_fill_53178_13 (rfl) (fun H locs hG => ?_)
  refine lv_iinc (v := 8) (lv' := [(2, .int 8), (3, .int 20), (0, .ref (N0 + 62)), (1, .int (-1))]) S.1 S.2.1 dJ7_fill_53178_14 hl (k := 0) rfl (by decide) (by decide) rfl (fun ls hl => ?_)
  refine lv_goto (tgt := 5) S.1 S.2.1 dJ7_fill_53178_17 (by decide) ?_
  refine lv_iload_n S.1 S.2.1 dJ7_fill_53178_5 rfl (lv_at hl 0 rfl) ?_
  refine lv_iload_n S.1 S.2.1 dJ7_fill_53178_6 rfl (lv_at hl 1 rfl) ?_
  refine lv_icmp_ge (tgt := 20) S.1 S.2.1 dJ7_fill_53178_7 (by decide) (fun c => absurd c (by decide)) (fun _ => ?_)
  refine lv_aload_n S.1 S.2.1 dJ7_fill_53178_10 rfl (lv_at hl 2 rfl) ?_
  refine lv_iload_n S.1 S.2.1 dJ7_fill_53178_11 rfl (lv_at hl 0 rfl) ?_
  refine lv_iload_n S.1 S.2.1 dJ7_fill_53178_12 rfl (lv_at hl 3 rfl) ?_
  refine gx_iast (f' := upd (upd (upd (upd (upd (upd (upd (upd (upd (fun _ => 0) 0 (-1)) 1 (-1)) 2 (-1)) 3 (-1)) 4 (-1)) 5 (-1)) 6 (-1)) 7 (-1)) 8 (-1)) S hG 0 fu_s rfl (fin_l (by decide)) dJ7_fill_53178_13 (rfl) (fun H locs hG => ?_)
  refine lv_iinc (v := 9) (lv' := [(2, .int 9), (3, .int 20), (0, .ref (N0 + 62)), (1, .int (-1))]) S.1 S.2.1 dJ7_fill_53178_14 hl (k := 0) rfl (by decide) (by decide) rfl (fun ls hl => ?_)
  refine lv_goto (tgt := 5) S.1 S.2.1 dJ7_fill_53178_17 (by decide) ?_
  refine lv_iload_n S.1 S.2.1 dJ7_fill_53178_5 rfl (lv_at hl 0 rfl) ?_
  refine lv_iload_n S.1 S.2.1 dJ7_fill_53178_6 rfl (lv_at hl 1 rfl) ?_
  refine lv_icmp_ge (tgt := 20) S.1 S.2.1 dJ7_fill_53178_7 (by decide) (fun c => absurd c (by decide)) (fun _ => ?_)
  refine lv_aload_n S.1 S.2.1 dJ7_fill_53178_10 rfl (lv_at hl 2 rfl) ?_
  refine lv_iload_n S.1 S.2.1 dJ7_fill_53178_11 rfl (lv_at hl 0 rfl) ?_
  refine lv_iload_n S.1 S.2.1 dJ7_fill_53178_12 rfl (lv_at hl 3 rfl) ?_
  refine gx_iast (f' := upd (upd (upd (upd (upd (upd (upd (upd (upd (upd (fun _ => 0) 0 (-1)) 1 (-1)) 2 (-1)) 3 (-1)) 4 (-1)) 5 (-1)) 6 (-1)) 7 (-1)) 8 (-1)) 9 (-1)) S hG 0 fu_s rfl (fin_l (by decide)) dJ7_fill_53178_13 (rfl) (fun H locs hG => ?_)
  refine lv_iinc (v := 10) (lv' := [(2, .int 10), (3, .int 20), (0, .ref (N0 + 62)), (1, .int (-1))]) S.1 S.2.1 dJ7_fill_53178_14 hl (k := 0) rfl (by decide) (by decide) rfl (fun ls hl => ?_)
  refine lv_goto (tgt := 5) S.1 S.2.1 dJ7_fill_53178_17 (by decide) ?_
  refine lv_iload_n S.1 S.2.1 dJ7_fill_53178_5 rfl (lv_at hl 0 rfl) ?_
  refine lv_iload_n S.1 S.2.1 dJ7_fill_53178_6 rfl (lv_at hl 1 rfl) ?_
  refine lv_icmp_ge (tgt := 20) S.1 S.2.1 dJ7_fill_53178_7 (by decide) (fun c => absurd c (by decide)) (fun _ => ?_)
  refine lv_aload_n S.1 S.2.1 dJ7_fill_53178_10 rfl (lv_at hl 2 rfl) ?_
  refine lv_iload_n S.1 S.2.1 dJ7_fill_53178_11 rfl (lv_at hl 0 rfl) ?_
  refine lv_iload_n S.1 S.2.1 dJ7_fill_53178_12 rfl (lv_at hl 3 rfl) ?_
  refine gx_iast (f' := upd (upd (upd (upd (upd (upd (upd (upd (upd (upd (upd (fun _ => 0) 0 (-1)) 1 (-1)) 2 (-1)) 3 (-1)) 4 (-1)) 5 (-1)) 6 (-1)) 7 (-1)) 8 (-1)) 9 (-1)) 10 (-1)) S hG 0 fu_s rfl (fin_l (by decide)) dJ7_fill_53178_13 (rfl) (fun H locs hG => ?_)
  refine lv_iinc (v := 11) (lv' := [(2, .int 11), (3, .int 20), (0, .ref (N0 + 62)), (1, .int (-1))]) S.1 S.2.1 dJ7_fill_53178_14 hl (k := 0) rfl (by decide) (by decide) rfl (fun ls hl => ?_)
  refine lv_goto (tgt := 5) S.1 S.2.1 dJ7_fill_53178_17 (by decide) ?_
  refine lv_iload_n S.1 S.2.1 dJ7_fill_53178_5 rfl (lv_at hl 0 rfl) ?_
  refine lv_iload_n S.1 S.2.1 dJ7_fill_53178_6 rfl (lv_at hl 1 rfl) ?_
  refine lv_icmp_ge (tgt := 20) S.1 S.2.1 dJ7_fill_53178_7 (by decide) (fun c => absurd c (by decide)) (fun _ => ?_)
  refine lv_aload_n S.1 S.2.1 dJ7_fill_53178_10 rfl (lv_at hl 2 rfl) ?_
  refine lv_iload_n S.1 S.2.1 dJ7_fill_53178_11 rfl (lv_at hl 0 rfl) ?_
  refine lv_iload_n S.1 S.2.1 dJ7_fill_53178_12 rfl (lv_at hl 3 rfl) ?_
  refine gx_iast (f' := upd (upd (upd (upd (upd (upd (upd (upd (upd (upd (upd (upd (fun _ => 0) 0 (-1)) 1 (-1)) 2 (-1)) 3 (-1)) 4 (-1)) 5 (-1)) 6 (-1)) 7 (-1)) 8 (-1)) 9 (-1)) 10 (-1)) 11 (-1)) S hG 0 fu_s rfl (fin_l (by decide)) dJ7_fill_53178_13 (rfl) (fun H locs hG => ?_)
  refine lv_iinc (v := 12) (lv' := [(2, .int 12), (3, .int 20), (0, .ref (N0 + 62)), (1, .int (-1))]) S.1 S.2.1 dJ7_fill_53178_14 hl (k := 0) rfl (by decide) (by decide) rfl (fun ls hl => ?_)
  refine lv_goto (tgt := 5) S.1 S.2.1 dJ7_fill_53178_17 (by decide) ?_
  refine lv_iload_n S.1 S.2.1 dJ7_fill_53178_5 rfl (lv_at hl 0 rfl) ?_
  refine lv_iload_n S.1 S.2.1 dJ7_fill_53178_6 rfl (lv_at hl 1 rfl) ?_
  refine lv_icmp_ge (tgt := 20) S.1 S.2.1 dJ7_fill_53178_7 (by decide) (fun c => absurd c (by decide)) (fun _ => ?_)
  refine lv_aload_n S.1 S.2.1 dJ7_fill_53178_10 rfl (lv_at hl 2 rfl) ?_
  refine lv_iload_n S.1 S.2.1 dJ7_fill_53178_11 rfl (lv_at hl 0 rfl) ?_
  refine lv_iload_n S.1 S.2.1 dJ7_fill_53178_12 rfl (lv_at hl 3 rfl) ?_
  refine gx_iast (f' := upd (upd (upd (upd (upd (upd (upd (upd (upd (upd (upd (upd (upd (fun _ => 0) 0 (-1)) 1 (-1)) 2 (-1)) 3 (-1)) 4 (-1)) 5 (-1)) 6 (-1)) 7 (-1)) 8 (-1)) 9 (-1)) 10 (-1)) 11 (-1)) 12 (-1)) S hG 0 fu_s rfl (fin_l (by decide)) dJ7_fill_53178_13 (rfl) (fun H locs hG => ?_)
  refine lv_iinc (v := 13) (lv' := [(2, .int 13), (3, .int 20), (0, .ref (N0 + 62)), (1, .int (-1))]) S.1 S.2.1 dJ7_fill_53178_14 hl (k := 0) rfl (by decide) (by decide) rfl (fun ls hl => ?_)
  refine lv_goto (tgt := 5) S.1 S.2.1 dJ7_fill_53178_17 (by decide) ?_
  refine lv_iload_n S.1 S.2.1 dJ7_fill_53178_5 rfl (lv_at hl 0 rfl) ?_
  refine lv_iload_n S.1 S.2.1 dJ7_fill_53178_6 rfl (lv_at hl 1 rfl) ?_
  refine lv_icmp_ge (tgt := 20) S.1 S.2.1 dJ7_fill_53178_7 (by decide) (fun c => absurd c (by decide)) (fun _ => ?_)
  refine lv_aload_n S.1 S.2.1 dJ7_fill_53178_10 rfl (lv_at hl 2 rfl) ?_
  refine lv_iload_n S.1 S.2.1 dJ7_fill_53178_11 rfl (lv_at hl 0 rfl) ?_
  refine lv_iload_n S.1 S.2.1 dJ7_fill_53178_12 rfl (lv_at hl 3 rfl) ?_
  refine gx_iast (f' := upd (upd (upd (upd (upd (upd (upd (upd (upd (upd (upd (upd (upd (upd (fun _ => 0) 0 (-1)) 1 (-1)) 2 (-1)) 3 (-1)) 4 (-1)) 5 (-1)) 6 (-1)) 7 (-1)) 8 (-1)) 9 (-1)) 10 (-1)) 11 (-1)) 12 (-1)) 13 (-1)) S hG 0 fu_s rfl (fin_l (by decide)) dJ7_fill_53178_13 (rfl) (fun H locs hG => ?_)
  refine lv_iinc (v := 14) (lv' := [(2, .int 14), (3, .int 20), (0, .ref (N0 + 62)), (1, .int (-1))]) S.1 S.2.1 dJ7_fill_53178_14 hl (k := 0) rfl (by decide) (by decide) rfl (fun ls hl => ?_)
  refine lv_goto (tgt := 5) S.1 S.2.1 dJ7_fill_53178_17 (by decide) ?_
  refine lv_iload_n S.1 S.2.1 dJ7_fill_53178_5 rfl (lv_at hl 0 rfl) ?_
  refine lv_iload_n S.1 S.2.1 dJ7_fill_53178_6 rfl (lv_at hl 1 rfl) ?_
  refine lv_icmp_ge (tgt := 20) S.1 S.2.1 dJ7_fill_53178_7 (by decide) (fun c => absurd c (by decide)) (fun _ => ?_)
  refine lv_aload_n S.1 S.2.1 dJ7_fill_53178_10 rfl (lv_at hl 2 rfl) ?_
  refine lv_iload_n S.1 S.2.1 dJ7_fill_53178_11 rfl (lv_at hl 0 rfl) ?_
  refine lv_iload_n S.1 S.2.1 dJ7_fill_53178_12 rfl (lv_at hl 3 rfl) ?_
  refine gx_iast (f' := upd (upd (upd (upd (upd (upd (upd (upd (upd (upd (upd (upd (upd (upd (upd (fun _ => 0) 0 (-1)) 1 (-1)) 2 (-1)) 3 (-1)) 4 (-1)) 5 (-1)) 6 (-1)) 7 (-1)) 8 (-1)) 9 (-1)) 10 (-1)) 11 (-1)) 12 (-1)) 13 (-1)) 14 (-1)) S hG 0 fu_s rfl (fin_l (by decide)) dJ7_fill_53178_13 (rfl) (fun H locs hG => ?_)
  refine lv_iinc (v := 15) (lv' := [(2, .int 15), (3, .int 20), (0, .ref (N0 + 62)), (1, .int (-1))]) S.1 S.2.1 dJ7_fill_53178_14 hl (k := 0) rfl (by decide) (by decide) rfl (fun ls hl => ?_)
  refine lv_goto (tgt := 5) S.1 S.2.1 dJ7_fill_53178_17 (by decide) ?_
  refine lv_iload_n S.1 S.2.1 dJ7_fill_53178_5 rfl (lv_at hl 0 rfl) ?_
  refine lv_iload_n S.1 S.2.1 dJ7_fill_53178_6 rfl (lv_at hl 1 rfl) ?_
  refine lv_icmp_ge (tgt := 20) S.1 S.2.1 dJ7_fill_53178_7 (by decide) (fun c => absurd c (by decide)) (fun _ => ?_)
  refine lv_aload_n S.1 S.2.1 dJ7_fill_53178_10 rfl (lv_at hl 2 rfl) ?_
  refine lv_iload_n S.1 S.2.1 dJ7_fill_53178_11 rfl (lv_at hl 0 rfl) ?_
  refine lv_iload_n S.1 S.2.1 dJ7_fill_53178_12 rfl (lv_at hl 3 rfl) ?_
  refine gx_iast (f' := upd (upd (upd (upd (upd (upd (upd (upd (upd (upd (upd (upd (upd (upd (upd (upd (fun _ => 0) 0 (-1)) 1 (-1)) 2 (-1)) 3 (-1)) 4 (-1)) 5 (-1)) 6 (-1)) 7 (-1)) 8 (-1)) 9 (-1)) 10 (-1)) 11 (-1)) 12 (-1)) 13 (-1)) 14 (-1)) 15 (-1)) S hG 0 fu_s rfl (fin_l (by decide)) dJ7_fill_53178_13 (rfl) (fun H locs hG => ?_)
  refine lv_iinc (v := 16) (lv' := [(2, .int 16), (3, .int 20), (0, .ref (N0 + 62)), (1, .int (-1))]) S.1 S.2.1 dJ7_fill_53178_14 hl (k := 0) rfl (by decide) (by decide) rfl (fun ls hl => ?_)
  refine lv_goto (tgt := 5) S.1 S.2.1 dJ7_fill_53178_17 (by decide) ?_
  refine lv_iload_n S.1 S.2.1 dJ7_fill_53178_5 rfl (lv_at hl 0 rfl) ?_
  refine lv_iload_n S.1 S.2.1 dJ7_fill_53178_6 rfl (lv_at hl 1 rfl) ?_
  refine lv_icmp_ge (tgt := 20) S.1 S.2.1 dJ7_fill_53178_7 (by decide) (fun c => absurd c (by decide)) (fun _ => ?_)
  refine lv_aload_n S.1 S.2.1 dJ7_fill_53178_10 rfl (lv_at hl 2 rfl) ?_
  refine lv_iload_n S.1 S.2.1 dJ7_fill_53178_11 rfl (lv_at hl 0 rfl) ?_
  refine lv_iload_n S.1 S.2.1 dJ7_fill_53178_12 rfl (lv_at hl 3 rfl) ?_
  refine gx_iast (f' := upd (upd (upd (upd (upd (upd (upd (upd (upd (upd (upd (upd (upd (upd (upd (upd (upd (fun _ => 0) 0 (-1)) 1 (-1)) 2 (-1)) 3 (-1)) 4 (-1)) 5 (-1)) 6 (-1)) 7 (-1)) 8 (-1)) 9 (-1)) 10 (-1)) 11 (-1)) 12 (-1)) 13 (-1)) 14 (-1)) 15 (-1)) 16 (-1)) S hG 0 fu_s rfl (fin_l (by decide)) dJ7_fill_53178_13 (rfl) (fun H locs hG => ?_)
  refine lv_iinc (v := 17) (lv' := [(2, .int 17), (3, .int 20), (0, .ref (N0 + 62)), (1, .int (-1))]) S.1 S.2.1 dJ7_fill_53178_14 hl (k := 0) rfl (by decide) (by decide) rfl (fun ls hl => ?_)
  refine lv_goto (tgt := 5) S.1 S.2.1 dJ7_fill_53178_17 (by decide) ?_
  refine lv_iload_n S.1 S.2.1 dJ7_fill_53178_5 rfl (lv_at hl 0 rfl) ?_
  refine lv_iload_n S.1 S.2.1 dJ7_fill_53178_6 rfl (lv_at hl 1 rfl) ?_
  refine lv_icmp_ge (tgt := 20) S.1 S.2.1 dJ7_fill_53178_7 (by decide) (fun c => absurd c (by decide)) (fun _ => ?_)
  refine lv_aload_n S.1 S.2.1 dJ7_fill_53178_10 rfl (lv_at hl 2 rfl) ?_
  refine lv_iload_n S.1 S.2.1 dJ7_fill_53178_11 rfl (lv_at hl 0 rfl) ?_
  refine lv_iload_n S.1 S.2.1 dJ7_fill_53178_12 rfl (lv_at hl 3 rfl) ?_
  refine gx_iast (f' := upd (upd (upd (upd (upd (upd (upd (upd (upd (upd (upd (upd (upd (upd (upd (upd (upd (upd (fun _ => 0) 0 (-1)) 1 (-1)) 2 (-1)) 3 (-1)) 4 (-1)) 5 (-1)) 6 (-1)) 7 (-1)) 8 (-1)) 9 (-1)) 10 (-1)) 11 (-1)) 12 (-1)) 13 (-1)) 14 (-1)) 15 (-1)) 16 (-1)) 17 (-1)) S hG 0 fu_s rfl (fin_l (by decide)) dJ7_fill_53178_13 (rfl) (fun H locs hG => ?_)
  refine lv_iinc (v := 18) (lv' := [(2, .int 18), (3, .int 20), (0, .ref (N0 + 62)), (1, .int (-1))]) S.1 S.2.1 dJ7_fill_53178_14 hl (k := 0) rfl (by decide) (by decide) rfl (fun ls hl => ?_)
  refine lv_goto (tgt := 5) S.1 S.2.1 dJ7_fill_53178_17 (by decide) ?_
  refine lv_iload_n S.1 S.2.1 dJ7_fill_53178_5 rfl (lv_at hl 0 rfl) ?_
  refine lv_iload_n S.1 S.2.1 dJ7_fill_53178_6 rfl (lv_at hl 1 rfl) ?_
  refine lv_icmp_ge (tgt := 20) S.1 S.2.1 dJ7_fill_53178_7 (by decide) (fun c => absurd c (by decide)) (fun _ => ?_)
  refine lv_aload_n S.1 S.2.1 dJ7_fill_53178_10 rfl (lv_at hl 2 rfl) ?_
  refine lv_iload_n S.1 S.2.1 dJ7_fill_53178_11 rfl (lv_at hl 0 rfl) ?_
  refine lv_iload_n S.1 S.2.1 dJ7_fill_53178_12 rfl (lv_at hl 3 rfl) ?_
  refine gx_iast (f' := upd (upd (upd (upd (upd (upd (upd (upd (upd (upd (upd (upd (upd (upd (upd (upd (upd (upd (upd (fun _ => 0) 0 (-1)) 1 (-1)) 2 (-1)) 3 (-1)) 4 (-1)) 5 (-1)) 6 (-1)) 7 (-1)) 8 (-1)) 9 (-1)) 10 (-1)) 11 (-1)) 12 (-1)) 13 (-1)) 14 (-1)) 15 (-1)) 16 (-1)) 17 (-1)) 18 (-1)) S hG 0 fu_s rfl (fin_l (by decide)) dJ7_fill_53178_13 (rfl) (fun H locs hG => ?_)
  refine lv_iinc (v := 19) (lv' := [(2, .int 19), (3, .int 20), (0, .ref (N0 + 62)), (1, .int (-1))]) S.1 S.2.1 dJ7_fill_53178_14 hl (k := 0) rfl (by decide) (by decide) rfl (fun ls hl => ?_)
  refine lv_goto (tgt := 5) S.1 S.2.1 dJ7_fill_53178_17 (by decide) ?_
  refine lv_iload_n S.1 S.2.1 dJ7_fill_53178_5 rfl (lv_at hl 0 rfl) ?_
  refine lv_iload_n S.1 S.2.1 dJ7_fill_53178_6 rfl (lv_at hl 1 rfl) ?_
  refine lv_icmp_ge (tgt := 20) S.1 S.2.1 dJ7_fill_53178_7 (by decide) (fun c => absurd c (by decide)) (fun _ => ?_)
  refine lv_aload_n S.1 S.2.1 dJ7_fill_53178_10 rfl (lv_at hl 2 rfl) ?_
  refine lv_iload_n S.1 S.2.1 dJ7_fill_53178_11 rfl (lv_at hl 0 rfl) ?_
  refine lv_iload_n S.1 S.2.1 dJ7_fill_53178_12 rfl (lv_at hl 3 rfl) ?_
  refine gx_iast (f' := upd (upd (upd (upd (upd (upd (upd (upd (upd (upd (upd (upd (upd (upd (upd (upd (upd (upd (upd (upd (fun _ => 0) 0 (-1)) 1 (-1)) 2 (-1)) 3 (-1)) 4 (-1)) 5 (-1)) 6 (-1)) 7 (-1)) 8 (-1)) 9 (-1)) 10 (-1)) 11 (-1)) 12 (-1)) 13 (-1)) 14 (-1)) 15 (-1)) 16 (-1)) 17 (-1)) 18 (-1)) 19 (-1)) S hG 0 fu_s rfl (fin_l (by decide)) dJ7_fill_53178_13 (rfl) (fun H locs hG => ?_)
  refine lv_iinc (v := 20) (lv' := [(2, .int 20), (3, .int 20), (0, .ref (N0 + 62)), (1, .int (-1))]) S.1 S.2.1 dJ7_fill_53178_14 hl (k := 0) rfl (by decide) (by decide) rfl (fun ls hl => ?_)
  refine lv_goto (tgt := 5) S.1 S.2.1 dJ7_fill_53178_17 (by decide) ?_
  refine lv_iload_n S.1 S.2.1 dJ7_fill_53178_5 rfl (lv_at hl 0 rfl) ?_
  refine lv_iload_n S.1 S.2.1 dJ7_fill_53178_6 rfl (lv_at hl 1 rfl) ?_
  refine lv_icmp_ge (tgt := 20) S.1 S.2.1 dJ7_fill_53178_7 (by decide) (fun _ => ?_) (fun c => absurd (by decide) c)
  have hG : fG N0 D vwCl (fty cI cC cL cD cII cTr cTm cIt cB) (fen ql) s (fu F (N0 + 62) (.inl (cI, 20, .inl (upd (upd (upd (upd (upd (upd (upd (upd (upd (upd (upd (upd (upd (upd (upd (upd (upd (upd (upd (upd (fun _ => 0) 0 (-1)) 1 (-1)) 2 (-1)) 3 (-1)) 4 (-1)) 5 (-1)) 6 (-1)) 7 (-1)) 8 (-1)) 9 (-1)) 10 (-1)) 11 (-1)) 12 (-1)) 13 (-1)) 14 (-1)) 15 (-1)) 16 (-1)) 17 (-1)) 18 (-1)) 19 (-1))))) n H locs := hG.weak (fun a e h => by
    rcases fu_cases h with ⟨rfl, he⟩ | ⟨hne0, h⟩
    · cases he; exact fu_s
    · exact (fu_at (by omega) (fu_at (by omega) (fu_at (by omega) (fu_at (by omega) (fu_at (by omega) (fu_at (by omega) (fu_at (by omega) (fu_at (by omega) (fu_at (by omega) (fu_at (by omega) (fu_at (by omega) (fu_at (by omega) (fu_at (by omega) (fu_at (by omega) (fu_at (by omega) (fu_at (by omega) (fu_at (by omega) (fu_at (by omega) (fu_at (by omega) (fu_at (by omega) h)))))))))))))))))))))
  exact fx_vret S hr hlocks () hG trivial dJ7_fill_53178_20
theorem i_X1_link_X1 : ∀ w ∈ u_ws RX1 TX1 10, w ∈ wsX1_link := by decide +kernel
theorem k1442_X1_link {n : Nat} (hn : N0 + 231 ≤ n) (h0 : F (N0 + 13) = some (.inr (3, [.ref (N0 + 14), .ref (N0 + 35), .ref (N0 + 57), .ref (N0 + 58), .ref (N0 + 59), .ref (N0 + 60), .int 0, .int 0, .ref (N0 + 61), .ref (N0 + 62)]))) (h1 : F (N0 + 61) = some (.inl (cI, 20, .inl (upd (upd (upd (upd (upd (upd (upd (upd (upd (upd (upd (upd (upd (upd (upd (upd (upd (upd (upd (upd (fun _ => 0) 0 (-1)) 1 (-1)) 2 (-1)) 3 (-1)) 4 (-1)) 5 (-1)) 6 (-1)) 7 (-1)) 8 (-1)) 9 (-1)) 10 (-1)) 11 (-1)) 12 (-1)) 13 (-1)) 14 (-1)) 15 (-1)) 16 (-1)) 17 (-1)) 18 (-1)) 19 (-1))))) (h2 : F (N0 + 62) = some (.inl (cI, 20, .inl (upd (upd (upd (upd (upd (upd (upd (upd (upd (upd (upd (upd (upd (upd (upd (upd (upd (upd (upd (upd (fun _ => 0) 0 (-1)) 1 (-1)) 2 (-1)) 3 (-1)) 4 (-1)) 5 (-1)) 6 (-1)) 7 (-1)) 8 (-1)) 9 (-1)) 10 (-1)) 11 (-1)) 12 (-1)) 13 (-1)) 14 (-1)) 15 (-1)) 16 (-1)) 17 (-1)) 18 (-1)) 19 (-1))))) : Met l yX1_link wsX1_link ({ frames := 0, cells := 0, slots := 0, locals := 0 }) (va_Pc [.ref (N0 + 13), .int 0, .int 0] (fP N0 D vwCl (fty cI cC cL cD cII cTr cTm cIt cB) (fen ql) F n)) (fQv N0 D vwCl (fty cI cC cL cD cII cTr cTm cIt cB) (fun (_ : Unit) => True) (fun _ => (fu (fu F (N0 + 61) (.inl (cI, 20, .inl (upd (upd (upd (upd (upd (upd (upd (upd (upd (upd (upd (upd (upd (upd (upd (upd (upd (upd (upd (upd (upd (fun _ => 0) 0 (-1)) 1 (-1)) 2 (-1)) 3 (-1)) 4 (-1)) 5 (-1)) 6 (-1)) 7 (-1)) 8 (-1)) 9 (-1)) 10 (-1)) 11 (-1)) 12 (-1)) 13 (-1)) 14 (-1)) 15 (-1)) 16 (-1)) 17 (-1)) 18 (-1)) 19 (-1)) 0 0)))) (N0 + 62) (.inl (cI, 20, .inl (upd (upd (upd (upd (upd (upd (upd (upd (upd (upd (upd (upd (upd (upd (upd (upd (upd (upd (upd (upd (upd (fun _ => 0) 0 (-1)) 1 (-1)) 2 (-1)) 3 (-1)) 4 (-1)) 5 (-1)) 6 (-1)) 7 (-1)) 8 (-1)) 9 (-1)) 10 (-1)) 11 (-1)) 12 (-1)) 13 (-1)) 14 (-1)) 15 (-1)) 16 (-1)) 17 (-1)) 18 (-1)) 19 (-1)) 0 0))))) (fun _ => n)) 0 0 (fA N0) := by
  refine fx_start 3 rfl rfl (Nat.le_of_ble_eq_true rfl) ?_ rfl
  intro p e s m below meth c ls S hr hlocks hin hG hl
  have hl : lv_has ls 3 [(0, .ref (N0 + 13)), (1, .int 0), (2, .int 0)] := hl
  have lt_h0 := hG.1.lt h0
  have lt_h1 := hG.1.lt h1
  have lt_h2 := hG.1.lt h2
  refine lv_aload_n S.1 S.2.1 dX1_link_0 rfl (lv_at hl 0 rfl) ?_
  refine gx_get (C := RX1) (T := TX1) (N := 10) S hG h0 i_X1_link_X1 rfl 8 (by decide) (by decide +kernel) rfl dX1_link_1 ?_
  refine lv_iload_n S.1 S.2.1 dX1_link_4 rfl (lv_at hl 1 rfl) ?_
  refine lv_iload_n S.1 S.2.1 dX1_link_5 rfl (lv_at hl 2 rfl) ?_
  refine gx_iast (f' := upd (upd (upd (upd (upd (upd (upd (upd (upd (upd (upd (upd (upd (upd (upd (upd (upd (upd (upd (upd (upd (fun _ => 0) 0 (-1)) 1 (-1)) 2 (-1)) 3 (-1)) 4 (-1)) 5 (-1)) 6 (-1)) 7 (-1)) 8 (-1)) 9 (-1)) 10 (-1)) 11 (-1)) 12 (-1)) 13 (-1)) 14 (-1)) 15 (-1)) 16 (-1)) 17 (-1)) 18 (-1)) 19 (-1)) 0 0) S hG 0 h1 rfl (fin_l (by decide)) dX1_link_6 (rfl) (fun H locs hG => ?_)
  refine lv_aload_n S.1 S.2.1 dX1_link_7 rfl (lv_at hl 0 rfl) ?_
  refine gx_get (C := RX1) (T := TX1) (N := 10) S hG (fu_at (by omega) h0) i_X1_link_X1 rfl 9 (by decide) (by decide +kernel) rfl dX1_link_8 ?_
  refine lv_iload_n S.1 S.2.1 dX1_link_11 rfl (lv_at hl 2 rfl) ?_
  refine lv_iload_n S.1 S.2.1 dX1_link_12 rfl (lv_at hl 1 rfl) ?_
  refine gx_iast (f' := upd (upd (upd (upd (upd (upd (upd (upd (upd (upd (upd (upd (upd (upd (upd (upd (upd (upd (upd (upd (upd (fun _ => 0) 0 (-1)) 1 (-1)) 2 (-1)) 3 (-1)) 4 (-1)) 5 (-1)) 6 (-1)) 7 (-1)) 8 (-1)) 9 (-1)) 10 (-1)) 11 (-1)) 12 (-1)) 13 (-1)) 14 (-1)) 15 (-1)) 16 (-1)) 17 (-1)) 18 (-1)) 19 (-1)) 0 0) S hG 0 (fu_at (by omega) h2) rfl (fin_l (by decide)) dX1_link_13 (rfl) (fun H locs hG => ?_)
  exact fx_vret S hr hlocks () hG trivial dX1_link_14
theorem k1443_X1_fillRestCosts {n : Nat} (hn : N0 + 231 ≤ n) (h0 : F (N0 + 13) = some (.inr (3, [.ref (N0 + 14), .ref (N0 + 35), .ref (N0 + 57), .ref (N0 + 58), .ref (N0 + 59), .ref (N0 + 60), .int 0, .int 0, .ref (N0 + 61), .ref (N0 + 62)]))) (h1 : F (N0 + 35) = some (.inl (cII, 21, .inr (.inr (.inr (.inr (fun j => if j < 21 then some ((N0 + 36) + j) else none))))))) (h2 : F (N0 + 36) = some (.inl (cI, 21, .inl (upd (fun _ => 0) 0 0)))) : Met l yX1_fillRestCosts wsX1_fillRestCosts ({ frames := 1, cells := 0, slots := 0, locals := 25 }) (va_Pc [.ref (N0 + 13), .ref (N0 + 66), .ref (N0 + 73)] (fP N0 D vwCl (fty cI cC cL cD cII cTr cTm cIt cB) (fen ql) F n)) (fQv N0 D vwCl (fty cI cC cL cD cII cTr cTm cIt cB) (fun (_ : Unit) => True) (fun _ => (fu F (N0 + 36) (.inl (cI, 21, .inl (upd (upd (fun _ => 0) 0 0) 0 0))))) (fun _ => n)) 0 0 (fA N0) := by
  refine fx_start 5 rfl rfl (Nat.le_of_ble_eq_true rfl) ?_ rfl
  intro p e s m below meth c ls S hr hlocks hin hG hl
  have hl : lv_has ls 5 [(0, .ref (N0 + 13)), (1, .ref (N0 + 66)), (2, .ref (N0 + 73))] := hl
  have lt_h0 := hG.1.lt h0
  have lt_h1 := hG.1.lt h1
  have lt_h2 := hG.1.lt h2
  refine lv_aload_n S.1 S.2.1 dX1_fillRestCosts_0 rfl (lv_at hl 0 rfl) ?_
  refine gx_get (C := RX1) (T := TX1) (N := 10) S hG h0 i_X1_fillRestCosts_X1 rfl 6 (by decide) (by decide +kernel) rfl dX1_fillRestCosts_1 ?_
  refine lv_istore_n (lv' := [(3, .int 0), (0, .ref (N0 + 13)), (1, .ref (N0 + 66)), (2, .ref (N0 + 73))]) S.1 S.2.1 dX1_fillRestCosts_4 rfl hl (by decide) rfl (fun ls hl => ?_)
  refine lv_iload_n S.1 S.2.1 dX1_fillRestCosts_5 rfl (lv_at hl 0 rfl) ?_
  refine lv_if_lt (tgt := 50) S.1 S.2.1 dX1_fillRestCosts_6 (by decide) (fun c => absurd c (by decide)) (fun _ => ?_)
  refine lv_aload_n S.1 S.2.1 dX1_fillRestCosts_9 rfl (lv_at hl 1 rfl) ?_
  refine gx_get (C := RX1) (T := TX1) (N := 10) S hG h0 i_X1_fillRestCosts_X1 rfl 7 (by decide) (by decide +kernel) rfl dX1_fillRestCosts_10 ?_
  refine lv_istore (lv' := [(4, .int 0), (3, .int 0), (0, .ref (N0 + 13)), (1, .ref (N0 + 66)), (2, .ref (N0 + 73))]) S.1 S.2.1 dX1_fillRestCosts_13 hl (by decide) rfl (fun ls hl => ?_)
  refine lv_iload S.1 S.2.1 dX1_fillRestCosts_15 (lv_at hl 0 rfl) ?_
  refine lv_if_lt (tgt := 44) S.1 S.2.1 dX1_fillRestCosts_17 (by decide) (fun c => absurd c (by decide)) (fun _ => ?_)
  refine lv_aload_n S.1 S.2.1 dX1_fillRestCosts_20 rfl (lv_at hl 2 rfl) ?_
  refine gx_get (C := RX1) (T := TX1) (N := 10) S hG h0 i_X1_fillRestCosts_X1 rfl 1 (by decide) (by decide +kernel) rfl dX1_fillRestCosts_21 ?_
  refine lv_iload_n S.1 S.2.1 dX1_fillRestCosts_24 rfl (lv_at hl 1 rfl) ?_
  refine gx_aldq (x := (N0 + 36)) S hG 4 rfl h1 rfl (fin_l (by decide)) (rfl) dX1_fillRestCosts_25 ?_
  refine lv_iload S.1 S.2.1 dX1_fillRestCosts_26 (lv_at hl 0 rfl) ?_
  refine lv_aload_n S.1 S.2.1 dX1_fillRestCosts_28 rfl (lv_at hl 2 rfl) ?_
  refine lv_aload_n S.1 S.2.1 dX1_fillRestCosts_29 rfl (lv_at hl 3 rfl) ?_
  refine lv_aload_n S.1 S.2.1 dX1_fillRestCosts_30 rfl (lv_at hl 4 rfl) ?_
  refine lv_iload_n S.1 S.2.1 dX1_fillRestCosts_31 rfl (lv_at hl 1 rfl) ?_
  refine lv_iload S.1 S.2.1 dX1_fillRestCosts_32 (lv_at hl 0 rfl) ?_
  refine fx_cVi (As := [.ref (N0 + 66), .ref (N0 + 73), .int 0, .int 0]) (rest := [.int 0, .ref (N0 + 36)]) S hG (k1436_X1_restCost (by omega) h0) h0 rfl (cwV 4 S.2.2.2.2 gX1_fillRestCosts_X1_restCost rfl rfl rfl (by decide +kernel) ⟨Nat.le_of_ble_eq_true rfl, Nat.le_of_ble_eq_true rfl⟩) rfl hl.1 rfl (Nat.le_of_ble_eq_true rfl) dX1_fillRestCosts_34 ⟨Nat.le_of_ble_eq_true rfl, Nat.le_of_ble_eq_true rfl⟩ (fun rv_1 _ H locs hp hG => ?_)
  subst rv_1
  refine gx_iast (f' := upd (upd (fun _ => 0) 0 0) 0 0) S hG 0 h2 rfl (fin_l (by decide)) dX1_fillRestCosts_37 (rfl) (fun H locs hG => ?_)
  refine lv_iinc (v := (-1)) (lv' := [(4, .int (-1)), (3, .int 0), (0, .ref (N0 + 13)), (1, .ref (N0 + 66)), (2, .ref (N0 + 73))]) S.1 S.2.1 dX1_fillRestCosts_38 hl (k := 0) rfl (by decide) (by decide) rfl (fun ls hl => ?_)
  refine lv_goto (tgt := 15) S.1 S.2.1 dX1_fillRestCosts_41 (by decide) ?_
  refine lv_iload S.1 S.2.1 dX1_fillRestCosts_15 (lv_at hl 0 rfl) ?_
  refine lv_if_lt (tgt := 44) S.1 S.2.1 dX1_fillRestCosts_17 (by decide) (fun _ => ?_) (fun c => absurd (by decide) c)
  refine lv_iinc (v := (-1)) (lv' := [(3, .int (-1)), (4, .int (-1)), (0, .ref (N0 + 13)), (1, .ref (N0 + 66)), (2, .ref (N0 + 73))]) S.1 S.2.1 dX1_fillRestCosts_44 hl (k := 1) rfl (by decide) (by decide) rfl (fun ls hl => ?_)
  refine lv_goto (tgt := 5) S.1 S.2.1 dX1_fillRestCosts_47 (by decide) ?_
  refine lv_iload_n S.1 S.2.1 dX1_fillRestCosts_5 rfl (lv_at hl 0 rfl) ?_
  refine lv_if_lt (tgt := 50) S.1 S.2.1 dX1_fillRestCosts_6 (by decide) (fun _ => ?_) (fun c => absurd (by decide) c)
  exact fx_vret S hr hlocks () hG trivial dX1_fillRestCosts_50
theorem i_X1_chooseChildren_X1 : ∀ w ∈ u_ws RX1 TX1 10, w ∈ wsX1_chooseChildren := by decide +kernel
theorem k1444_X1_chooseChildren {n : Nat} (hn : N0 + 231 ≤ n) (h0 : F (N0 + 13) = some (.inr (3, [.ref (N0 + 14), .ref (N0 + 35), .ref (N0 + 57), .ref (N0 + 58), .ref (N0 + 59), .ref (N0 + 60), .int 0, .int 0, .ref (N0 + 61), .ref (N0 + 62)]))) : Met l yX1_chooseChildren wsX1_chooseChildren ({ frames := 0, cells := 0, slots := 0, locals := 0 }) (va_Pc [.ref (N0 + 13), .ref (N0 + 66), .ref (N0 + 73)] (fP N0 D vwCl (fty cI cC cL cD cII cTr cTm cIt cB) (fen ql) F n)) (fQv N0 D vwCl (fty cI cC cL cD cII cTr cTm cIt cB) (fun (_ : Unit) => True) (fun _ => F) (fun _ => n)) 0 0 (fA N0) := by
  refine fx_start 6 rfl rfl (Nat.le_of_ble_eq_true rfl) ?_ rfl
  intro p e s m below meth c ls S hr hlocks hin hG hl
  have hl : lv_has ls 6 [(0, .ref (N0 + 13)), (1, .ref (N0 + 66)), (2, .ref (N0 + 73))] := hl
  have lt_h0 := hG.1.lt h0
  refine lv_iconst (v := 0) S.1 S.2.1 dX1_chooseChildren_0 (by decide) ?_
  refine lv_istore_n (lv' := [(3, .int 0), (0, .ref (N0 + 13)), (1, .ref (N0 + 66)), (2, .ref (N0 + 73))]) S.1 S.2.1 dX1_chooseChildren_1 rfl hl (by decide) rfl (fun ls hl => ?_)
  refine lv_iconst (v := 0) S.1 S.2.1 dX1_chooseChildren_2 (by decide) ?_
  refine lv_istore (lv' := [(4, .int 0), (3, .int 0), (0, .ref (N0 + 13)), (1, .ref (N0 + 66)), (2, .ref (N0 + 73))]) S.1 S.2.1 dX1_chooseChildren_3 hl (by decide) rfl (fun ls hl => ?_)
  refine lv_iload_n S.1 S.2.1 dX1_chooseChildren_5 rfl (lv_at hl 1 rfl) ?_
  refine lv_aload_n S.1 S.2.1 dX1_chooseChildren_6 rfl (lv_at hl 2 rfl) ?_
  refine gx_get (C := RX1) (T := TX1) (N := 10) S hG h0 i_X1_chooseChildren_X1 rfl 6 (by decide) (by decide +kernel) rfl dX1_chooseChildren_7 ?_
  refine lv_icmp_ge (tgt := 107) S.1 S.2.1 dX1_chooseChildren_10 (by decide) (fun _ => ?_) (fun c => absurd (by decide) c)
  exact fx_vret S hr hlocks () hG trivial dX1_chooseChildren_107
theorem i_X1_match_X1 : ∀ w ∈ u_ws RX1 TX1 10, w ∈ wsX1_match := by decide +kernel
theorem i_X1_match_X5 : ∀ w ∈ u_ws RX5 TX5 7, w ∈ wsX1_match := by decide +kernel
set_option maxHeartbeats 16000000 in
theorem k1445_X1_match {n : Nat} (hn : N0 + 231 ≤ n) (h0 : F (N0 + 13) = some (.inr (3, [.ref (N0 + 14), .ref (N0 + 35), .ref (N0 + 57), .ref (N0 + 58), .ref (N0 + 59), .ref (N0 + 60), .int 0, .int 0, .ref (N0 + 61), .ref (N0 + 62)]))) (h1 : F (N0 + 66) = some (.inr (7, [.ref (N0 + 67), .ref (N0 + 68), .ref (N0 + 69), .ref (N0 + 70), .ref (N0 + 71), .ref (N0 + 72), .int 1]))) (h2 : F (N0 + 57) = some (.inl (cI, 20, .inl (fun _ => 0)))) (h3 : F (N0 + 73) = some (.inr (7, [.ref (N0 + 74), .ref (N0 + 75), .ref (N0 + 76), .ref (N0 + 77), .ref (N0 + 78), .ref (N0 + 79), .int 1]))) (h4 : F (N0 + 58) = some (.inl (cI, 20, .inl (fun _ => 0)))) (h5 : F (N0 + 35) = some (.inl (cII, 21, .inr (.inr (.inr (.inr (fun j => if j < 21 then some ((N0 + 36) + j) else none))))))) (h6 : F (N0 + 36) = some (.inl (cI, 21, .inl (fun _ => 0)))) (h7 : F (N0 + 14) = some (.inl (cII, 20, .inr (.inr (.inr (.inr (fun j => if j < 20 then some ((N0 + 15) + j) else none))))))) (h8 : F (N0 + 67) = some (.inl (cC, 20, .inl (upd (fun _ => 0) 0 97)))) (h9 : F (N0 + 74) = some (.inl (cC, 20, .inl (upd (fun _ => 0) 0 97)))) (h10 : F (N0 + 69) = some (.inl (cI, 20, .inl (fun _ => 0)))) (h11 : F (N0 + 76) = some (.inl (cI, 20, .inl (fun _ => 0)))) (h12 : F (N0 + 15) = some (.inl (cI, 20, .inl (fun _ => 0)))) (h13 : F (N0 + 61) = some (.inl (cI, 20, .inl (fun _ => 0)))) (h14 : F (N0 + 62) = some (.inl (cI, 20, .inl (fun _ => 0)))) : Met l yX1_match wsX1_match ({ frames := 3, cells := 0, slots := 0, locals := 73 }) (va_Pc [.ref (N0 + 13), .ref (N0 + 66), .ref (N0 + 73)] (fP N0 D vwCl (fty cI cC cL cD cII cTr cTm cIt cB) (fen ql) F n)) (fQv N0 D vwCl (fty cI cC cL cD cII cTr cTm cIt cB) (fun (_ : Unit) => True) (fun _ => (fu (fu (fu (fu (fu (fu (fu F (N0 + 57) (.inl (cI, 20, .inl (upd (fun _ => 0) 0 1)))) (N0 + 58) (.inl (cI, 20, .inl (upd (fun _ => 0) 0 1)))) (N0 + 15) (.inl (cI, 20, .inl (upd (fun _ => 0) 0 0)))) (N0 + 61) (.inl (cI, 20, .inl (upd (upd (upd (upd (upd (upd (upd (upd (upd (upd (upd (upd (upd (upd (upd (upd (upd (upd (upd (upd (upd (fun _ => 0) 0 (-1)) 1 (-1)) 2 (-1)) 3 (-1)) 4 (-1)) 5 (-1)) 6 (-1)) 7 (-1)) 8 (-1)) 9 (-1)) 10 (-1)) 11 (-1)) 12 (-1)) 13 (-1)) 14 (-1)) 15 (-1)) 16 (-1)) 17 (-1)) 18 (-1)) 19 (-1)) 0 0)))) (N0 + 62) (.inl (cI, 20, .inl (upd (upd (upd (upd (upd (upd (upd (upd (upd (upd (upd (upd (upd (upd (upd (upd (upd (upd (upd (upd (upd (fun _ => 0) 0 (-1)) 1 (-1)) 2 (-1)) 3 (-1)) 4 (-1)) 5 (-1)) 6 (-1)) 7 (-1)) 8 (-1)) 9 (-1)) 10 (-1)) 11 (-1)) 12 (-1)) 13 (-1)) 14 (-1)) 15 (-1)) 16 (-1)) 17 (-1)) 18 (-1)) 19 (-1)) 0 0)))) (N0 + 13) (.inr (3, [.ref (N0 + 14), .ref (N0 + 35), .ref (N0 + 57), .ref (N0 + 58), .ref (N0 + 59), .ref (N0 + 60), .int 0, .int 0, .ref (N0 + 61), .ref (N0 + 62)]))) (N0 + 36) (.inl (cI, 21, .inl (upd (upd (fun _ => 0) 0 0) 0 0))))) (fun _ => n)) 0 0 (fA N0) := by
  refine fx_start 5 rfl rfl (Nat.le_of_ble_eq_true rfl) ?_ rfl
  intro p e s m below meth c ls S hr hlocks hin hG hl
  have hl : lv_has ls 5 [(0, .ref (N0 + 13)), (1, .ref (N0 + 66)), (2, .ref (N0 + 73))] := hl
  have lt_h0 := hG.1.lt h0
  have lt_h1 := hG.1.lt h1
  have lt_h2 := hG.1.lt h2
  have lt_h3 := hG.1.lt h3
  have lt_h4 := hG.1.lt h4
  have lt_h5 := hG.1.lt h5
  have lt_h6 := hG.1.lt h6
  have lt_h7 := hG.1.lt h7
  have lt_h8 := hG.1.lt h8
  have lt_h9 := hG.1.lt h9
  have lt_h10 := hG.1.lt h10
  have lt_h11 := hG.1.lt h11
  have lt_h12 := hG.1.lt h12
  have lt_h13 := hG.1.lt h13
  have lt_h14 := hG.1.lt h14
  refine lv_aload_n S.1 S.2.1 dX1_match_0 rfl (lv_at hl 0 rfl) ?_
  refine lv_aload_n S.1 S.2.1 dX1_match_1 rfl (lv_at hl 1 rfl) ?_
  refine lv_aload_n S.1 S.2.1 dX1_match_2 rfl (lv_at hl 2 rfl) ?_
  refine fx_cVi (As := [.ref (N0 + 66), .ref (N0 + 73)]) (rest := []) S hG (k1439_X1_leastCost (by omega) h0 h1 h2 h3 h4 h5 h6 h7 h8 h9 h10 h11 h12) h0 rfl (cwV 2 S.2.2.2.2 gX1_match_X1_leastCost rfl rfl rfl (by decide +kernel) ⟨Nat.le_of_ble_eq_true rfl, Nat.le_of_ble_eq_true rfl⟩) rfl hl.1 rfl (Nat.le_of_ble_eq_true rfl) dX1_match_3 ⟨Nat.le_of_ble_eq_true rfl, Nat.le_of_ble_eq_true rfl⟩ (fun rv_1 _ H locs hp hG => ?_)
  subst rv_1
  refine lv_pop S.1 S.2.1 dX1_match_6 rfl ?_
  refine lv_aload_n S.1 S.2.1 dX1_match_7 rfl (lv_at hl 0 rfl) ?_
  refine gx_get (C := RX1) (T := TX1) (N := 10) S hG (fu_at (by omega) (fu_at (by omega) fu_s)) i_X1_match_X1 rfl 8 (by decide) (by decide +kernel) rfl dX1_match_8 ?_
  refine lv_iconst (v := (-1)) S.1 S.2.1 dX1_match_11 (by decide) ?_
  refine fx_cSv (As := [.ref (N0 + 61), .int (-1)]) (rest := []) S hG (k1440_J7_fill_53178 (by omega) (fu_at (by omega) (fu_at (by omega) (fu_at (by omega) (fu_at (by omega) (fu_at (by omega) h13)))))) (va_cwS 2 S.2.2.2.2 gX1_match_J7_fill_53178 rfl rfl rfl (by decide +kernel) ⟨Nat.le_of_ble_eq_true rfl, Nat.le_of_ble_eq_true rfl⟩) rfl hl.1 rfl (Nat.le_of_ble_eq_true rfl) dX1_match_12 ⟨Nat.le_of_ble_eq_true rfl, Nat.le_of_ble_eq_true rfl⟩ (fun _ H locs hp hG => ?_)
  refine lv_aload_n S.1 S.2.1 dX1_match_15 rfl (lv_at hl 0 rfl) ?_
  refine gx_get (C := RX1) (T := TX1) (N := 10) S hG (fu_at (by omega) (fu_at (by omega) (fu_at (by omega) fu_s))) i_X1_match_X1 rfl 9 (by decide) (by decide +kernel) rfl dX1_match_16 ?_
  refine lv_iconst (v := (-1)) S.1 S.2.1 dX1_match_19 (by decide) ?_
  refine fx_cSv (As := [.ref (N0 + 62), .int (-1)]) (rest := []) S hG (k1441_J7_fill_53178 (by omega) (fu_at (by omega) (fu_at (by omega) (fu_at (by omega) (fu_at (by omega) (fu_at (by omega) (fu_at (by omega) h14))))))) (va_cwS 2 S.2.2.2.2 gX1_match_J7_fill_53178 rfl rfl rfl (by decide +kernel) ⟨Nat.le_of_ble_eq_true rfl, Nat.le_of_ble_eq_true rfl⟩) rfl hl.1 rfl (Nat.le_of_ble_eq_true rfl) dX1_match_20 ⟨Nat.le_of_ble_eq_true rfl, Nat.le_of_ble_eq_true rfl⟩ (fun _ H locs hp hG => ?_)
  refine lv_aload_n S.1 S.2.1 dX1_match_23 rfl (lv_at hl 0 rfl) ?_
  refine lv_iconst (v := 0) S.1 S.2.1 dX1_match_24 (by decide) ?_
  refine lv_iconst (v := 0) S.1 S.2.1 dX1_match_25 (by decide) ?_
  refine fx_cVv (As := [.int 0, .int 0]) (rest := []) S hG (k1442_X1_link (by omega) (fu_at (by omega) (fu_at (by omega) (fu_at (by omega) (fu_at (by omega) fu_s)))) (fu_at (by omega) fu_s) fu_s) (fu_at (by omega) (fu_at (by omega) (fu_at (by omega) (fu_at (by omega) fu_s)))) rfl (cwV 2 S.2.2.2.2 gX1_match_X1_link rfl rfl rfl (by decide +kernel) ⟨Nat.le_of_ble_eq_true rfl, Nat.le_of_ble_eq_true rfl⟩) rfl hl.1 rfl (Nat.le_of_ble_eq_true rfl) dX1_match_26 ⟨Nat.le_of_ble_eq_true rfl, Nat.le_of_ble_eq_true rfl⟩ (fun _ H locs hp hG => ?_)
  refine lv_iconst (v := 0) S.1 S.2.1 dX1_match_29 (by decide) ?_
  refine lv_istore_n (lv' := [(3, .int 0), (0, .ref (N0 + 13)), (1, .ref (N0 + 66)), (2, .ref (N0 + 73))]) S.1 S.2.1 dX1_match_30 rfl hl (by decide) rfl (fun ls hl => ?_)
  refine lv_iload_n S.1 S.2.1 dX1_match_31 rfl (lv_at hl 0 rfl) ?_
  refine lv_aload_n S.1 S.2.1 dX1_match_32 rfl (lv_at hl 2 rfl) ?_
  refine gx_get (C := RX5) (T := TX5) (N := 7) S hG (fu_at (by omega) (fu_at (by omega) (fu_at (by omega) (fu_at (by omega) (fu_at (by omega) (fu_at (by omega) (fu_at (by omega) (fu_at (by omega) (fu_at (by omega) h1))))))))) i_X1_match_X5 rfl 6 (by decide) (by decide +kernel) rfl dX1_match_33 ?_
  refine lv_icmp_ge (tgt := 98) S.1 S.2.1 dX1_match_36 (by decide) (fun c => absurd c (by decide)) (fun _ => ?_)
  refine lv_aload_n S.1 S.2.1 dX1_match_39 rfl (lv_at hl 1 rfl) ?_
  refine gx_get (C := RX1) (T := TX1) (N := 10) S hG (fu_at (by omega) (fu_at (by omega) (fu_at (by omega) (fu_at (by omega) (fu_at (by omega) (fu_at (by omega) fu_s)))))) i_X1_match_X1 rfl 8 (by decide) (by decide +kernel) rfl dX1_match_40 ?_
  refine lv_iload_n S.1 S.2.1 dX1_match_43 rfl (lv_at hl 0 rfl) ?_
  refine gx_iald (v := 0) S hG 0 (fu_at (by omega) fu_s) rfl (fin_l (by decide)) (by decide) dX1_match_44 ?_
  refine lv_istore (lv' := [(4, .int 0), (3, .int 0), (0, .ref (N0 + 13)), (1, .ref (N0 + 66)), (2, .ref (N0 + 73))]) S.1 S.2.1 dX1_match_45 hl (by decide) rfl (fun ls hl => ?_)
  refine lv_iload S.1 S.2.1 dX1_match_47 (lv_at hl 0 rfl) ?_
  refine lv_iconst (v := (-1)) S.1 S.2.1 dX1_match_49 (by decide) ?_
  refine lv_icmp_eq (tgt := 92) S.1 S.2.1 dX1_match_50 (by decide) (fun c => absurd c (by decide)) (fun _ => ?_)
  refine lv_aload_n S.1 S.2.1 dX1_match_53 rfl (lv_at hl 2 rfl) ?_
  refine lv_aload_n S.1 S.2.1 dX1_match_54 rfl (lv_at hl 3 rfl) ?_
  refine lv_iload_n S.1 S.2.1 dX1_match_55 rfl (lv_at hl 1 rfl) ?_
  refine lv_aload_n S.1 S.2.1 dX1_match_56 rfl (lv_at hl 2 rfl) ?_
  refine gx_get (C := RX1) (T := TX1) (N := 10) S hG (fu_at (by omega) (fu_at (by omega) (fu_at (by omega) (fu_at (by omega) (fu_at (by omega) (fu_at (by omega) fu_s)))))) i_X1_match_X1 rfl 4 (by decide) (by decide +kernel) rfl dX1_match_57 ?_
  refine fx_cVi (As := [.int 0, .ref (N0 + 59)]) (rest := [.ref (N0 + 13)]) S hG (k1434_X5_listChildren (by omega) (fu_at (by omega) (fu_at (by omega) (fu_at (by omega) (fu_at (by omega) (fu_at (by omega) (fu_at (by omega) (fu_at (by omega) (fu_at (by omega) (fu_at (by omega) h1)))))))))) (fu_at (by omega) (fu_at (by omega) (fu_at (by omega) (fu_at (by omega) (fu_at (by omega) (fu_at (by omega) (fu_at (by omega) (fu_at (by omega) (fu_at (by omega) h1))))))))) rfl (cwV 2 S.2.2.2.2 gX1_match_X5_listChildren rfl rfl rfl (by decide +kernel) ⟨Nat.le_of_ble_eq_true rfl, Nat.le_of_ble_eq_true rfl⟩) rfl hl.1 rfl (Nat.le_of_ble_eq_true rfl) dX1_match_60 ⟨Nat.le_of_ble_eq_true rfl, Nat.le_of_ble_eq_true rfl⟩ (fun rv_5 _ H locs hp hG => ?_)
  subst rv_5
  refine gx_put (C := RX1) (T := TX1) (N := 10) (ty := .int) (v := .int 0) (fs' := [.ref (N0 + 14), .ref (N0 + 35), .ref (N0 + 57), .ref (N0 + 58), .ref (N0 + 59), .ref (N0 + 60), .int 0, .int 0, .ref (N0 + 61), .ref (N0 + 62)]) S hG (fu_at (by omega) (fu_at (by omega) (fu_at (by omega) (fu_at (by omega) (fu_at (by omega) (fu_at (by omega) fu_s)))))) i_X1_match_X1 rfl 6 (by decide) tyX1 tyX1_ok nmX1 (by decide +kernel) rfl (by decide +kernel) rfl rfl (Nat.le_of_ble_eq_true rfl) rfl dX1_match_63 (fun H locs hG => ?_)
  refine lv_aload_n S.1 S.2.1 dX1_match_66 rfl (lv_at hl 2 rfl) ?_
  refine lv_aload_n S.1 S.2.1 dX1_match_67 rfl (lv_at hl 4 rfl) ?_
  refine lv_iload S.1 S.2.1 dX1_match_68 (lv_at hl 0 rfl) ?_
  refine lv_aload_n S.1 S.2.1 dX1_match_70 rfl (lv_at hl 2 rfl) ?_
  refine gx_get (C := RX1) (T := TX1) (N := 10) S hG fu_s i_X1_match_X1 rfl 5 (by decide) (by decide +kernel) rfl dX1_match_71 ?_
  refine fx_cVi (As := [.int 0, .ref (N0 + 60)]) (rest := [.ref (N0 + 13)]) S hG (k1435_X5_listChildren (by omega) (fu_at (by omega) (fu_at (by omega) (fu_at (by omega) (fu_at (by omega) (fu_at (by omega) (fu_at (by omega) (fu_at (by omega) (fu_at (by omega) (fu_at (by omega) (fu_at (by omega) h3))))))))))) (fu_at (by omega) (fu_at (by omega) (fu_at (by omega) (fu_at (by omega) (fu_at (by omega) (fu_at (by omega) (fu_at (by omega) (fu_at (by omega) (fu_at (by omega) (fu_at (by omega) h3)))))))))) rfl (cwV 2 S.2.2.2.2 gX1_match_X5_listChildren rfl rfl rfl (by decide +kernel) ⟨Nat.le_of_ble_eq_true rfl, Nat.le_of_ble_eq_true rfl⟩) rfl hl.1 rfl (Nat.le_of_ble_eq_true rfl) dX1_match_74 ⟨Nat.le_of_ble_eq_true rfl, Nat.le_of_ble_eq_true rfl⟩ (fun rv_6 _ H locs hp hG => ?_)
  subst rv_6
  refine gx_put (C := RX1) (T := TX1) (N := 10) (ty := .int) (v := .int 0) (fs' := [.ref (N0 + 14), .ref (N0 + 35), .ref (N0 + 57), .ref (N0 + 58), .ref (N0 + 59), .ref (N0 + 60), .int 0, .int 0, .ref (N0 + 61), .ref (N0 + 62)]) S hG fu_s i_X1_match_X1 rfl 7 (by decide) tyX1 tyX1_ok nmX1 (by decide +kernel) rfl (by decide +kernel) rfl rfl (Nat.le_of_ble_eq_true rfl) rfl dX1_match_77 (fun H locs hG => ?_)
  refine lv_aload_n S.1 S.2.1 dX1_match_80 rfl (lv_at hl 2 rfl) ?_
  refine lv_aload_n S.1 S.2.1 dX1_match_81 rfl (lv_at hl 3 rfl) ?_
  refine lv_aload_n S.1 S.2.1 dX1_match_82 rfl (lv_at hl 4 rfl) ?_
  refine fx_cVv (As := [.ref (N0 + 66), .ref (N0 + 73)]) (rest := []) S hG (k1443_X1_fillRestCosts (by omega) fu_s (fu_at (by omega) (fu_at (by omega) (fu_at (by omega) (fu_at (by omega) (fu_at (by omega) (fu_at (by omega) (fu_at (by omega) (fu_at (by omega) (fu_at (by omega) (fu_at (by omega) (fu_at (by omega) h5))))))))))) (fu_at (by omega) (fu_at (by omega) (fu_at (by omega) (fu_at (by omega) (fu_at (by omega) (fu_at (by omega) (fu_at (by omega) fu_s)))))))) fu_s rfl (cwV 2 S.2.2.2.2 gX1_match_X1_fillRestCosts rfl rfl rfl (by decide +kernel) ⟨Nat.le_of_ble_eq_true rfl, Nat.le_of_ble_eq_true rfl⟩) rfl hl.1 rfl (Nat.le_of_ble_eq_true rfl) dX1_match_83 ⟨Nat.le_of_ble_eq_true rfl, Nat.le_of_ble_eq_true rfl⟩ (fun _ H locs hp hG => ?_)
  refine lv_aload_n S.1 S.2.1 dX1_match_86 rfl (lv_at hl 2 rfl) ?_
  refine lv_aload_n S.1 S.2.1 dX1_match_87 rfl (lv_at hl 3 rfl) ?_
  refine lv_aload_n S.1 S.2.1 dX1_match_88 rfl (lv_at hl 4 rfl) ?_
  refine fx_cVv (As := [.ref (N0 + 66), .ref (N0 + 73)]) (rest := []) S hG (k1444_X1_chooseChildren (by omega) (fu_at (by omega) fu_s)) (fu_at (by omega) fu_s) rfl (cwV 2 S.2.2.2.2 gX1_match_X1_chooseChildren rfl rfl rfl (by decide +kernel) ⟨Nat.le_of_ble_eq_true rfl, Nat.le_of_ble_eq_true rfl⟩) rfl hl.1 rfl (Nat.le_of_ble_eq_true rfl) dX1_match_89 ⟨Nat.le_of_ble_eq_true rfl, Nat.le_of_ble_eq_true rfl⟩ (fun _ H locs hp hG => ?_)
  refine lv_iinc (v := 1) (lv' := [(3, .int 1), (4, .int 0), (0, .ref (N0 + 13)), (1, .ref (N0 + 66)), (2, .ref (N0 + 73))]) S.1 S.2.1 dX1_match_92 hl (k := 1) rfl (by decide) (by decide) rfl (fun ls hl => ?_)
  refine lv_goto (tgt := 31) S.1 S.2.1 dX1_match_95 (by decide) ?_
  refine lv_iload_n S.1 S.2.1 dX1_match_31 rfl (lv_at hl 0 rfl) ?_
  refine lv_aload_n S.1 S.2.1 dX1_match_32 rfl (lv_at hl 3 rfl) ?_
  refine gx_get (C := RX5) (T := TX5) (N := 7) S hG (fu_at (by omega) (fu_at (by omega) (fu_at (by omega) (fu_at (by omega) (fu_at (by omega) (fu_at (by omega) (fu_at (by omega) (fu_at (by omega) (fu_at (by omega) (fu_at (by omega) (fu_at (by omega) (fu_at (by omega) h1)))))))))))) i_X1_match_X5 rfl 6 (by decide) (by decide +kernel) rfl dX1_match_33 ?_
  refine lv_icmp_ge (tgt := 98) S.1 S.2.1 dX1_match_36 (by decide) (fun _ => ?_) (fun c => absurd (by decide) c)
  have hG : fG N0 D vwCl (fty cI cC cL cD cII cTr cTm cIt cB) (fen ql) s (fu (fu (fu (fu (fu (fu (fu F (N0 + 57) (.inl (cI, 20, .inl (upd (fun _ => 0) 0 1)))) (N0 + 58) (.inl (cI, 20, .inl (upd (fun _ => 0) 0 1)))) (N0 + 15) (.inl (cI, 20, .inl (upd (fun _ => 0) 0 0)))) (N0 + 61) (.inl (cI, 20, .inl (upd (upd (upd (upd (upd (upd (upd (upd (upd (upd (upd (upd (upd (upd (upd (upd (upd (upd (upd (upd (upd (fun _ => 0) 0 (-1)) 1 (-1)) 2 (-1)) 3 (-1)) 4 (-1)) 5 (-1)) 6 (-1)) 7 (-1)) 8 (-1)) 9 (-1)) 10 (-1)) 11 (-1)) 12 (-1)) 13 (-1)) 14 (-1)) 15 (-1)) 16 (-1)) 17 (-1)) 18 (-1)) 19 (-1)) 0 0)))) (N0 + 62) (.inl (cI, 20, .inl (upd (upd (upd (upd (upd (upd (upd (upd (upd (upd (upd (upd (upd (upd (upd (upd (upd (upd (upd (upd (upd (fun _ => 0) 0 (-1)) 1 (-1)) 2 (-1)) 3 (-1)) 4 (-1)) 5 (-1)) 6 (-1)) 7 (-1)) 8 (-1)) 9 (-1)) 10 (-1)) 11 (-1)) 12 (-1)) 13 (-1)) 14 (-1)) 15 (-1)) 16 (-1)) 17 (-1)) 18 (-1)) 19 (-1)) 0 0)))) (N0 + 13) (.inr (3, [.ref (N0 + 14), .ref (N0 + 35), .ref (N0 + 57), .ref (N0 + 58), .ref (N0 + 59), .ref (N0 + 60), .int 0, .int 0, .ref (N0 + 61), .ref (N0 + 62)]))) (N0 + 36) (.inl (cI, 21, .inl (upd (upd (fun _ => 0) 0 0) 0 0)))) n H locs := hG.weak (fun a e h => by
    rcases fu_cases h with ⟨rfl, he⟩ | ⟨hne0, h⟩
    · cases he; exact fu_s
    · skip
      rcases fu_cases h with ⟨rfl, he⟩ | ⟨hne1, h⟩
      · cases he; exact (fu_at (by omega) fu_s)
      · skip
        rcases fu_cases h with ⟨rfl, he⟩ | ⟨hne2, h⟩
        · cases he; exact (fu_at (by omega) (fu_at (by omega) (fu_at (by omega) fu_s)))
        · skip
          rcases fu_cases h with ⟨rfl, he⟩ | ⟨hne3, h⟩
          · cases he; exact (fu_at (by omega) (fu_at (by omega) (fu_at (by omega) (fu_at (by omega) fu_s))))
          · skip
            rcases fu_cases h with ⟨rfl, he⟩ | ⟨hne4, h⟩
            · cases he; exact (fu_at (by omega) (fu_at (by omega) (fu_at (by omega) (fu_at (by omega) (fu_at (by omega) (fu_at (by omega) (fu_at (by omega) fu_s)))))))
            · skip
              rcases fu_cases h with ⟨rfl, he⟩ | ⟨hne5, h⟩
              · cases he; exact (fu_at (by omega) (fu_at (by omega) (fu_at (by omega) (fu_at (by omega) (fu_at (by omega) (fu_at (by omega) (fu_at (by omega) (fu_at (by omega) (fu_at (by omega) (fu_at (by omega) fu_s))))))))))
              · skip
                rcases fu_cases h with ⟨rfl, he⟩ | ⟨hne6, h⟩
                · cases he; exact (fu_at (by omega) (fu_at (by omega) (fu_at (by omega) (fu_at (by omega) (fu_at (by omega) (fu_at (by omega) (fu_at (by omega) (fu_at (by omega) (fu_at (by omega) (fu_at (by omega) (fu_at (by omega) fu_s)))))))))))
                · exact (fu_at (by omega) (fu_at (by omega) (fu_at (by omega) (fu_at (by omega) (fu_at (by omega) (fu_at (by omega) (fu_at (by omega) (fu_at (by omega) (fu_at (by omega) (fu_at (by omega) (fu_at (by omega) (fu_at (by omega) h)))))))))))))
  exact fx_vret S hr hlocks () hG trivial dX1_match_98
theorem i_X3_addChanges_X3 : ∀ w ∈ u_ws RX3 TX3 9, w ∈ wsX3_addChanges := by decide +kernel
theorem i_X3_addChanges_X5 : ∀ w ∈ u_ws RX5 TX5 7, w ∈ wsX3_addChanges := by decide +kernel
theorem k1446_X3_addChanges {n : Nat} (hn : N0 + 231 ≤ n) (h0 : F (N0 + 65) = some (.inr (5, [.int 0, .ref (N0 + 66), .ref (N0 + 73), .ref (N0 + 80), .ref (N0 + 81), .ref (N0 + 82), .ref (N0 + 83), .ref (N0 + 84), .int 0]))) (h1 : F (N0 + 66) = some (.inr (7, [.ref (N0 + 67), .ref (N0 + 68), .ref (N0 + 69), .ref (N0 + 70), .ref (N0 + 71), .ref (N0 + 72), .int 1]))) (h2 : F (N0 + 67) = some (.inl (cC, 20, .inl (upd (fun _ => 0) 0 97)))) (h3 : F (N0 + 73) = some (.inr (7, [.ref (N0 + 74), .ref (N0 + 75), .ref (N0 + 76), .ref (N0 + 77), .ref (N0 + 78), .ref (N0 + 79), .int 1]))) (h4 : F (N0 + 74) = some (.inl (cC, 20, .inl (upd (fun _ => 0) 0 97)))) (h5 : F (N0 + 69) = some (.inl (cI, 20, .inl (fun _ => 0)))) (h6 : F (N0 + 76) = some (.inl (cI, 20, .inl (fun _ => 0)))) : Met l yX3_addChanges wsX3_addChanges ({ frames := 0, cells := 0, slots := 0, locals := 0 }) (va_Pc [.ref (N0 + 65), .int 0, .int 0] (fP N0 D vwCl (fty cI cC cL cD cII cTr cTm cIt cB) (fen ql) F n)) (fQv N0 D vwCl (fty cI cC cL cD cII cTr cTm cIt cB) (fun (_ : Unit) => True) (fun _ => F) (fun _ => n)) 0 0 (fA N0) := by
  refine fx_start 3 rfl rfl (Nat.le_of_ble_eq_true rfl) ?_ rfl
  intro p e s m below meth c ls S hr hlocks hin hG hl
  have hl : lv_has ls 3 [(0, .ref (N0 + 65)), (1, .int 0), (2, .int 0)] := hl
  have lt_h0 := hG.1.lt h0
  have lt_h1 := hG.1.lt h1
  have lt_h2 := hG.1.lt h2
  have lt_h3 := hG.1.lt h3
  have lt_h4 := hG.1.lt h4
  have lt_h5 := hG.1.lt h5
  have lt_h6 := hG.1.lt h6
  refine lv_aload_n S.1 S.2.1 dX3_addChanges_0 rfl (lv_at hl 0 rfl) ?_
  refine gx_get (C := RX3) (T := TX3) (N := 9) S hG h0 i_X3_addChanges_X3 rfl 1 (by decide) (by decide +kernel) rfl dX3_addChanges_1 ?_
  refine gx_get (C := RX5) (T := TX5) (N := 7) S hG h1 i_X3_addChanges_X5 rfl 0 (by decide) (by decide +kernel) rfl dX3_addChanges_4 ?_
  refine lv_iload_n S.1 S.2.1 dX3_addChanges_7 rfl (lv_at hl 1 rfl) ?_
  refine gx_cald (v := 97) S hG 1 h2 rfl (fin_l (by decide)) (by decide) dX3_addChanges_8 ?_
  refine lv_aload_n S.1 S.2.1 dX3_addChanges_9 rfl (lv_at hl 0 rfl) ?_
  refine gx_get (C := RX3) (T := TX3) (N := 9) S hG h0 i_X3_addChanges_X3 rfl 2 (by decide) (by decide +kernel) rfl dX3_addChanges_10 ?_
  refine gx_get (C := RX5) (T := TX5) (N := 7) S hG h3 i_X3_addChanges_X5 rfl 0 (by decide) (by decide +kernel) rfl dX3_addChanges_13 ?_
  refine lv_iload_n S.1 S.2.1 dX3_addChanges_16 rfl (lv_at hl 2 rfl) ?_
  refine gx_cald (v := 97) S hG 1 h4 rfl (fin_l (by decide)) (by decide) dX3_addChanges_17 ?_
  refine lv_icmp_eq (tgt := 29) S.1 S.2.1 dX3_addChanges_18 (by decide) (fun _ => ?_) (fun c => absurd (by decide) c)
  refine lv_aload_n S.1 S.2.1 dX3_addChanges_29 rfl (lv_at hl 0 rfl) ?_
  refine gx_get (C := RX3) (T := TX3) (N := 9) S hG h0 i_X3_addChanges_X3 rfl 1 (by decide) (by decide +kernel) rfl dX3_addChanges_30 ?_
  refine gx_get (C := RX5) (T := TX5) (N := 7) S hG h1 i_X3_addChanges_X5 rfl 2 (by decide) (by decide +kernel) rfl dX3_addChanges_33 ?_
  refine lv_iload_n S.1 S.2.1 dX3_addChanges_36 rfl (lv_at hl 1 rfl) ?_
  refine gx_iald (v := 0) S hG 0 h5 rfl (fin_l (by decide)) (by decide) dX3_addChanges_37 ?_
  refine lv_aload_n S.1 S.2.1 dX3_addChanges_38 rfl (lv_at hl 0 rfl) ?_
  refine gx_get (C := RX3) (T := TX3) (N := 9) S hG h0 i_X3_addChanges_X3 rfl 2 (by decide) (by decide +kernel) rfl dX3_addChanges_39 ?_
  refine gx_get (C := RX5) (T := TX5) (N := 7) S hG h3 i_X3_addChanges_X5 rfl 2 (by decide) (by decide +kernel) rfl dX3_addChanges_42 ?_
  refine lv_iload_n S.1 S.2.1 dX3_addChanges_45 rfl (lv_at hl 2 rfl) ?_
  refine gx_iald (v := 0) S hG 0 h6 rfl (fin_l (by decide)) (by decide) dX3_addChanges_46 ?_
  refine lv_icmp_eq (tgt := 58) S.1 S.2.1 dX3_addChanges_47 (by decide) (fun _ => ?_) (fun c => absurd (by decide) c)
  exact fx_vret S hr hlocks () hG trivial dX3_addChanges_58
theorem i_X3_findOperations_X3 : ∀ w ∈ u_ws RX3 TX3 9, w ∈ wsX3_findOperations := by decide +kernel
theorem i_X3_findOperations_X5 : ∀ w ∈ u_ws RX5 TX5 7, w ∈ wsX3_findOperations := by decide +kernel
theorem k1447_X3_findOperations {n : Nat} (hn : N0 + 231 ≤ n) (h0 : F (N0 + 65) = some (.inr (5, [.int 0, .ref (N0 + 66), .ref (N0 + 73), .ref (N0 + 80), .ref (N0 + 81), .ref (N0 + 82), .ref (N0 + 83), .ref (N0 + 84), .int 0]))) (h1 : F (N0 + 66) = some (.inr (7, [.ref (N0 + 67), .ref (N0 + 68), .ref (N0 + 69), .ref (N0 + 70), .ref (N0 + 71), .ref (N0 + 72), .int 1]))) (h2 : F (N0 + 80) = some (.inl (cI, 20, .inl (upd (upd (upd (upd (upd (upd (upd (upd (upd (upd (upd (upd (upd (upd (upd (upd (upd (upd (upd (upd (upd (fun _ => 0) 0 (-1)) 1 (-1)) 2 (-1)) 3 (-1)) 4 (-1)) 5 (-1)) 6 (-1)) 7 (-1)) 8 (-1)) 9 (-1)) 10 (-1)) 11 (-1)) 12 (-1)) 13 (-1)) 14 (-1)) 15 (-1)) 16 (-1)) 17 (-1)) 18 (-1)) 19 (-1)) 0 0)))) (h3 : F (N0 + 67) = some (.inl (cC, 20, .inl (upd (fun _ => 0) 0 97)))) (h4 : F (N0 + 73) = some (.inr (7, [.ref (N0 + 74), .ref (N0 + 75), .ref (N0 + 76), .ref (N0 + 77), .ref (N0 + 78), .ref (N0 + 79), .int 1]))) (h5 : F (N0 + 74) = some (.inl (cC, 20, .inl (upd (fun _ => 0) 0 97)))) (h6 : F (N0 + 69) = some (.inl (cI, 20, .inl (fun _ => 0)))) (h7 : F (N0 + 76) = some (.inl (cI, 20, .inl (fun _ => 0)))) : Met l yX3_findOperations wsX3_findOperations ({ frames := 1, cells := 0, slots := 0, locals := 22 }) (va_Pc [.ref (N0 + 65)] (fP N0 D vwCl (fty cI cC cL cD cII cTr cTm cIt cB) (fen ql) F n)) (fQv N0 D vwCl (fty cI cC cL cD cII cTr cTm cIt cB) (fun (_ : Unit) => True) (fun _ => (fu F (N0 + 65) (.inr (5, [.int 0, .ref (N0 + 66), .ref (N0 + 73), .ref (N0 + 80), .ref (N0 + 81), .ref (N0 + 82), .ref (N0 + 83), .ref (N0 + 84), .int 0])))) (fun _ => n)) 0 0 (fA N0) := by
  refine fx_start 4 rfl rfl (Nat.le_of_ble_eq_true rfl) ?_ rfl
  intro p e s m below meth c ls S hr hlocks hin hG hl
  have hl : lv_has ls 4 [(0, .ref (N0 + 65))] := hl
  have lt_h0 := hG.1.lt h0
  have lt_h1 := hG.1.lt h1
  have lt_h2 := hG.1.lt h2
  have lt_h3 := hG.1.lt h3
  have lt_h4 := hG.1.lt h4
  have lt_h5 := hG.1.lt h5
  have lt_h6 := hG.1.lt h6
  have lt_h7 := hG.1.lt h7
  refine lv_aload_n S.1 S.2.1 dX3_findOperations_0 rfl (lv_at hl 0 rfl) ?_
  refine lv_iconst (v := 0) S.1 S.2.1 dX3_findOperations_1 (by decide) ?_
  refine gx_put (C := RX3) (T := TX3) (N := 9) (ty := .int) (v := .int 0) (fs' := [.int 0, .ref (N0 + 66), .ref (N0 + 73), .ref (N0 + 80), .ref (N0 + 81), .ref (N0 + 82), .ref (N0 + 83), .ref (N0 + 84), .int 0]) S hG h0 i_X3_findOperations_X3 rfl 8 (by decide) tyX3 tyX3_ok nmX3 (by decide +kernel) rfl (by decide +kernel) rfl rfl (Nat.le_of_ble_eq_true rfl) rfl dX3_findOperations_2 (fun H locs hG => ?_)
  refine lv_iconst (v := 0) S.1 S.2.1 dX3_findOperations_5 (by decide) ?_
  refine lv_istore_n (lv' := [(1, .int 0), (0, .ref (N0 + 65))]) S.1 S.2.1 dX3_findOperations_6 rfl hl (by decide) rfl (fun ls hl => ?_)
  refine lv_iconst (v := 0) S.1 S.2.1 dX3_findOperations_7 (by decide) ?_
  refine lv_istore_n (lv' := [(2, .int 0), (1, .int 0), (0, .ref (N0 + 65))]) S.1 S.2.1 dX3_findOperations_8 rfl hl (by decide) rfl (fun ls hl => ?_)
  refine lv_iconst (v := 0) S.1 S.2.1 dX3_findOperations_9 (by decide) ?_
  refine lv_istore_n (lv' := [(3, .int 0), (2, .int 0), (1, .int 0), (0, .ref (N0 + 65))]) S.1 S.2.1 dX3_findOperations_10 rfl hl (by decide) rfl (fun ls hl => ?_)
  refine lv_iload_n S.1 S.2.1 dX3_findOperations_11 rfl (lv_at hl 0 rfl) ?_
  refine lv_bipush (v := 40) S.1 S.2.1 dX3_findOperations_12 (by decide) ?_
  refine lv_icmp_ge (tgt := 128) S.1 S.2.1 dX3_findOperations_14 (by decide) (fun c => absurd c (by decide)) (fun _ => ?_)
  refine lv_iload_n S.1 S.2.1 dX3_findOperations_17 rfl (lv_at hl 2 rfl) ?_
  refine lv_aload_n S.1 S.2.1 dX3_findOperations_18 rfl (lv_at hl 3 rfl) ?_
  refine gx_get (C := RX3) (T := TX3) (N := 9) S hG fu_s i_X3_findOperations_X3 rfl 1 (by decide) (by decide +kernel) rfl dX3_findOperations_19 ?_
  refine gx_get (C := RX5) (T := TX5) (N := 7) S hG (fu_at (by omega) h1) i_X3_findOperations_X5 rfl 6 (by decide) (by decide +kernel) rfl dX3_findOperations_22 ?_
  refine lv_icmp_lt (tgt := 40) S.1 S.2.1 dX3_findOperations_25 (by decide) (fun _ => ?_) (fun c => absurd (by decide) c)
  refine lv_iload_n S.1 S.2.1 dX3_findOperations_40 rfl (lv_at hl 2 rfl) ?_
  refine lv_aload_n S.1 S.2.1 dX3_findOperations_41 rfl (lv_at hl 3 rfl) ?_
  refine gx_get (C := RX3) (T := TX3) (N := 9) S hG fu_s i_X3_findOperations_X3 rfl 1 (by decide) (by decide +kernel) rfl dX3_findOperations_42 ?_
  refine gx_get (C := RX5) (T := TX5) (N := 7) S hG (fu_at (by omega) h1) i_X3_findOperations_X5 rfl 6 (by decide) (by decide +kernel) rfl dX3_findOperations_45 ?_
  refine lv_icmp_ge (tgt := 76) S.1 S.2.1 dX3_findOperations_48 (by decide) (fun c => absurd c (by decide)) (fun _ => ?_)
  refine lv_aload_n S.1 S.2.1 dX3_findOperations_51 rfl (lv_at hl 3 rfl) ?_
  refine gx_get (C := RX3) (T := TX3) (N := 9) S hG fu_s i_X3_findOperations_X3 rfl 3 (by decide) (by decide +kernel) rfl dX3_findOperations_52 ?_
  refine lv_iload_n S.1 S.2.1 dX3_findOperations_55 rfl (lv_at hl 2 rfl) ?_
  refine gx_iald (v := 0) S hG 0 (fu_at (by omega) h2) rfl (fin_l (by decide)) (by decide) dX3_findOperations_56 ?_
  refine lv_iload_n S.1 S.2.1 dX3_findOperations_57 rfl (lv_at hl 1 rfl) ?_
  refine lv_icmp_ne (tgt := 76) S.1 S.2.1 dX3_findOperations_58 (by decide) (fun c => absurd (by decide) c) (fun _ => ?_)
  refine lv_aload_n S.1 S.2.1 dX3_findOperations_61 rfl (lv_at hl 3 rfl) ?_
  refine lv_iload_n S.1 S.2.1 dX3_findOperations_62 rfl (lv_at hl 2 rfl) ?_
  refine lv_iload_n S.1 S.2.1 dX3_findOperations_63 rfl (lv_at hl 1 rfl) ?_
  refine fx_cVv (As := [.int 0, .int 0]) (rest := []) S hG (k1446_X3_addChanges (by omega) fu_s (fu_at (by omega) h1) (fu_at (by omega) h3) (fu_at (by omega) h4) (fu_at (by omega) h5) (fu_at (by omega) h6) (fu_at (by omega) h7)) fu_s rfl (cwV 2 S.2.2.2.2 gX3_findOperations_X3_addChanges rfl rfl rfl (by decide +kernel) ⟨Nat.le_of_ble_eq_true rfl, Nat.le_of_ble_eq_true rfl⟩) rfl hl.1 rfl (Nat.le_of_ble_eq_true rfl) dX3_findOperations_64 ⟨Nat.le_of_ble_eq_true rfl, Nat.le_of_ble_eq_true rfl⟩ (fun _ H locs hp hG => ?_)
  refine lv_iinc (v := 1) (lv' := [(1, .int 1), (3, .int 0), (2, .int 0), (0, .ref (N0 + 65))]) S.1 S.2.1 dX3_findOperations_67 hl (k := 2) rfl (by decide) (by decide) rfl (fun ls hl => ?_)
  refine lv_iinc (v := 1) (lv' := [(2, .int 1), (1, .int 1), (3, .int 0), (0, .ref (N0 + 65))]) S.1 S.2.1 dX3_findOperations_70 hl (k := 2) rfl (by decide) (by decide) rfl (fun ls hl => ?_)
  refine lv_goto (tgt := 122) S.1 S.2.1 dX3_findOperations_73 (by decide) ?_
  refine lv_iinc (v := 1) (lv' := [(3, .int 1), (2, .int 1), (1, .int 1), (0, .ref (N0 + 65))]) S.1 S.2.1 dX3_findOperations_122 hl (k := 2) rfl (by decide) (by decide) rfl (fun ls hl => ?_)
  refine lv_goto (tgt := 11) S.1 S.2.1 dX3_findOperations_125 (by decide) ?_
  refine lv_iload_n S.1 S.2.1 dX3_findOperations_11 rfl (lv_at hl 0 rfl) ?_
  refine lv_bipush (v := 40) S.1 S.2.1 dX3_findOperations_12 (by decide) ?_
  refine lv_icmp_ge (tgt := 128) S.1 S.2.1 dX3_findOperations_14 (by decide) (fun c => absurd c (by decide)) (fun _ => ?_)
  refine lv_iload_n S.1 S.2.1 dX3_findOperations_17 rfl (lv_at hl 2 rfl) ?_
  refine lv_aload_n S.1 S.2.1 dX3_findOperations_18 rfl (lv_at hl 3 rfl) ?_
  refine gx_get (C := RX3) (T := TX3) (N := 9) S hG fu_s i_X3_findOperations_X3 rfl 1 (by decide) (by decide +kernel) rfl dX3_findOperations_19 ?_
  refine gx_get (C := RX5) (T := TX5) (N := 7) S hG (fu_at (by omega) h1) i_X3_findOperations_X5 rfl 6 (by decide) (by decide +kernel) rfl dX3_findOperations_22 ?_
  refine lv_icmp_lt (tgt := 40) S.1 S.2.1 dX3_findOperations_25 (by decide) (fun c => absurd c (by decide)) (fun _ => ?_)
  refine lv_iload_n S.1 S.2.1 dX3_findOperations_28 rfl (lv_at hl 1 rfl) ?_
  refine lv_aload_n S.1 S.2.1 dX3_findOperations_29 rfl (lv_at hl 3 rfl) ?_
  refine gx_get (C := RX3) (T := TX3) (N := 9) S hG fu_s i_X3_findOperations_X3 rfl 2 (by decide) (by decide +kernel) rfl dX3_findOperations_30 ?_
  refine gx_get (C := RX5) (T := TX5) (N := 7) S hG (fu_at (by omega) h4) i_X3_findOperations_X5 rfl 6 (by decide) (by decide +kernel) rfl dX3_findOperations_33 ?_
  refine lv_icmp_lt (tgt := 40) S.1 S.2.1 dX3_findOperations_36 (by decide) (fun c => absurd c (by decide)) (fun _ => ?_)
  exact fx_vret S hr hlocks () hG trivial dX3_findOperations_39
theorem i_X3_recognizeMoves_X3 : ∀ w ∈ u_ws RX3 TX3 9, w ∈ wsX3_recognizeMoves := by decide +kernel
theorem k1448_X3_recognizeMoves {n : Nat} (hn : N0 + 231 ≤ n) (h0 : F (N0 + 65) = some (.inr (5, [.int 0, .ref (N0 + 66), .ref (N0 + 73), .ref (N0 + 80), .ref (N0 + 81), .ref (N0 + 82), .ref (N0 + 83), .ref (N0 + 84), .int 0]))) : Met l yX3_recognizeMoves wsX3_recognizeMoves ({ frames := 0, cells := 0, slots := 0, locals := 0 }) (va_Pc [.ref (N0 + 65)] (fP N0 D vwCl (fty cI cC cL cD cII cTr cTm cIt cB) (fen ql) F n)) (fQv N0 D vwCl (fty cI cC cL cD cII cTr cTm cIt cB) (fun (_ : Unit) => True) (fun _ => F) (fun _ => n)) 0 0 (fA N0) := by
  refine fx_start 3 rfl rfl (Nat.le_of_ble_eq_true rfl) ?_ rfl
  intro p e s m below meth c ls S hr hlocks hin hG hl
  have hl : lv_has ls 3 [(0, .ref (N0 + 65))] := hl
  have lt_h0 := hG.1.lt h0
  refine lv_iconst (v := 0) S.1 S.2.1 dX3_recognizeMoves_0 (by decide) ?_
  refine lv_istore_n (lv' := [(1, .int 0), (0, .ref (N0 + 65))]) S.1 S.2.1 dX3_recognizeMoves_1 rfl hl (by decide) rfl (fun ls hl => ?_)
  refine lv_iload_n S.1 S.2.1 dX3_recognizeMoves_2 rfl (lv_at hl 0 rfl) ?_
  refine lv_aload_n S.1 S.2.1 dX3_recognizeMoves_3 rfl (lv_at hl 1 rfl) ?_
  refine gx_get (C := RX3) (T := TX3) (N := 9) S hG h0 i_X3_recognizeMoves_X3 rfl 8 (by decide) (by decide +kernel) rfl dX3_recognizeMoves_4 ?_
  refine lv_icmp_ge (tgt := 71) S.1 S.2.1 dX3_recognizeMoves_7 (by decide) (fun _ => ?_) (fun c => absurd (by decide) c)
  exact fx_vret S hr hlocks () hG trivial dX3_recognizeMoves_71
theorem i_X3_removeDropped_X3 : ∀ w ∈ u_ws RX3 TX3 9, w ∈ wsX3_removeDropped := by decide +kernel
theorem k1449_X3_removeDropped {n : Nat} (hn : N0 + 231 ≤ n) (h0 : F (N0 + 65) = some (.inr (5, [.int 0, .ref (N0 + 66), .ref (N0 + 73), .ref (N0 + 80), .ref (N0 + 81), .ref (N0 + 82), .ref (N0 + 83), .ref (N0 + 84), .int 0]))) : Met l yX3_removeDropped wsX3_removeDropped ({ frames := 0, cells := 0, slots := 0, locals := 0 }) (va_Pc [.ref (N0 + 65)] (fP N0 D vwCl (fty cI cC cL cD cII cTr cTm cIt cB) (fen ql) F n)) (fQv N0 D vwCl (fty cI cC cL cD cII cTr cTm cIt cB) (fun (_ : Unit) => True) (fun _ => (fu F (N0 + 65) (.inr (5, [.int 0, .ref (N0 + 66), .ref (N0 + 73), .ref (N0 + 80), .ref (N0 + 81), .ref (N0 + 82), .ref (N0 + 83), .ref (N0 + 84), .int 0])))) (fun _ => n)) 0 0 (fA N0) := by
  refine fx_start 3 rfl rfl (Nat.le_of_ble_eq_true rfl) ?_ rfl
  intro p e s m below meth c ls S hr hlocks hin hG hl
  have hl : lv_has ls 3 [(0, .ref (N0 + 65))] := hl
  have lt_h0 := hG.1.lt h0
  refine lv_aload_n S.1 S.2.1 dX3_removeDropped_0 rfl (lv_at hl 0 rfl) ?_
  refine gx_get (C := RX3) (T := TX3) (N := 9) S hG h0 i_X3_removeDropped_X3 rfl 8 (by decide) (by decide +kernel) rfl dX3_removeDropped_1 ?_
  refine lv_istore_n (lv' := [(1, .int 0), (0, .ref (N0 + 65))]) S.1 S.2.1 dX3_removeDropped_4 rfl hl (by decide) rfl (fun ls hl => ?_)
  refine lv_aload_n S.1 S.2.1 dX3_removeDropped_5 rfl (lv_at hl 1 rfl) ?_
  refine lv_iconst (v := 0) S.1 S.2.1 dX3_removeDropped_6 (by decide) ?_
  refine gx_put (C := RX3) (T := TX3) (N := 9) (ty := .int) (v := .int 0) (fs' := [.int 0, .ref (N0 + 66), .ref (N0 + 73), .ref (N0 + 80), .ref (N0 + 81), .ref (N0 + 82), .ref (N0 + 83), .ref (N0 + 84), .int 0]) S hG h0 i_X3_removeDropped_X3 rfl 8 (by decide) tyX3 tyX3_ok nmX3 (by decide +kernel) rfl (by decide +kernel) rfl rfl (Nat.le_of_ble_eq_true rfl) rfl dX3_removeDropped_7 (fun H locs hG => ?_)
  refine lv_iconst (v := 0) S.1 S.2.1 dX3_removeDropped_10 (by decide) ?_
  refine lv_istore_n (lv' := [(2, .int 0), (1, .int 0), (0, .ref (N0 + 65))]) S.1 S.2.1 dX3_removeDropped_11 rfl hl (by decide) rfl (fun ls hl => ?_)
  refine lv_iload_n S.1 S.2.1 dX3_removeDropped_12 rfl (lv_at hl 0 rfl) ?_
  refine lv_iload_n S.1 S.2.1 dX3_removeDropped_13 rfl (lv_at hl 1 rfl) ?_
  refine lv_icmp_ge (tgt := 56) S.1 S.2.1 dX3_removeDropped_14 (by decide) (fun _ => ?_) (fun c => absurd (by decide) c)
  exact fx_vret S hr hlocks () hG trivial dX3_removeDropped_56
theorem i_X3_compute_X1 : ∀ w ∈ u_ws RX1 TX1 10, w ∈ wsX3_compute := by decide +kernel
theorem i_X3_compute_X3 : ∀ w ∈ u_ws RX3 TX3 9, w ∈ wsX3_compute := by decide +kernel
set_option maxHeartbeats 16000000 in
theorem k1450_X3_compute {n : Nat} (hn : N0 + 231 ≤ n) (h0 : F (N0 + 65) = some (.inr (5, [.int 0, .ref (N0 + 66), .ref (N0 + 73), .ref (N0 + 80), .ref (N0 + 81), .ref (N0 + 82), .ref (N0 + 83), .ref (N0 + 84), .int 0]))) (h1 : F (N0 + 143) = some (.inr (7, [.ref (N0 + 144), .ref (N0 + 145), .ref (N0 + 146), .ref (N0 + 147), .ref (N0 + 148), .ref (N0 + 149), .int 1]))) (h2 : F (N0 + 66) = some (.inr (7, [.ref (N0 + 67), .ref (N0 + 68), .ref (N0 + 69), .ref (N0 + 70), .ref (N0 + 71), .ref (N0 + 72), .int 1]))) (h3 : F (N0 + 144) = some (.inl (cC, 20, .inl (upd (fun _ => 0) 0 97)))) (h4 : F (N0 + 67) = some (.inl (cC, 20, .inl (upd (fun _ => 0) 0 97)))) (h5 : F (N0 + 145) = some (.inl (cI, 20, .inl (fun _ => 0)))) (h6 : F (N0 + 68) = some (.inl (cI, 20, .inl (fun _ => 0)))) (h7 : F (N0 + 146) = some (.inl (cI, 20, .inl (fun _ => 0)))) (h8 : F (N0 + 69) = some (.inl (cI, 20, .inl (fun _ => 0)))) (h9 : F (N0 + 147) = some (.inl (cI, 20, .inl (upd (fun _ => 0) 0 (-1))))) (h10 : F (N0 + 70) = some (.inl (cI, 20, .inl (upd (fun _ => 0) 0 (-1))))) (h11 : F (N0 + 73) = some (.inr (7, [.ref (N0 + 74), .ref (N0 + 75), .ref (N0 + 76), .ref (N0 + 77), .ref (N0 + 78), .ref (N0 + 79), .int 1]))) (h12 : F (N0 + 74) = some (.inl (cC, 20, .inl (upd (fun _ => 0) 0 97)))) (h13 : F (N0 + 75) = some (.inl (cI, 20, .inl (fun _ => 0)))) (h14 : F (N0 + 76) = some (.inl (cI, 20, .inl (fun _ => 0)))) (h15 : F (N0 + 77) = some (.inl (cI, 20, .inl (upd (fun _ => 0) 0 (-1))))) (h16 : F (N0 + 13) = some (.inr (3, [.ref (N0 + 14), .ref (N0 + 35), .ref (N0 + 57), .ref (N0 + 58), .ref (N0 + 59), .ref (N0 + 60), .int 0, .int 0, .ref (N0 + 61), .ref (N0 + 62)]))) (h17 : F (N0 + 57) = some (.inl (cI, 20, .inl (fun _ => 0)))) (h18 : F (N0 + 58) = some (.inl (cI, 20, .inl (fun _ => 0)))) (h19 : F (N0 + 35) = some (.inl (cII, 21, .inr (.inr (.inr (.inr (fun j => if j < 21 then some ((N0 + 36) + j) else none))))))) (h20 : F (N0 + 36) = some (.inl (cI, 21, .inl (fun _ => 0)))) (h21 : F (N0 + 14) = some (.inl (cII, 20, .inr (.inr (.inr (.inr (fun j => if j < 20 then some ((N0 + 15) + j) else none))))))) (h22 : F (N0 + 15) = some (.inl (cI, 20, .inl (fun _ => 0)))) (h23 : F (N0 + 61) = some (.inl (cI, 20, .inl (fun _ => 0)))) (h24 : F (N0 + 62) = some (.inl (cI, 20, .inl (fun _ => 0)))) (h25 : F (N0 + 80) = some (.inl (cI, 20, .inl (fun _ => 0)))) (h26 : F (N0 + 81) = some (.inl (cI, 20, .inl (fun _ => 0)))) : Met l yX3_compute wsX3_compute ({ frames := 4, cells := 0, slots := 0, locals := 97 }) (va_Pc [.ref (N0 + 65), .ref (N0 + 143), .ref (N0 + 143), .ref (N0 + 13)] (fP N0 D vwCl (fty cI cC cL cD cII cTr cTm cIt cB) (fen ql) F n)) (fQv N0 D vwCl (fty cI cC cL cD cII cTr cTm cIt cB) (fun (_ : Unit) => True) (fun _ => (fu (fu (fu (fu (fu (fu (fu (fu (fu (fu (fu (fu (fu (fu (fu (fu (fu (fu (fu (fu F (N0 + 67) (.inl (cC, 20, .inl (upd (fun _ => 0) 0 97)))) (N0 + 68) (.inl (cI, 20, .inl (fun _ => 0)))) (N0 + 69) (.inl (cI, 20, .inl (fun _ => 0)))) (N0 + 70) (.inl (cI, 20, .inl (upd (fun _ => 0) 0 (-1))))) (N0 + 66) (.inr (7, [.ref (N0 + 67), .ref (N0 + 68), .ref (N0 + 69), .ref (N0 + 70), .ref (N0 + 71), .ref (N0 + 72), .int 1]))) (N0 + 74) (.inl (cC, 20, .inl (upd (fun _ => 0) 0 97)))) (N0 + 75) (.inl (cI, 20, .inl (fun _ => 0)))) (N0 + 76) (.inl (cI, 20, .inl (fun _ => 0)))) (N0 + 77) (.inl (cI, 20, .inl (upd (fun _ => 0) 0 (-1))))) (N0 + 73) (.inr (7, [.ref (N0 + 74), .ref (N0 + 75), .ref (N0 + 76), .ref (N0 + 77), .ref (N0 + 78), .ref (N0 + 79), .int 1]))) (N0 + 57) (.inl (cI, 20, .inl (upd (fun _ => 0) 0 1)))) (N0 + 58) (.inl (cI, 20, .inl (upd (fun _ => 0) 0 1)))) (N0 + 15) (.inl (cI, 20, .inl (upd (fun _ => 0) 0 0)))) (N0 + 61) (.inl (cI, 20, .inl (upd (upd (upd (upd (upd (upd (upd (upd (upd (upd (upd (upd (upd (upd (upd (upd (upd (upd (upd (upd (upd (fun _ => 0) 0 (-1)) 1 (-1)) 2 (-1)) 3 (-1)) 4 (-1)) 5 (-1)) 6 (-1)) 7 (-1)) 8 (-1)) 9 (-1)) 10 (-1)) 11 (-1)) 12 (-1)) 13 (-1)) 14 (-1)) 15 (-1)) 16 (-1)) 17 (-1)) 18 (-1)) 19 (-1)) 0 0)))) (N0 + 62) (.inl (cI, 20, .inl (upd (upd (upd (upd (upd (upd (upd (upd (upd (upd (upd (upd (upd (upd (upd (upd (upd (upd (upd (upd (upd (fun _ => 0) 0 (-1)) 1 (-1)) 2 (-1)) 3 (-1)) 4 (-1)) 5 (-1)) 6 (-1)) 7 (-1)) 8 (-1)) 9 (-1)) 10 (-1)) 11 (-1)) 12 (-1)) 13 (-1)) 14 (-1)) 15 (-1)) 16 (-1)) 17 (-1)) 18 (-1)) 19 (-1)) 0 0)))) (N0 + 13) (.inr (3, [.ref (N0 + 14), .ref (N0 + 35), .ref (N0 + 57), .ref (N0 + 58), .ref (N0 + 59), .ref (N0 + 60), .int 0, .int 0, .ref (N0 + 61), .ref (N0 + 62)]))) (N0 + 36) (.inl (cI, 21, .inl (upd (upd (fun _ => 0) 0 0) 0 0)))) (N0 + 80) (.inl (cI, 20, .inl (upd (upd (upd (upd (upd (upd (upd (upd (upd (upd (upd (upd (upd (upd (upd (upd (upd (upd (upd (upd (upd (fun _ => 0) 0 (-1)) 1 (-1)) 2 (-1)) 3 (-1)) 4 (-1)) 5 (-1)) 6 (-1)) 7 (-1)) 8 (-1)) 9 (-1)) 10 (-1)) 11 (-1)) 12 (-1)) 13 (-1)) 14 (-1)) 15 (-1)) 16 (-1)) 17 (-1)) 18 (-1)) 19 (-1)) 0 0)))) (N0 + 81) (.inl (cI, 20, .inl (upd (upd (upd (upd (upd (upd (upd (upd (upd (upd (upd (upd (upd (upd (upd (upd (upd (upd (upd (upd (upd (fun _ => 0) 0 (-1)) 1 (-1)) 2 (-1)) 3 (-1)) 4 (-1)) 5 (-1)) 6 (-1)) 7 (-1)) 8 (-1)) 9 (-1)) 10 (-1)) 11 (-1)) 12 (-1)) 13 (-1)) 14 (-1)) 15 (-1)) 16 (-1)) 17 (-1)) 18 (-1)) 19 (-1)) 0 0)))) (N0 + 65) (.inr (5, [.int 1, .ref (N0 + 66), .ref (N0 + 73), .ref (N0 + 80), .ref (N0 + 81), .ref (N0 + 82), .ref (N0 + 83), .ref (N0 + 84), .int 0])))) (fun _ => n)) 0 0 (fA N0) := by
  refine fx_start 4 rfl rfl (Nat.le_of_ble_eq_true rfl) ?_ rfl
  intro p e s m below meth c ls S hr hlocks hin hG hl
  have hl : lv_has ls 4 [(0, .ref (N0 + 65)), (1, .ref (N0 + 143)), (2, .ref (N0 + 143)), (3, .ref (N0 + 13))] := hl
  have lt_h0 := hG.1.lt h0
  have lt_h1 := hG.1.lt h1
  have lt_h2 := hG.1.lt h2
  have lt_h3 := hG.1.lt h3
  have lt_h4 := hG.1.lt h4
  have lt_h5 := hG.1.lt h5
  have lt_h6 := hG.1.lt h6
  have lt_h7 := hG.1.lt h7
  have lt_h8 := hG.1.lt h8
  have lt_h9 := hG.1.lt h9
  have lt_h10 := hG.1.lt h10
  have lt_h11 := hG.1.lt h11
  have lt_h12 := hG.1.lt h12
  have lt_h13 := hG.1.lt h13
  have lt_h14 := hG.1.lt h14
  have lt_h15 := hG.1.lt h15
  have lt_h16 := hG.1.lt h16
  have lt_h17 := hG.1.lt h17
  have lt_h18 := hG.1.lt h18
  have lt_h19 := hG.1.lt h19
  have lt_h20 := hG.1.lt h20
  have lt_h21 := hG.1.lt h21
  have lt_h22 := hG.1.lt h22
  have lt_h23 := hG.1.lt h23
  have lt_h24 := hG.1.lt h24
  have lt_h25 := hG.1.lt h25
  have lt_h26 := hG.1.lt h26
  refine lv_aload_n S.1 S.2.1 dX3_compute_0 rfl (lv_at hl 0 rfl) ?_
  refine gx_get (C := RX3) (T := TX3) (N := 9) S hG h0 i_X3_compute_X3 rfl 1 (by decide) (by decide +kernel) rfl dX3_compute_1 ?_
  refine lv_aload_n S.1 S.2.1 dX3_compute_4 rfl (lv_at hl 1 rfl) ?_
  refine fx_cVv (As := [.ref (N0 + 143)]) (rest := []) S hG (k1428_X5_copyFrom (by omega) h1 h2 h3 h4 h5 h6 h7 h8 h9 h10) h2 rfl (cwV 1 S.2.2.2.2 gX3_compute_X5_copyFrom rfl rfl rfl (by decide +kernel) ⟨Nat.le_of_ble_eq_true rfl, Nat.le_of_ble_eq_true rfl⟩) rfl hl.1 rfl (Nat.le_of_ble_eq_true rfl) dX3_compute_5 ⟨Nat.le_of_ble_eq_true rfl, Nat.le_of_ble_eq_true rfl⟩ (fun _ H locs hp hG => ?_)
  refine lv_aload_n S.1 S.2.1 dX3_compute_8 rfl (lv_at hl 0 rfl) ?_
  refine gx_get (C := RX3) (T := TX3) (N := 9) S hG (fu_at (by omega) (fu_at (by omega) (fu_at (by omega) (fu_at (by omega) (fu_at (by omega) h0))))) i_X3_compute_X3 rfl 2 (by decide) (by decide +kernel) rfl dX3_compute_9 ?_
  refine lv_aload_n S.1 S.2.1 dX3_compute_12 rfl (lv_at hl 2 rfl) ?_
  refine fx_cVv (As := [.ref (N0 + 143)]) (rest := []) S hG (k1429_X5_copyFrom (by omega) (fu_at (by omega) (fu_at (by omega) (fu_at (by omega) (fu_at (by omega) (fu_at (by omega) h1))))) (fu_at (by omega) (fu_at (by omega) (fu_at (by omega) (fu_at (by omega) (fu_at (by omega) h11))))) (fu_at (by omega) (fu_at (by omega) (fu_at (by omega) (fu_at (by omega) (fu_at (by omega) h3))))) (fu_at (by omega) (fu_at (by omega) (fu_at (by omega) (fu_at (by omega) (fu_at (by omega) h12))))) (fu_at (by omega) (fu_at (by omega) (fu_at (by omega) (fu_at (by omega) (fu_at (by omega) h5))))) (fu_at (by omega) (fu_at (by omega) (fu_at (by omega) (fu_at (by omega) (fu_at (by omega) h13))))) (fu_at (by omega) (fu_at (by omega) (fu_at (by omega) (fu_at (by omega) (fu_at (by omega) h7))))) (fu_at (by omega) (fu_at (by omega) (fu_at (by omega) (fu_at (by omega) (fu_at (by omega) h14))))) (fu_at (by omega) (fu_at (by omega) (fu_at (by omega) (fu_at (by omega) (fu_at (by omega) h9))))) (fu_at (by omega) (fu_at (by omega) (fu_at (by omega) (fu_at (by omega) (fu_at (by omega) h15)))))) (fu_at (by omega) (fu_at (by omega) (fu_at (by omega) (fu_at (by omega) (fu_at (by omega) h11))))) rfl (cwV 1 S.2.2.2.2 gX3_compute_X5_copyFrom rfl rfl rfl (by decide +kernel) ⟨Nat.le_of_ble_eq_true rfl, Nat.le_of_ble_eq_true rfl⟩) rfl hl.1 rfl (Nat.le_of_ble_eq_true rfl) dX3_compute_13 ⟨Nat.le_of_ble_eq_true rfl, Nat.le_of_ble_eq_true rfl⟩ (fun _ H locs hp hG => ?_)
  refine lv_aload_n S.1 S.2.1 dX3_compute_16 rfl (lv_at hl 3 rfl) ?_
  refine lv_aload_n S.1 S.2.1 dX3_compute_17 rfl (lv_at hl 0 rfl) ?_
  refine gx_get (C := RX3) (T := TX3) (N := 9) S hG (fu_at (by omega) (fu_at (by omega) (fu_at (by omega) (fu_at (by omega) (fu_at (by omega) (fu_at (by omega) (fu_at (by omega) (fu_at (by omega) (fu_at (by omega) (fu_at (by omega) h0)))))))))) i_X3_compute_X3 rfl 1 (by decide) (by decide +kernel) rfl dX3_compute_18 ?_
  refine lv_aload_n S.1 S.2.1 dX3_compute_21 rfl (lv_at hl 0 rfl) ?_
  refine gx_get (C := RX3) (T := TX3) (N := 9) S hG (fu_at (by omega) (fu_at (by omega) (fu_at (by omega) (fu_at (by omega) (fu_at (by omega) (fu_at (by omega) (fu_at (by omega) (fu_at (by omega) (fu_at (by omega) (fu_at (by omega) h0)))))))))) i_X3_compute_X3 rfl 2 (by decide) (by decide +kernel) rfl dX3_compute_22 ?_
  refine fx_cVv (As := [.ref (N0 + 66), .ref (N0 + 73)]) (rest := []) S hG (k1445_X1_match (by omega) (fu_at (by omega) (fu_at (by omega) (fu_at (by omega) (fu_at (by omega) (fu_at (by omega) (fu_at (by omega) (fu_at (by omega) (fu_at (by omega) (fu_at (by omega) (fu_at (by omega) h16)))))))))) (fu_at (by omega) (fu_at (by omega) (fu_at (by omega) (fu_at (by omega) (fu_at (by omega) fu_s))))) (fu_at (by omega) (fu_at (by omega) (fu_at (by omega) (fu_at (by omega) (fu_at (by omega) (fu_at (by omega) (fu_at (by omega) (fu_at (by omega) (fu_at (by omega) (fu_at (by omega) h17)))))))))) fu_s (fu_at (by omega) (fu_at (by omega) (fu_at (by omega) (fu_at (by omega) (fu_at (by omega) (fu_at (by omega) (fu_at (by omega) (fu_at (by omega) (fu_at (by omega) (fu_at (by omega) h18)))))))))) (fu_at (by omega) (fu_at (by omega) (fu_at (by omega) (fu_at (by omega) (fu_at (by omega) (fu_at (by omega) (fu_at (by omega) (fu_at (by omega) (fu_at (by omega) (fu_at (by omega) h19)))))))))) (fu_at (by omega) (fu_at (by omega) (fu_at (by omega) (fu_at (by omega) (fu_at (by omega) (fu_at (by omega) (fu_at (by omega) (fu_at (by omega) (fu_at (by omega) (fu_at (by omega) h20)))))))))) (fu_at (by omega) (fu_at (by omega) (fu_at (by omega) (fu_at (by omega) (fu_at (by omega) (fu_at (by omega) (fu_at (by omega) (fu_at (by omega) (fu_at (by omega) (fu_at (by omega) h21)))))))))) (fu_at (by omega) (fu_at (by omega) (fu_at (by omega) (fu_at (by omega) (fu_at (by omega) (fu_at (by omega) (fu_at (by omega) (fu_at (by omega) (fu_at (by omega) fu_s))))))))) (fu_at (by omega) (fu_at (by omega) (fu_at (by omega) (fu_at (by omega) fu_s)))) (fu_at (by omega) (fu_at (by omega) (fu_at (by omega) (fu_at (by omega) (fu_at (by omega) (fu_at (by omega) (fu_at (by omega) fu_s))))))) (fu_at (by omega) (fu_at (by omega) fu_s)) (fu_at (by omega) (fu_at (by omega) (fu_at (by omega) (fu_at (by omega) (fu_at (by omega) (fu_at (by omega) (fu_at (by omega) (fu_at (by omega) (fu_at (by omega) (fu_at (by omega) h22)))))))))) (fu_at (by omega) (fu_at (by omega) (fu_at (by omega) (fu_at (by omega) (fu_at (by omega) (fu_at (by omega) (fu_at (by omega) (fu_at (by omega) (fu_at (by omega) (fu_at (by omega) h23)))))))))) (fu_at (by omega) (fu_at (by omega) (fu_at (by omega) (fu_at (by omega) (fu_at (by omega) (fu_at (by omega) (fu_at (by omega) (fu_at (by omega) (fu_at (by omega) (fu_at (by omega) h24))))))))))) (fu_at (by omega) (fu_at (by omega) (fu_at (by omega) (fu_at (by omega) (fu_at (by omega) (fu_at (by omega) (fu_at (by omega) (fu_at (by omega) (fu_at (by omega) (fu_at (by omega) h16)))))))))) rfl (cwV 2 S.2.2.2.2 gX3_compute_X1_match rfl rfl rfl (by decide +kernel) ⟨Nat.le_of_ble_eq_true rfl, Nat.le_of_ble_eq_true rfl⟩) rfl hl.1 rfl (Nat.le_of_ble_eq_true rfl) dX3_compute_25 ⟨Nat.le_of_ble_eq_true rfl, Nat.le_of_ble_eq_true rfl⟩ (fun _ H locs hp hG => ?_)
  refine lv_aload_n S.1 S.2.1 dX3_compute_28 rfl (lv_at hl 3 rfl) ?_
  refine gx_get (C := RX1) (T := TX1) (N := 10) S hG (fu_at (by omega) fu_s) i_X3_compute_X1 rfl 8 (by decide) (by decide +kernel) rfl dX3_compute_29 ?_
  refine lv_iconst (v := 0) S.1 S.2.1 dX3_compute_32 (by decide) ?_
  refine lv_aload_n S.1 S.2.1 dX3_compute_33 rfl (lv_at hl 0 rfl) ?_
  refine gx_get (C := RX3) (T := TX3) (N := 9) S hG (fu_at (by omega) (fu_at (by omega) (fu_at (by omega) (fu_at (by omega) (fu_at (by omega) (fu_at (by omega) (fu_at (by omega) (fu_at (by omega) (fu_at (by omega) (fu_at (by omega) (fu_at (by omega) (fu_at (by omega) (fu_at (by omega) (fu_at (by omega) (fu_at (by omega) (fu_at (by omega) (fu_at (by omega) h0))))))))))))))))) i_X3_compute_X3 rfl 3 (by decide) (by decide +kernel) rfl dX3_compute_34 ?_
  refine lv_iconst (v := 0) S.1 S.2.1 dX3_compute_37 (by decide) ?_
  refine lv_bipush (v := 20) S.1 S.2.1 dX3_compute_38 (by decide) ?_
  refine gx_copyi (f' := upd (upd (upd (upd (upd (upd (upd (upd (upd (upd (upd (upd (upd (upd (upd (upd (upd (upd (upd (upd (upd (fun _ => 0) 0 (-1)) 1 (-1)) 2 (-1)) 3 (-1)) 4 (-1)) 5 (-1)) 6 (-1)) 7 (-1)) 8 (-1)) 9 (-1)) 10 (-1)) 11 (-1)) 12 (-1)) 13 (-1)) 14 (-1)) 15 (-1)) 16 (-1)) 17 (-1)) 18 (-1)) 19 (-1)) 0 0) S hG hl.1 (by decide +kernel) (by decide +kernel) (by decide +kernel) (by decide +kernel) 0 (fu_at (by omega) (fu_at (by omega) (fu_at (by omega) fu_s))) (fu_at (by omega) (fu_at (by omega) (fu_at (by omega) (fu_at (by omega) (fu_at (by omega) (fu_at (by omega) (fu_at (by omega) (fu_at (by omega) (fu_at (by omega) (fu_at (by omega) (fu_at (by omega) (fu_at (by omega) (fu_at (by omega) (fu_at (by omega) (fu_at (by omega) (fu_at (by omega) (fu_at (by omega) h25))))))))))))))))) rfl rfl (by decide) (by decide) (by decide) (by decide) (by decide) (fun i _ => rfl) (Nat.le_of_ble_eq_true rfl) (Nat.le_of_ble_eq_true rfl) dX3_compute_40 (fcpy_full (fz_u (fz_u (fz_u (fz_u (fz_u (fz_u (fz_u (fz_u (fz_u (fz_u (fz_u (fz_u (fz_u (fz_u (fz_u (fz_u (fz_u (fz_u (fz_u (fz_u (fz_u fz_0 (by decide)) (by decide)) (by decide)) (by decide)) (by decide)) (by decide)) (by decide)) (by decide)) (by decide)) (by decide)) (by decide)) (by decide)) (by decide)) (by decide)) (by decide)) (by decide)) (by decide)) (by decide)) (by decide)) (by decide)) (by decide)) fz_0) (fun H locs hG => ?_)
  refine lv_aload_n S.1 S.2.1 dX3_compute_43 rfl (lv_at hl 3 rfl) ?_
  refine gx_get (C := RX1) (T := TX1) (N := 10) S hG (fu_at (by omega) (fu_at (by omega) fu_s)) i_X3_compute_X1 rfl 9 (by decide) (by decide +kernel) rfl dX3_compute_44 ?_
  refine lv_iconst (v := 0) S.1 S.2.1 dX3_compute_47 (by decide) ?_
  refine lv_aload_n S.1 S.2.1 dX3_compute_48 rfl (lv_at hl 0 rfl) ?_
  refine gx_get (C := RX3) (T := TX3) (N := 9) S hG (fu_at (by omega) (fu_at (by omega) (fu_at (by omega) (fu_at (by omega) (fu_at (by omega) (fu_at (by omega) (fu_at (by omega) (fu_at (by omega) (fu_at (by omega) (fu_at (by omega) (fu_at (by omega) (fu_at (by omega) (fu_at (by omega) (fu_at (by omega) (fu_at (by omega) (fu_at (by omega) (fu_at (by omega) (fu_at (by omega) h0)))))))))))))))))) i_X3_compute_X3 rfl 4 (by decide) (by decide +kernel) rfl dX3_compute_49 ?_
  refine lv_iconst (v := 0) S.1 S.2.1 dX3_compute_52 (by decide) ?_
  refine lv_bipush (v := 20) S.1 S.2.1 dX3_compute_53 (by decide) ?_
  refine gx_copyi (f' := upd (upd (upd (upd (upd (upd (upd (upd (upd (upd (upd (upd (upd (upd (upd (upd (upd (upd (upd (upd (upd (fun _ => 0) 0 (-1)) 1 (-1)) 2 (-1)) 3 (-1)) 4 (-1)) 5 (-1)) 6 (-1)) 7 (-1)) 8 (-1)) 9 (-1)) 10 (-1)) 11 (-1)) 12 (-1)) 13 (-1)) 14 (-1)) 15 (-1)) 16 (-1)) 17 (-1)) 18 (-1)) 19 (-1)) 0 0) S hG hl.1 (by decide +kernel) (by decide +kernel) (by decide +kernel) (by decide +kernel) 0 (fu_at (by omega) (fu_at (by omega) (fu_at (by omega) fu_s))) (fu_at (by omega) (fu_at (by omega) (fu_at (by omega) (fu_at (by omega) (fu_at (by omega) (fu_at (by omega) (fu_at (by omega) (fu_at (by omega) (fu_at (by omega) (fu_at (by omega) (fu_at (by omega) (fu_at (by omega) (fu_at (by omega) (fu_at (by omega) (fu_at (by omega) (fu_at (by omega) (fu_at (by omega) (fu_at (by omega) h26)))))))))))))))))) rfl rfl (by decide) (by decide) (by decide) (by decide) (by decide) (fun i _ => rfl) (Nat.le_of_ble_eq_true rfl) (Nat.le_of_ble_eq_true rfl) dX3_compute_55 (fcpy_full (fz_u (fz_u (fz_u (fz_u (fz_u (fz_u (fz_u (fz_u (fz_u (fz_u (fz_u (fz_u (fz_u (fz_u (fz_u (fz_u (fz_u (fz_u (fz_u (fz_u (fz_u fz_0 (by decide)) (by decide)) (by decide)) (by decide)) (by decide)) (by decide)) (by decide)) (by decide)) (by decide)) (by decide)) (by decide)) (by decide)) (by decide)) (by decide)) (by decide)) (by decide)) (by decide)) (by decide)) (by decide)) (by decide)) (by decide)) fz_0) (fun H locs hG => ?_)
  refine lv_aload_n S.1 S.2.1 dX3_compute_58 rfl (lv_at hl 0 rfl) ?_
  refine fx_cVv (As := []) (rest := []) S hG (k1447_X3_findOperations (by omega) (fu_at (by omega) (fu_at (by omega) (fu_at (by omega) (fu_at (by omega) (fu_at (by omega) (fu_at (by omega) (fu_at (by omega) (fu_at (by omega) (fu_at (by omega) (fu_at (by omega) (fu_at (by omega) (fu_at (by omega) (fu_at (by omega) (fu_at (by omega) (fu_at (by omega) (fu_at (by omega) (fu_at (by omega) (fu_at (by omega) (fu_at (by omega) h0))))))))))))))))))) (fu_at (by omega) (fu_at (by omega) (fu_at (by omega) (fu_at (by omega) (fu_at (by omega) (fu_at (by omega) (fu_at (by omega) (fu_at (by omega) (fu_at (by omega) (fu_at (by omega) (fu_at (by omega) (fu_at (by omega) (fu_at (by omega) (fu_at (by omega) fu_s)))))))))))))) (fu_at (by omega) fu_s) (fu_at (by omega) (fu_at (by omega) (fu_at (by omega) (fu_at (by omega) (fu_at (by omega) (fu_at (by omega) (fu_at (by omega) (fu_at (by omega) (fu_at (by omega) (fu_at (by omega) (fu_at (by omega) (fu_at (by omega) (fu_at (by omega) (fu_at (by omega) (fu_at (by omega) (fu_at (by omega) (fu_at (by omega) (fu_at (by omega) fu_s)))))))))))))))))) (fu_at (by omega) (fu_at (by omega) (fu_at (by omega) (fu_at (by omega) (fu_at (by omega) (fu_at (by omega) (fu_at (by omega) (fu_at (by omega) (fu_at (by omega) fu_s))))))))) (fu_at (by omega) (fu_at (by omega) (fu_at (by omega) (fu_at (by omega) (fu_at (by omega) (fu_at (by omega) (fu_at (by omega) (fu_at (by omega) (fu_at (by omega) (fu_at (by omega) (fu_at (by omega) (fu_at (by omega) (fu_at (by omega) fu_s))))))))))))) (fu_at (by omega) (fu_at (by omega) (fu_at (by omega) (fu_at (by omega) (fu_at (by omega) (fu_at (by omega) (fu_at (by omega) (fu_at (by omega) (fu_at (by omega) (fu_at (by omega) (fu_at (by omega) (fu_at (by omega) (fu_at (by omega) (fu_at (by omega) (fu_at (by omega) (fu_at (by omega) fu_s)))))))))))))))) (fu_at (by omega) (fu_at (by omega) (fu_at (by omega) (fu_at (by omega) (fu_at (by omega) (fu_at (by omega) (fu_at (by omega) (fu_at (by omega) (fu_at (by omega) (fu_at (by omega) (fu_at (by omega) fu_s)))))))))))) (fu_at (by omega) (fu_at (by omega) (fu_at (by omega) (fu_at (by omega) (fu_at (by omega) (fu_at (by omega) (fu_at (by omega) (fu_at (by omega) (fu_at (by omega) (fu_at (by omega) (fu_at (by omega) (fu_at (by omega) (fu_at (by omega) (fu_at (by omega) (fu_at (by omega) (fu_at (by omega) (fu_at (by omega) (fu_at (by omega) (fu_at (by omega) h0))))))))))))))))))) rfl (cwV 0 S.2.2.2.2 gX3_compute_X3_findOperations rfl rfl rfl (by decide +kernel) ⟨Nat.le_of_ble_eq_true rfl, Nat.le_of_ble_eq_true rfl⟩) rfl hl.1 rfl (Nat.le_of_ble_eq_true rfl) dX3_compute_59 ⟨Nat.le_of_ble_eq_true rfl, Nat.le_of_ble_eq_true rfl⟩ (fun _ H locs hp hG => ?_)
  refine lv_aload_n S.1 S.2.1 dX3_compute_62 rfl (lv_at hl 0 rfl) ?_
  refine fx_cVv (As := []) (rest := []) S hG (k1448_X3_recognizeMoves (by omega) fu_s) fu_s rfl (cwV 0 S.2.2.2.2 gX3_compute_X3_recognizeMoves rfl rfl rfl (by decide +kernel) ⟨Nat.le_of_ble_eq_true rfl, Nat.le_of_ble_eq_true rfl⟩) rfl hl.1 rfl (Nat.le_of_ble_eq_true rfl) dX3_compute_63 ⟨Nat.le_of_ble_eq_true rfl, Nat.le_of_ble_eq_true rfl⟩ (fun _ H locs hp hG => ?_)
  refine lv_aload_n S.1 S.2.1 dX3_compute_66 rfl (lv_at hl 0 rfl) ?_
  refine fx_cVv (As := []) (rest := []) S hG (k1449_X3_removeDropped (by omega) fu_s) fu_s rfl (cwV 0 S.2.2.2.2 gX3_compute_X3_removeDropped rfl rfl rfl (by decide +kernel) ⟨Nat.le_of_ble_eq_true rfl, Nat.le_of_ble_eq_true rfl⟩) rfl hl.1 rfl (Nat.le_of_ble_eq_true rfl) dX3_compute_67 ⟨Nat.le_of_ble_eq_true rfl, Nat.le_of_ble_eq_true rfl⟩ (fun _ H locs hp hG => ?_)
  refine lv_aload_n S.1 S.2.1 dX3_compute_70 rfl (lv_at hl 0 rfl) ?_
  refine lv_iconst (v := 1) S.1 S.2.1 dX3_compute_71 (by decide) ?_
  refine gx_put (C := RX3) (T := TX3) (N := 9) (ty := .boolean) (v := .int 1) (fs' := [.int 1, .ref (N0 + 66), .ref (N0 + 73), .ref (N0 + 80), .ref (N0 + 81), .ref (N0 + 82), .ref (N0 + 83), .ref (N0 + 84), .int 0]) S hG fu_s i_X3_compute_X3 rfl 0 (by decide) tyX3 tyX3_ok nmX3 (by decide +kernel) rfl (by decide +kernel) rfl (by decide) (Nat.le_of_ble_eq_true rfl) rfl dX3_compute_72 (fun H locs hG => ?_)
  have hG : fG N0 D vwCl (fty cI cC cL cD cII cTr cTm cIt cB) (fen ql) s (fu (fu (fu (fu (fu (fu (fu (fu (fu (fu (fu (fu (fu (fu (fu (fu (fu (fu (fu (fu F (N0 + 67) (.inl (cC, 20, .inl (upd (fun _ => 0) 0 97)))) (N0 + 68) (.inl (cI, 20, .inl (fun _ => 0)))) (N0 + 69) (.inl (cI, 20, .inl (fun _ => 0)))) (N0 + 70) (.inl (cI, 20, .inl (upd (fun _ => 0) 0 (-1))))) (N0 + 66) (.inr (7, [.ref (N0 + 67), .ref (N0 + 68), .ref (N0 + 69), .ref (N0 + 70), .ref (N0 + 71), .ref (N0 + 72), .int 1]))) (N0 + 74) (.inl (cC, 20, .inl (upd (fun _ => 0) 0 97)))) (N0 + 75) (.inl (cI, 20, .inl (fun _ => 0)))) (N0 + 76) (.inl (cI, 20, .inl (fun _ => 0)))) (N0 + 77) (.inl (cI, 20, .inl (upd (fun _ => 0) 0 (-1))))) (N0 + 73) (.inr (7, [.ref (N0 + 74), .ref (N0 + 75), .ref (N0 + 76), .ref (N0 + 77), .ref (N0 + 78), .ref (N0 + 79), .int 1]))) (N0 + 57) (.inl (cI, 20, .inl (upd (fun _ => 0) 0 1)))) (N0 + 58) (.inl (cI, 20, .inl (upd (fun _ => 0) 0 1)))) (N0 + 15) (.inl (cI, 20, .inl (upd (fun _ => 0) 0 0)))) (N0 + 61) (.inl (cI, 20, .inl (upd (upd (upd (upd (upd (upd (upd (upd (upd (upd (upd (upd (upd (upd (upd (upd (upd (upd (upd (upd (upd (fun _ => 0) 0 (-1)) 1 (-1)) 2 (-1)) 3 (-1)) 4 (-1)) 5 (-1)) 6 (-1)) 7 (-1)) 8 (-1)) 9 (-1)) 10 (-1)) 11 (-1)) 12 (-1)) 13 (-1)) 14 (-1)) 15 (-1)) 16 (-1)) 17 (-1)) 18 (-1)) 19 (-1)) 0 0)))) (N0 + 62) (.inl (cI, 20, .inl (upd (upd (upd (upd (upd (upd (upd (upd (upd (upd (upd (upd (upd (upd (upd (upd (upd (upd (upd (upd (upd (fun _ => 0) 0 (-1)) 1 (-1)) 2 (-1)) 3 (-1)) 4 (-1)) 5 (-1)) 6 (-1)) 7 (-1)) 8 (-1)) 9 (-1)) 10 (-1)) 11 (-1)) 12 (-1)) 13 (-1)) 14 (-1)) 15 (-1)) 16 (-1)) 17 (-1)) 18 (-1)) 19 (-1)) 0 0)))) (N0 + 13) (.inr (3, [.ref (N0 + 14), .ref (N0 + 35), .ref (N0 + 57), .ref (N0 + 58), .ref (N0 + 59), .ref (N0 + 60), .int 0, .int 0, .ref (N0 + 61), .ref (N0 + 62)]))) (N0 + 36) (.inl (cI, 21, .inl (upd (upd (fun _ => 0) 0 0) 0 0)))) (N0 + 80) (.inl (cI, 20, .inl (upd (upd (upd (upd (upd (upd (upd (upd (upd (upd (upd (upd (upd (upd (upd (upd (upd (upd (upd (upd (upd (fun _ => 0) 0 (-1)) 1 (-1)) 2 (-1)) 3 (-1)) 4 (-1)) 5 (-1)) 6 (-1)) 7 (-1)) 8 (-1)) 9 (-1)) 10 (-1)) 11 (-1)) 12 (-1)) 13 (-1)) 14 (-1)) 15 (-1)) 16 (-1)) 17 (-1)) 18 (-1)) 19 (-1)) 0 0)))) (N0 + 81) (.inl (cI, 20, .inl (upd (upd (upd (upd (upd (upd (upd (upd (upd (upd (upd (upd (upd (upd (upd (upd (upd (upd (upd (upd (upd (fun _ => 0) 0 (-1)) 1 (-1)) 2 (-1)) 3 (-1)) 4 (-1)) 5 (-1)) 6 (-1)) 7 (-1)) 8 (-1)) 9 (-1)) 10 (-1)) 11 (-1)) 12 (-1)) 13 (-1)) 14 (-1)) 15 (-1)) 16 (-1)) 17 (-1)) 18 (-1)) 19 (-1)) 0 0)))) (N0 + 65) (.inr (5, [.int 1, .ref (N0 + 66), .ref (N0 + 73), .ref (N0 + 80), .ref (N0 + 81), .ref (N0 + 82), .ref (N0 + 83), .ref (N0 + 84), .int 0]))) n H locs := hG.weak (fun a e h => by
    rcases fu_cases h with ⟨rfl, he⟩ | ⟨hne0, h⟩
    · cases he; exact fu_s
    · skip
      rcases fu_cases h with ⟨rfl, he⟩ | ⟨hne1, h⟩
      · cases he; exact (fu_at (by omega) (fu_at (by omega) (fu_at (by omega) fu_s)))
      · skip
        rcases fu_cases h with ⟨rfl, he⟩ | ⟨hne2, h⟩
        · cases he; exact (fu_at (by omega) (fu_at (by omega) (fu_at (by omega) (fu_at (by omega) fu_s))))
        · skip
          rcases fu_cases h with ⟨rfl, he⟩ | ⟨hne3, h⟩
          · cases he; exact (fu_at (by omega) (fu_at (by omega) (fu_at (by omega) (fu_at (by omega) (fu_at (by omega) fu_s)))))
          · skip
            rcases fu_cases h with ⟨rfl, he⟩ | ⟨hne4, h⟩
            · cases he; exact (fu_at (by omega) (fu_at (by omega) (fu_at (by omega) (fu_at (by omega) (fu_at (by omega) (fu_at (by omega) fu_s))))))
            · skip
              rcases fu_cases h with ⟨rfl, he⟩ | ⟨hne5, h⟩
              · cases he; exact (fu_at (by omega) (fu_at (by omega) (fu_at (by omega) (fu_at (by omega) (fu_at (by omega) (fu_at (by omega) (fu_at (by omega) fu_s)))))))
              · skip
                rcases fu_cases h with ⟨rfl, he⟩ | ⟨hne6, h⟩
                · cases he; exact (fu_at (by omega) (fu_at (by omega) (fu_at (by omega) (fu_at (by omega) (fu_at (by omega) (fu_at (by omega) (fu_at (by omega) (fu_at (by omega) fu_s))))))))
                · skip
                  rcases fu_cases h with ⟨rfl, he⟩ | ⟨hne7, h⟩
                  · cases he; exact (fu_at (by omega) (fu_at (by omega) (fu_at (by omega) (fu_at (by omega) (fu_at (by omega) (fu_at (by omega) (fu_at (by omega) (fu_at (by omega) (fu_at (by omega) fu_s)))))))))
                  · skip
                    rcases fu_cases h with ⟨rfl, he⟩ | ⟨hne8, h⟩
                    · cases he; exact (fu_at (by omega) (fu_at (by omega) (fu_at (by omega) (fu_at (by omega) (fu_at (by omega) (fu_at (by omega) (fu_at (by omega) (fu_at (by omega) (fu_at (by omega) (fu_at (by omega) fu_s))))))))))
                    · skip
                      rcases fu_cases h with ⟨rfl, he⟩ | ⟨hne9, h⟩
                      · cases he; exact (fu_at (by omega) (fu_at (by omega) (fu_at (by omega) (fu_at (by omega) (fu_at (by omega) (fu_at (by omega) (fu_at (by omega) (fu_at (by omega) (fu_at (by omega) (fu_at (by omega) (fu_at (by omega) fu_s)))))))))))
                      · skip
                        rcases fu_cases h with ⟨rfl, he⟩ | ⟨hne10, h⟩
                        · cases he; exact (fu_at (by omega) (fu_at (by omega) (fu_at (by omega) (fu_at (by omega) (fu_at (by omega) (fu_at (by omega) (fu_at (by omega) (fu_at (by omega) (fu_at (by omega) (fu_at (by omega) (fu_at (by omega) (fu_at (by omega) fu_s))))))))))))
                        · skip
                          rcases fu_cases h with ⟨rfl, he⟩ | ⟨hne11, h⟩
                          · cases he; exact (fu_at (by omega) (fu_at (by omega) (fu_at (by omega) (fu_at (by omega) (fu_at (by omega) (fu_at (by omega) (fu_at (by omega) (fu_at (by omega) (fu_at (by omega) (fu_at (by omega) (fu_at (by omega) (fu_at (by omega) (fu_at (by omega) fu_s)))))))))))))
                          · skip
                            rcases fu_cases h with ⟨rfl, he⟩ | ⟨hne12, h⟩
                            · cases he; exact (fu_at (by omega) (fu_at (by omega) (fu_at (by omega) (fu_at (by omega) (fu_at (by omega) (fu_at (by omega) (fu_at (by omega) (fu_at (by omega) (fu_at (by omega) (fu_at (by omega) (fu_at (by omega) (fu_at (by omega) (fu_at (by omega) (fu_at (by omega) fu_s))))))))))))))
                            · skip
                              rcases fu_cases h with ⟨rfl, he⟩ | ⟨hne13, h⟩
                              · cases he; exact (fu_at (by omega) (fu_at (by omega) (fu_at (by omega) (fu_at (by omega) (fu_at (by omega) (fu_at (by omega) (fu_at (by omega) (fu_at (by omega) (fu_at (by omega) (fu_at (by omega) (fu_at (by omega) (fu_at (by omega) (fu_at (by omega) (fu_at (by omega) (fu_at (by omega) fu_s)))))))))))))))
                              · skip
                                rcases fu_cases h with ⟨rfl, he⟩ | ⟨hne14, h⟩
                                · cases he; exact (fu_at (by omega) (fu_at (by omega) (fu_at (by omega) (fu_at (by omega) (fu_at (by omega) (fu_at (by omega) (fu_at (by omega) (fu_at (by omega) (fu_at (by omega) (fu_at (by omega) (fu_at (by omega) (fu_at (by omega) (fu_at (by omega) (fu_at (by omega) (fu_at (by omega) (fu_at (by omega) fu_s))))))))))))))))
                                · skip
                                  rcases fu_cases h with ⟨rfl, he⟩ | ⟨hne15, h⟩
                                  · cases he; exact (fu_at (by omega) (fu_at (by omega) (fu_at (by omega) (fu_at (by omega) (fu_at (by omega) (fu_at (by omega) (fu_at (by omega) (fu_at (by omega) (fu_at (by omega) (fu_at (by omega) (fu_at (by omega) (fu_at (by omega) (fu_at (by omega) (fu_at (by omega) (fu_at (by omega) (fu_at (by omega) (fu_at (by omega) fu_s)))))))))))))))))
                                  · skip
                                    rcases fu_cases h with ⟨rfl, he⟩ | ⟨hne16, h⟩
                                    · cases he; exact (fu_at (by omega) (fu_at (by omega) (fu_at (by omega) (fu_at (by omega) (fu_at (by omega) (fu_at (by omega) (fu_at (by omega) (fu_at (by omega) (fu_at (by omega) (fu_at (by omega) (fu_at (by omega) (fu_at (by omega) (fu_at (by omega) (fu_at (by omega) (fu_at (by omega) (fu_at (by omega) (fu_at (by omega) (fu_at (by omega) fu_s))))))))))))))))))
                                    · skip
                                      rcases fu_cases h with ⟨rfl, he⟩ | ⟨hne17, h⟩
                                      · cases he; exact (fu_at (by omega) (fu_at (by omega) (fu_at (by omega) (fu_at (by omega) (fu_at (by omega) (fu_at (by omega) (fu_at (by omega) (fu_at (by omega) (fu_at (by omega) (fu_at (by omega) (fu_at (by omega) (fu_at (by omega) (fu_at (by omega) (fu_at (by omega) (fu_at (by omega) (fu_at (by omega) (fu_at (by omega) (fu_at (by omega) (fu_at (by omega) fu_s)))))))))))))))))))
                                      · skip
                                        rcases fu_cases h with ⟨rfl, he⟩ | ⟨hne18, h⟩
                                        · cases he; exact (fu_at (by omega) (fu_at (by omega) (fu_at (by omega) (fu_at (by omega) (fu_at (by omega) (fu_at (by omega) (fu_at (by omega) (fu_at (by omega) (fu_at (by omega) (fu_at (by omega) (fu_at (by omega) (fu_at (by omega) (fu_at (by omega) (fu_at (by omega) (fu_at (by omega) (fu_at (by omega) (fu_at (by omega) (fu_at (by omega) (fu_at (by omega) (fu_at (by omega) fu_s))))))))))))))))))))
                                        · skip
                                          rcases fu_cases h with ⟨rfl, he⟩ | ⟨hne19, h⟩
                                          · cases he; exact (fu_at (by omega) (fu_at (by omega) (fu_at (by omega) (fu_at (by omega) (fu_at (by omega) (fu_at (by omega) (fu_at (by omega) (fu_at (by omega) (fu_at (by omega) (fu_at (by omega) (fu_at (by omega) (fu_at (by omega) (fu_at (by omega) (fu_at (by omega) (fu_at (by omega) (fu_at (by omega) (fu_at (by omega) (fu_at (by omega) (fu_at (by omega) (fu_at (by omega) (fu_at (by omega) fu_s)))))))))))))))))))))
                                          · exact (fu_at (by omega) (fu_at (by omega) (fu_at (by omega) (fu_at (by omega) (fu_at (by omega) (fu_at (by omega) (fu_at (by omega) (fu_at (by omega) (fu_at (by omega) (fu_at (by omega) (fu_at (by omega) (fu_at (by omega) (fu_at (by omega) (fu_at (by omega) (fu_at (by omega) (fu_at (by omega) (fu_at (by omega) (fu_at (by omega) (fu_at (by omega) (fu_at (by omega) (fu_at (by omega) (fu_at (by omega) h)))))))))))))))))))))))
  exact fx_vret S hr hlocks () hG trivial dX3_compute_75
