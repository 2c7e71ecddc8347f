theorem dX7_treeAt_0 : decode cX7_treeAt 0 = .ok (.iload_n 1, 1) := by decide +kernel
theorem dX7_treeAt_1 : decode cX7_treeAt 1 = .ok (.ifCond .lt 8, 3) := by decide +kernel
theorem dX7_treeAt_9 : decode cX7_treeAt 9 = .ok (.new 138, 3) := by decide +kernel
theorem dX7_treeAt_12 : decode cX7_treeAt 12 = .ok (.dup, 1) := by decide +kernel
theorem dX7_treeAt_13 : decode cX7_treeAt 13 = .ok (.ldc_w 300, 3) := by decide +kernel
theorem dX7_treeAt_16 : decode cX7_treeAt 16 = .ok (.invokespecial 142, 3) := by decide +kernel
theorem dX7_treeAt_19 : decode cX7_treeAt 19 = .ok (.athrow, 1) := by decide +kernel
theorem dX7_read_0 : decode cX7_read 0 = .ok (.aload_n 0, 1) := by decide +kernel
theorem dX7_read_1 : decode cX7_read 1 = .ok (.iload_n 1, 1) := by decide +kernel
set_option maxRecDepth 20000 in
theorem ggX7_read_X7_treeAt : GoodIn wsX7_read wsX7_treeAt := goodIn_ca (goodIn_r _ [13, 14, 15, 16, 79, 80, 81, 82, 83, 84, 85, 86, 87, 88] (by decide +kernel) (by decide +kernel)) (goodIn_sub (fun _ h => List.mem_cons_of_mem _ (List.mem_append_right _ h)) (by decide +kernel))
set_option maxRecDepth 20000 in
theorem gX7_read_X7_treeAt : GoodIn wsX7_read (wsV RX7 83 RX7 yX7_treeAt wsX7_treeAt) := goodIn_app (goodIn_of _ (by decide +kernel)) ggX7_read_X7_treeAt
theorem dX7_read_2 : decode cX7_read 2 = .ok (.invokevirtual 83, 3) := by decide +kernel
theorem dL_read_0 : decode cL_read 0 = .ok (.aload_n 2, 1) := by decide +kernel
theorem dL_read_1 : decode cL_read 1 = .ok (.iconst 0, 1) := by decide +kernel
theorem dL_read_2 : decode cL_read 2 = .ok (.aload_n 0, 1) := by decide +kernel
theorem dL_read_3 : decode cL_read 3 = .ok (.iload_n 1, 1) := by decide +kernel
set_option maxRecDepth 20000 in
theorem ggL_read_X7_read : GoodIn wsL_read wsX7_read := goodIn_ca (goodIn_ca (goodIn_r _ [7, 8, 9, 10, 11, 12, 13, 14, 15, 16, 17, 18, 6, 19, 20, 21, 22, 23, 24, 25, 26, 27, 28, 29, 30, 31, 32, 33, 34, 35, 36, 37, 38, 39, 40, 41, 42, 43, 44, 45, 46, 47, 48, 49, 50, 51, 52, 53, 54, 55, 56, 57, 58, 59, 60, 61, 62, 63, 64, 65, 66, 67, 68, 69, 70, 71, 72, 73, 74, 75, 76, 77, 78, 79, 80, 81, 82, 83, 84, 85, 86, 87, 88, 89, 90, 91, 92, 93, 94, 95, 96, 97, 98, 99, 100, 101, 102, 103, 104, 105] (by decide +kernel) (by decide +kernel)) (goodIn_sub (fun _ h => List.mem_cons_of_mem _ (List.mem_append_left _ (List.mem_append_right _ h))) (by decide +kernel))) (goodIn_sub (fun _ h => List.mem_cons_of_mem _ (List.mem_append_right _ h)) (by decide +kernel))
set_option maxRecDepth 20000 in
theorem gL_read_X7_read : GoodIn wsL_read (wsV RL 15 RX7 yX7_read wsX7_read) := goodIn_app (goodIn_of _ (by decide +kernel)) ggL_read_X7_read
theorem dL_read_4 : decode cL_read 4 = .ok (.invokevirtual 15, 3) := by decide +kernel
theorem dL_read_12 : decode cL_read 12 = .ok (.astore_n 3, 1) := by decide +kernel
theorem dL_read_13 : decode cL_read 13 = .ok (.iconst 1, 1) := by decide +kernel
theorem dL_read_14 : decode cL_read 14 = .ok (.ireturn, 1) := by decide +kernel
theorem dX10_isBetween_0 : decode cX10_isBetween 0 = .ok (.iload_n 1, 1) := by decide +kernel
theorem dX10_isBetween_1 : decode cX10_isBetween 1 = .ok (.iload_n 0, 1) := by decide +kernel
theorem dX10_isBetween_2 : decode cX10_isBetween 2 = .ok (.if_icmp .gt 12, 3) := by decide +kernel
theorem dX10_isBetween_14 : decode cX10_isBetween 14 = .ok (.iconst 0, 1) := by decide +kernel
theorem dX10_isBetween_15 : decode cX10_isBetween 15 = .ok (.ireturn, 1) := by decide +kernel
theorem dX10_isTree_0 : decode cX10_isTree 0 = .ok (.iload_n 0, 1) := by decide +kernel
theorem dX10_isTree_1 : decode cX10_isTree 1 = .ok (.iconst 0, 1) := by decide +kernel
theorem dX10_isTree_2 : decode cX10_isTree 2 = .ok (.iconst 2, 1) := by decide +kernel
set_option maxRecDepth 20000 in
theorem ggX10_isTree_X10_isBetween : GoodIn wsX10_isTree wsX10_isBetween := goodIn_r _ [4] (by decide +kernel) (by decide +kernel)
set_option maxRecDepth 20000 in
theorem gX10_isTree_X10_isBetween : GoodIn wsX10_isTree (va_wsS RX10 108 yX10_isBetween wsX10_isBetween) := goodIn_app (goodIn_of _ (by decide +kernel)) ggX10_isTree_X10_isBetween
theorem dX10_isTree_3 : decode cX10_isTree 3 = .ok (.invokestatic 108, 3) := by decide +kernel
theorem dX10_isTree_6 : decode cX10_isTree 6 = .ok (.ireturn, 1) := by decide +kernel
theorem dX10_fails_0 : decode cX10_fails 0 = .ok (.aload_n 0, 1) := by decide +kernel
theorem dX10_fails_1 : decode cX10_fails 1 = .ok (.iload_n 1, 1) := by decide +kernel
theorem dX10_fails_2 : decode cX10_fails 2 = .ok (.putfield 105, 3) := by decide +kernel
theorem dX10_fails_5 : decode cX10_fails 5 = .ok (.iconst 0, 1) := by decide +kernel
theorem dX10_fails_6 : decode cX10_fails 6 = .ok (.ireturn, 1) := by decide +kernel
theorem dX10_read_0 : decode cX10_read 0 = .ok (.aload_n 0, 1) := by decide +kernel
theorem dX10_read_1 : decode cX10_read 1 = .ok (.iconst 0, 1) := by decide +kernel
theorem dX10_read_2 : decode cX10_read 2 = .ok (.putfield 105, 3) := by decide +kernel
theorem dX10_read_5 : decode cX10_read 5 = .ok (.iload_n 1, 1) := by decide +kernel
set_option maxRecDepth 20000 in
theorem ggX10_read_X10_isTree : GoodIn wsX10_read wsX10_isTree := goodIn_r _ [11, 12, 13, 10, 14] (by decide +kernel) (by decide +kernel)
set_option maxRecDepth 20000 in
theorem gX10_read_X10_isTree : GoodIn wsX10_read (va_wsS RX10 112 yX10_isTree wsX10_isTree) := goodIn_app (goodIn_of _ (by decide +kernel)) ggX10_read_X10_isTree
theorem dX10_read_6 : decode cX10_read 6 = .ok (.invokestatic 112, 3) := by decide +kernel
theorem dX10_read_9 : decode cX10_read 9 = .ok (.ifCond .ne 9, 3) := by decide +kernel
theorem dX10_read_12 : decode cX10_read 12 = .ok (.aload_n 0, 1) := by decide +kernel
theorem dX10_read_13 : decode cX10_read 13 = .ok (.iconst 1, 1) := by decide +kernel
set_option maxRecDepth 20000 in
theorem ggX10_read_X10_fails : GoodIn wsX10_read wsX10_fails := goodIn_r _ [18, 1, 59, 60, 61, 62, 63, 64, 65, 66, 67, 68, 69, 70, 71, 72, 73, 74, 75, 76, 77, 78, 79, 80, 81, 82, 83, 84, 85, 86, 87, 88, 89] (by decide +kernel) (by decide +kernel)
set_option maxRecDepth 20000 in
theorem gX10_read_X10_fails : GoodIn wsX10_read (wsV RX10 126 RX10 yX10_fails wsX10_fails) := goodIn_app (goodIn_of _ (by decide +kernel)) ggX10_read_X10_fails
theorem dX10_read_14 : decode cX10_read 14 = .ok (.invokevirtual 126, 3) := by decide +kernel
theorem dX10_read_17 : decode cX10_read 17 = .ok (.ireturn, 1) := by decide +kernel
theorem dX7_treeAt_4 : decode cX7_treeAt 4 = .ok (.iload_n 1, 1) := by decide +kernel
theorem dX7_treeAt_5 : decode cX7_treeAt 5 = .ok (.iconst 3, 1) := by decide +kernel
theorem dX7_treeAt_6 : decode cX7_treeAt 6 = .ok (.if_icmp .lt 14, 3) := by decide +kernel
theorem dX7_treeAt_20 : decode cX7_treeAt 20 = .ok (.aload_n 0, 1) := by decide +kernel
theorem dX7_treeAt_21 : decode cX7_treeAt 21 = .ok (.getfield 11, 3) := by decide +kernel
theorem dX7_treeAt_24 : decode cX7_treeAt 24 = .ok (.iload_n 1, 1) := by decide +kernel
theorem dX7_treeAt_25 : decode cX7_treeAt 25 = .ok (.aaload, 1) := by decide +kernel
theorem dX7_treeAt_26 : decode cX7_treeAt 26 = .ok (.areturn, 1) := by decide +kernel
theorem dX4_current_0 : decode cX4_current 0 = .ok (.aload_n 0, 1) := by decide +kernel
theorem dX4_current_1 : decode cX4_current 1 = .ok (.getfield 26, 3) := by decide +kernel
theorem dX4_current_4 : decode cX4_current 4 = .ok (.ifCond .lt 23, 3) := by decide +kernel
theorem dX4_current_7 : decode cX4_current 7 = .ok (.aload_n 0, 1) := by decide +kernel
theorem dX4_current_8 : decode cX4_current 8 = .ok (.getfield 26, 3) := by decide +kernel
theorem dX4_current_11 : decode cX4_current 11 = .ok (.aload_n 0, 1) := by decide +kernel
theorem dX4_current_12 : decode cX4_current 12 = .ok (.getfield 22, 3) := by decide +kernel
theorem dX4_current_15 : decode cX4_current 15 = .ok (.if_icmp .ge 12, 3) := by decide +kernel
theorem dX4_current_27 : decode cX4_current 27 = .ok (.iconst (-1), 1) := by decide +kernel
theorem dX4_current_28 : decode cX4_current 28 = .ok (.goto 12, 3) := by decide +kernel
theorem dX4_current_40 : decode cX4_current 40 = .ok (.ireturn, 1) := by decide +kernel
theorem dX7_isLabel_0 : decode cX7_isLabel 0 = .ok (.iload_n 0, 1) := by decide +kernel
theorem dX7_isLabel_1 : decode cX7_isLabel 1 = .ok (.bipush 97, 2) := by decide +kernel
theorem dX7_isLabel_3 : decode cX7_isLabel 3 = .ok (.if_icmp .lt 13, 3) := by decide +kernel
theorem dX7_isLabel_16 : decode cX7_isLabel 16 = .ok (.iconst 0, 1) := by decide +kernel
theorem dX7_isLabel_17 : decode cX7_isLabel 17 = .ok (.ireturn, 1) := by decide +kernel
theorem dX4_parseHead_0 : decode cX4_parseHead 0 = .ok (.aload_n 0, 1) := by decide +kernel
set_option maxRecDepth 20000 in
theorem ggX4_parseHead_X4_current : GoodIn wsX4_parseHead wsX4_current := goodIn_r _ [8, 3, 9, 10, 41, 42, 43, 44] (by decide +kernel) (by decide +kernel)
set_option maxRecDepth 20000 in
theorem gX4_parseHead_X4_current : GoodIn wsX4_parseHead (wsV RX4 36 RX4 yX4_current wsX4_current) := goodIn_app (goodIn_of _ (by decide +kernel)) ggX4_parseHead_X4_current
theorem dX4_parseHead_1 : decode cX4_parseHead 1 = .ok (.invokevirtual 36, 3) := by decide +kernel
theorem dX4_parseHead_4 : decode cX4_parseHead 4 = .ok (.istore_n 2, 1) := by decide +kernel
theorem dX4_parseHead_5 : decode cX4_parseHead 5 = .ok (.aload_n 0, 1) := by decide +kernel
theorem dX4_parseHead_6 : decode cX4_parseHead 6 = .ok (.getfield 18, 3) := by decide +kernel
theorem dX4_parseHead_9 : decode cX4_parseHead 9 = .ok (.getfield 29, 3) := by decide +kernel
theorem dX4_parseHead_12 : decode cX4_parseHead 12 = .ok (.istore_n 3, 1) := by decide +kernel
theorem dX4_parseHead_13 : decode cX4_parseHead 13 = .ok (.iload_n 2, 1) := by decide +kernel
set_option maxRecDepth 20000 in
theorem ggX4_parseHead_X7_isLabel : GoodIn wsX4_parseHead wsX7_isLabel := goodIn_r _ [13] (by decide +kernel) (by decide +kernel)
set_option maxRecDepth 20000 in
theorem gX4_parseHead_X7_isLabel_n44 : GoodIn wsX4_parseHead (wsX7_isLabel) := ggX4_parseHead_X7_isLabel
theorem dX4_parseHead_14 : decode cX4_parseHead 14 = .ok (.invokestatic 44, 3) := by decide +kernel
theorem dX4_parseHead_17 : decode cX4_parseHead 17 = .ok (.ifCond .eq 13, 3) := by decide +kernel
theorem dX4_parseHead_30 : decode cX4_parseHead 30 = .ok (.iconst 0, 1) := by decide +kernel
theorem dX4_parseHead_31 : decode cX4_parseHead 31 = .ok (.ireturn, 1) := by decide +kernel
theorem dX4_parse_0 : decode cX4_parse 0 = .ok (.aload_n 0, 1) := by decide +kernel
theorem dX4_parse_1 : decode cX4_parse 1 = .ok (.iconst 0, 1) := by decide +kernel
theorem dX4_parse_2 : decode cX4_parse 2 = .ok (.putfield 26, 3) := by decide +kernel
theorem dX4_parse_5 : decode cX4_parse 5 = .ok (.aload_n 0, 1) := by decide +kernel
theorem dX4_parse_6 : decode cX4_parse 6 = .ok (.getfield 18, 3) := by decide +kernel
theorem dX4_parse_9 : decode cX4_parse 9 = .ok (.iconst 0, 1) := by decide +kernel
theorem dX4_parse_10 : decode cX4_parse 10 = .ok (.putfield 29, 3) := by decide +kernel
theorem dX4_parse_13 : decode cX4_parse 13 = .ok (.iconst (-1), 1) := by decide +kernel
theorem dX4_parse_14 : decode cX4_parse 14 = .ok (.istore_n 1, 1) := by decide +kernel
theorem dX4_parse_15 : decode cX4_parse 15 = .ok (.iconst 0, 1) := by decide +kernel
theorem dX4_parse_16 : decode cX4_parse 16 = .ok (.istore_n 2, 1) := by decide +kernel
theorem dX4_parse_17 : decode cX4_parse 17 = .ok (.iload_n 2, 1) := by decide +kernel
theorem dX4_parse_18 : decode cX4_parse 18 = .ok (.bipush 20, 2) := by decide +kernel
theorem dX4_parse_20 : decode cX4_parse 20 = .ok (.if_icmp .gt 79, 3) := by decide +kernel
theorem dX4_parse_23 : decode cX4_parse 23 = .ok (.aload_n 0, 1) := by decide +kernel
theorem dX4_parse_24 : decode cX4_parse 24 = .ok (.iload_n 1, 1) := by decide +kernel
set_option maxRecDepth 20000 in
theorem ggX4_parse_X4_parseHead : GoodIn wsX4_parse wsX4_parseHead := goodIn_r _ [9, 2, 3, 1, 10, 11, 12, 8, 13, 4, 14, 15, 16, 17, 18, 19, 20, 21, 22, 23, 24, 25, 26, 27, 28, 29, 30, 31, 32, 33, 34, 35, 36, 37, 38, 39, 40, 41, 42, 43, 44, 52, 53, 54, 55, 56, 57, 58, 59, 60, 61, 62] (by decide +kernel) (by decide +kernel)
set_option maxRecDepth 20000 in
theorem gX4_parse_X4_parseHead : GoodIn wsX4_parse (wsV RX4 32 RX4 yX4_parseHead wsX4_parseHead) := goodIn_app (goodIn_of _ (by decide +kernel)) ggX4_parse_X4_parseHead
theorem dX4_parse_25 : decode cX4_parse 25 = .ok (.invokevirtual 32, 3) := by decide +kernel
theorem dX4_parse_28 : decode cX4_parse 28 = .ok (.ifCond .ne 5, 3) := by decide +kernel
theorem dX4_parse_31 : decode cX4_parse 31 = .ok (.iconst 0, 1) := by decide +kernel
theorem dX4_parse_32 : decode cX4_parse 32 = .ok (.ireturn, 1) := by decide +kernel
theorem dX7_read_5 : decode cX7_read 5 = .ok (.astore_n 2, 1) := by decide +kernel
theorem dX7_read_6 : decode cX7_read 6 = .ok (.aload_n 0, 1) := by decide +kernel
theorem dX7_read_7 : decode cX7_read 7 = .ok (.getfield 18, 3) := by decide +kernel
set_option maxRecDepth 20000 in
theorem ggX7_read_X4_parse : GoodIn wsX7_read wsX4_parse := goodIn_r _ [21, 22, 23, 24, 25, 26, 27, 28, 20, 29, 30, 31, 32, 33, 34, 35, 12, 36, 37, 38, 39, 40, 41, 42, 43, 44, 45, 46, 47, 48, 49, 50, 51, 52, 53, 54, 55, 56, 57, 58, 59, 60, 61, 62, 63, 64, 65, 66, 67, 68, 69, 70, 89, 90, 91, 92, 93, 94, 95, 96, 97, 98, 99] (by decide +kernel) (by decide +kernel)
set_option maxRecDepth 20000 in
theorem gX7_read_X4_parse : GoodIn wsX7_read (wsV RX7 87 RX4 yX4_parse wsX4_parse) := goodIn_app (goodIn_of _ (by decide +kernel)) ggX7_read_X4_parse
theorem dX7_read_10 : decode cX7_read 10 = .ok (.invokevirtual 87, 3) := by decide +kernel
theorem dX7_read_13 : decode cX7_read 13 = .ok (.istore_n 3, 1) := by decide +kernel
theorem dX7_read_14 : decode cX7_read 14 = .ok (.aload_n 0, 1) := by decide +kernel
theorem dX7_read_15 : decode cX7_read 15 = .ok (.getfield 18, 3) := by decide +kernel
theorem dX7_read_18 : decode cX7_read 18 = .ok (.iconst 0, 1) := by decide +kernel
theorem dX7_read_19 : decode cX7_read 19 = .ok (.putfield 80, 3) := by decide +kernel
theorem dX7_read_22 : decode cX7_read 22 = .ok (.iload_n 3, 1) := by decide +kernel
theorem dX7_read_23 : decode cX7_read 23 = .ok (.ifCond .ne 24, 3) := by decide +kernel
theorem dX7_read_26 : decode cX7_read 26 = .ok (.aload_n 0, 1) := by decide +kernel
theorem dX7_read_27 : decode cX7_read 27 = .ok (.aload_n 0, 1) := by decide +kernel
theorem dX7_read_28 : decode cX7_read 28 = .ok (.getfield 18, 3) := by decide +kernel
theorem dX7_read_31 : decode cX7_read 31 = .ok (.getfield 91, 3) := by decide +kernel
theorem dX7_read_34 : decode cX7_read 34 = .ok (.putfield 57, 3) := by decide +kernel
theorem dX7_read_37 : decode cX7_read 37 = .ok (.new 94, 3) := by decide +kernel
theorem dX7_read_40 : decode cX7_read 40 = .ok (.dup, 1) := by decide +kernel
theorem dX7_read_41 : decode cX7_read 41 = .ok (.ldc 96, 2) := by decide +kernel
theorem dX7_read_43 : decode cX7_read 43 = .ok (.invokespecial 98, 3) := by decide +kernel
theorem dX7_read_46 : decode cX7_read 46 = .ok (.athrow, 1) := by decide +kernel
theorem dL_read_15 : decode cL_read 15 = .ok (.astore_n 3, 1) := by decide +kernel
theorem dL_read_16 : decode cL_read 16 = .ok (.iconst 2, 1) := by decide +kernel
theorem dL_read_17 : decode cL_read 17 = .ok (.ireturn, 1) := by decide +kernel
theorem dX10_isBetween_5 : decode cX10_isBetween 5 = .ok (.iload_n 0, 1) := by decide +kernel
theorem dX10_isBetween_6 : decode cX10_isBetween 6 = .ok (.iload_n 2, 1) := by decide +kernel
theorem dX10_isBetween_7 : decode cX10_isBetween 7 = .ok (.if_icmp .gt 7, 3) := by decide +kernel
theorem dX10_isBetween_10 : decode cX10_isBetween 10 = .ok (.iconst 1, 1) := by decide +kernel
theorem dX10_isBetween_11 : decode cX10_isBetween 11 = .ok (.goto 4, 3) := by decide +kernel
theorem dX10_sign_0 : decode cX10_sign 0 = .ok (.aload_n 0, 1) := by decide +kernel
theorem dX10_sign_1 : decode cX10_sign 1 = .ok (.getfield 129, 3) := by decide +kernel
theorem dX10_sign_4 : decode cX10_sign 4 = .ok (.aload_n 0, 1) := by decide +kernel
theorem dX10_sign_5 : decode cX10_sign 5 = .ok (.getfield 123, 3) := by decide +kernel
theorem dX10_sign_8 : decode cX10_sign 8 = .ok (.if_icmp .ge 15, 3) := by decide +kernel
theorem dX10_sign_23 : decode cX10_sign 23 = .ok (.iconst 0, 1) := by decide +kernel
theorem dX10_sign_24 : decode cX10_sign 24 = .ok (.ireturn, 1) := by decide +kernel
theorem dX10_takes_0 : decode cX10_takes 0 = .ok (.aload_n 0, 1) := by decide +kernel
theorem dX10_takes_1 : decode cX10_takes 1 = .ok (.getfield 132, 3) := by decide +kernel
theorem dX10_takes_4 : decode cX10_takes 4 = .ok (.ifCond .ge 30, 3) := by decide +kernel
theorem dX10_takes_7 : decode cX10_takes 7 = .ok (.aload_n 0, 1) := by decide +kernel
theorem dX10_takes_8 : decode cX10_takes 8 = .ok (.getfield 129, 3) := by decide +kernel
theorem dX10_takes_11 : decode cX10_takes 11 = .ok (.aload_n 0, 1) := by decide +kernel
theorem dX10_takes_12 : decode cX10_takes 12 = .ok (.getfield 123, 3) := by decide +kernel
theorem dX10_takes_15 : decode cX10_takes 15 = .ok (.if_icmp .eq 19, 3) := by decide +kernel
theorem dX10_takes_34 : decode cX10_takes 34 = .ok (.iconst 0, 1) := by decide +kernel
theorem dX10_takes_35 : decode cX10_takes 35 = .ok (.ireturn, 1) := by decide +kernel
theorem dX10_isFaulty_0 : decode cX10_isFaulty 0 = .ok (.aload_n 0, 1) := by decide +kernel
theorem dX10_isFaulty_1 : decode cX10_isFaulty 1 = .ok (.aload_n 0, 1) := by decide +kernel
theorem dX10_isFaulty_2 : decode cX10_isFaulty 2 = .ok (.getfield 132, 3) := by decide +kernel
theorem dX10_isFaulty_5 : decode cX10_isFaulty 5 = .ok (.ifCond .ge 10, 3) := by decide +kernel
theorem dX10_isFaulty_8 : decode cX10_isFaulty 8 = .ok (.aload_n 0, 1) := by decide +kernel
theorem dX10_isFaulty_9 : decode cX10_isFaulty 9 = .ok (.getfield 129, 3) := by decide +kernel
theorem dX10_isFaulty_12 : decode cX10_isFaulty 12 = .ok (.goto 7, 3) := by decide +kernel
theorem dX10_isFaulty_19 : decode cX10_isFaulty 19 = .ok (.putfield 132, 3) := by decide +kernel
theorem dX10_isFaulty_22 : decode cX10_isFaulty 22 = .ok (.return_, 1) := by decide +kernel
theorem dX10_readsNode_0 : decode cX10_readsNode 0 = .ok (.aload_n 0, 1) := by decide +kernel
theorem dX10_readsNode_1 : decode cX10_readsNode 1 = .ok (.getfield 132, 3) := by decide +kernel
theorem dX10_readsNode_4 : decode cX10_readsNode 4 = .ok (.ifCond .lt 4, 3) := by decide +kernel
theorem dX10_readsNode_8 : decode cX10_readsNode 8 = .ok (.aload_n 0, 1) := by decide +kernel
set_option maxRecDepth 20000 in
theorem ggX10_readsNode_X10_sign : GoodIn wsX10_readsNode wsX10_sign := goodIn_r _ [7, 8, 9, 10, 45, 46, 47, 48, 49, 50, 51, 52, 53, 54, 55, 56, 57, 58, 59, 60, 61, 62, 63, 64, 65, 66, 67, 68, 69, 70, 71, 72, 73, 74, 75] (by decide +kernel) (by decide +kernel)
set_option maxRecDepth 20000 in
theorem gX10_readsNode_X10_sign : GoodIn wsX10_readsNode (wsV RX10 135 RX10 yX10_sign wsX10_sign) := goodIn_app (goodIn_of _ (by decide +kernel)) ggX10_readsNode_X10_sign
theorem dX10_readsNode_9 : decode cX10_readsNode 9 = .ok (.invokevirtual 135, 3) := by decide +kernel
theorem dX10_readsNode_12 : decode cX10_readsNode 12 = .ok (.istore_n 2, 1) := by decide +kernel
theorem dX10_readsNode_13 : decode cX10_readsNode 13 = .ok (.aload_n 0, 1) := by decide +kernel
theorem dX10_readsNode_14 : decode cX10_readsNode 14 = .ok (.getfield 47, 3) := by decide +kernel
theorem dX10_readsNode_17 : decode cX10_readsNode 17 = .ok (.getfield 116, 3) := by decide +kernel
theorem dX10_readsNode_20 : decode cX10_readsNode 20 = .ok (.bipush 20, 2) := by decide +kernel
theorem dX10_readsNode_22 : decode cX10_readsNode 22 = .ok (.if_icmp .eq 14, 3) := by decide +kernel
theorem dX10_readsNode_25 : decode cX10_readsNode 25 = .ok (.aload_n 0, 1) := by decide +kernel
theorem dX10_readsNode_26 : decode cX10_readsNode 26 = .ok (.bipush 97, 2) := by decide +kernel
theorem dX10_readsNode_28 : decode cX10_readsNode 28 = .ok (.bipush 122, 2) := by decide +kernel
set_option maxRecDepth 20000 in
theorem ggX10_readsNode_X10_takes : GoodIn wsX10_readsNode wsX10_takes := goodIn_r _ [14, 1, 8, 9, 3, 4, 5, 6, 7, 10, 45, 46, 47, 48, 49, 50, 51, 52, 53, 54, 55, 56, 57, 58, 59, 60, 61, 62, 63, 64, 65, 66, 67, 68, 69, 70, 71, 72, 73, 74, 75] (by decide +kernel) (by decide +kernel)
set_option maxRecDepth 20000 in
theorem gX10_readsNode_X10_takes : GoodIn wsX10_readsNode (wsV RX10 142 RX10 yX10_takes wsX10_takes) := goodIn_app (goodIn_of _ (by decide +kernel)) ggX10_readsNode_X10_takes
theorem dX10_readsNode_30 : decode cX10_readsNode 30 = .ok (.invokevirtual 142, 3) := by decide +kernel
theorem dX10_readsNode_33 : decode cX10_readsNode 33 = .ok (.ifCond .ne 8, 3) := by decide +kernel
theorem dX10_readsNode_36 : decode cX10_readsNode 36 = .ok (.aload_n 0, 1) := by decide +kernel
set_option maxRecDepth 20000 in
theorem ggX10_readsNode_X10_isFaulty : GoodIn wsX10_readsNode wsX10_isFaulty := goodIn_r _ [18, 1, 8, 45, 46, 47, 48, 49, 50, 51, 52, 53, 54, 55, 56, 57, 58, 59, 60, 61, 62, 63, 64, 65, 66, 67, 68, 69, 70, 71, 72, 73, 74, 75] (by decide +kernel) (by decide +kernel)
set_option maxRecDepth 20000 in
theorem gX10_readsNode_X10_isFaulty : GoodIn wsX10_readsNode (wsV RX10 139 RX10 yX10_isFaulty wsX10_isFaulty) := goodIn_app (goodIn_of _ (by decide +kernel)) ggX10_readsNode_X10_isFaulty
theorem dX10_readsNode_37 : decode cX10_readsNode 37 = .ok (.invokevirtual 139, 3) := by decide +kernel
theorem dX10_readsNode_40 : decode cX10_readsNode 40 = .ok (.return_, 1) := by decide +kernel
theorem dX10_read_18 : decode cX10_read 18 = .ok (.aload_n 0, 1) := by decide +kernel
theorem dX10_read_19 : decode cX10_read 19 = .ok (.iconst 0, 1) := by decide +kernel
theorem dX10_read_20 : decode cX10_read 20 = .ok (.putfield 129, 3) := by decide +kernel
theorem dX10_read_23 : decode cX10_read 23 = .ok (.aload_n 0, 1) := by decide +kernel
theorem dX10_read_24 : decode cX10_read 24 = .ok (.iconst (-1), 1) := by decide +kernel
theorem dX10_read_25 : decode cX10_read 25 = .ok (.putfield 132, 3) := by decide +kernel
theorem dX10_read_28 : decode cX10_read 28 = .ok (.aload_n 0, 1) := by decide +kernel
theorem dX10_read_29 : decode cX10_read 29 = .ok (.getfield 47, 3) := by decide +kernel
theorem dX10_read_32 : decode cX10_read 32 = .ok (.iconst 0, 1) := by decide +kernel
theorem dX10_read_33 : decode cX10_read 33 = .ok (.putfield 116, 3) := by decide +kernel
theorem dX10_read_36 : decode cX10_read 36 = .ok (.aload_n 0, 1) := by decide +kernel
theorem dX10_read_37 : decode cX10_read 37 = .ok (.iconst (-1), 1) := by decide +kernel
set_option maxRecDepth 20000 in
theorem ggX10_read_X10_readsNode : GoodIn wsX10_read wsX10_readsNode := goodIn_r _ [22, 3, 4, 23, 24, 25, 10, 26, 2, 5, 27, 28, 29, 30, 31, 32, 33, 34, 35, 36, 37, 38, 39, 40, 41, 42, 43, 44, 45, 46, 47, 48, 49, 50, 51, 52, 53, 54, 55, 19, 20, 21, 12, 13, 14, 59, 60, 61, 62, 63, 64, 65, 66, 67, 68, 69, 70, 71, 72, 73, 74, 75, 76, 77, 78, 79, 80, 81, 82, 83, 84, 85, 86, 87, 88, 89, 90, 91, 92, 93, 94] (by decide +kernel) (by decide +kernel)
set_option maxRecDepth 20000 in
theorem gX10_read_X10_readsNode : GoodIn wsX10_read (wsV RX10 153 RX10 yX10_readsNode wsX10_readsNode) := goodIn_app (goodIn_of _ (by decide +kernel)) ggX10_read_X10_readsNode
theorem dX10_read_38 : decode cX10_read 38 = .ok (.invokevirtual 153, 3) := by decide +kernel
theorem dX10_read_41 : decode cX10_read 41 = .ok (.aload_n 0, 1) := by decide +kernel
theorem dX10_read_42 : decode cX10_read 42 = .ok (.getfield 129, 3) := by decide +kernel
theorem dX10_read_45 : decode cX10_read 45 = .ok (.aload_n 0, 1) := by decide +kernel
theorem dX10_read_46 : decode cX10_read 46 = .ok (.getfield 123, 3) := by decide +kernel
theorem dX10_read_49 : decode cX10_read 49 = .ok (.if_icmp .ge 7, 3) := by decide +kernel
theorem dX10_read_56 : decode cX10_read 56 = .ok (.aload_n 0, 1) := by decide +kernel
theorem dX10_read_57 : decode cX10_read 57 = .ok (.iconst 0, 1) := by decide +kernel
theorem dX10_read_58 : decode cX10_read 58 = .ok (.putfield 123, 3) := by decide +kernel
theorem dX10_read_61 : decode cX10_read 61 = .ok (.aload_n 0, 1) := by decide +kernel
theorem dX10_read_62 : decode cX10_read 62 = .ok (.getfield 132, 3) := by decide +kernel
theorem dX10_read_65 : decode cX10_read 65 = .ok (.ifCond .lt 17, 3) := by decide +kernel
theorem dX10_read_68 : decode cX10_read 68 = .ok (.aload_n 0, 1) := by decide +kernel
theorem dX10_read_69 : decode cX10_read 69 = .ok (.aload_n 0, 1) := by decide +kernel
theorem dX10_read_70 : decode cX10_read 70 = .ok (.getfield 132, 3) := by decide +kernel
theorem dX10_read_73 : decode cX10_read 73 = .ok (.putfield 37, 3) := by decide +kernel
theorem dX10_read_76 : decode cX10_read 76 = .ok (.aload_n 0, 1) := by decide +kernel
theorem dX10_read_77 : decode cX10_read 77 = .ok (.iconst 2, 1) := by decide +kernel
theorem dX10_read_78 : decode cX10_read 78 = .ok (.invokevirtual 126, 3) := by decide +kernel
theorem dX10_read_81 : decode cX10_read 81 = .ok (.ireturn, 1) := by decide +kernel
theorem dL_law_274 : decode cL_law 274 = .ok (.aload_n 1, 1) := by decide +kernel
theorem dL_law_275 : decode cL_law 275 = .ok (.aload_n 0, 1) := by decide +kernel
theorem dL_law_276 : decode cL_law 276 = .ok (.iload 5, 2) := by decide +kernel
theorem dL_law_278 : decode cL_law 278 = .ok (.iconst 1, 1) := by decide +kernel
theorem dL_law_279 : decode cL_law 279 = .ok (.iadd, 1) := by decide +kernel
theorem dL_law_280 : decode cL_law 280 = .ok (.iaload, 1) := by decide +kernel
theorem dL_law_281 : decode cL_law 281 = .ok (.aload_n 3, 1) := by decide +kernel
set_option maxRecDepth 20000 in
theorem ggL_law_L_read : GoodIn wsL_law wsL_read := goodIn_ca (goodIn_ca (goodIn_r _ [184, 185, 186, 187, 188, 189, 2, 190, 191, 192, 19, 162, 193, 40, 194, 195, 196, 197, 198, 199, 200, 201, 15, 202, 203, 204, 18, 205, 206, 51, 207, 167, 208, 209, 210, 211, 212, 213, 214, 215, 49, 216, 217, 218, 219, 220, 44, 221, 56, 58, 59, 60, 61, 222, 223, 224, 225, 226, 227, 228, 229, 230, 63, 231, 232, 233, 234, 235, 236, 237, 238, 239, 240, 241, 242, 243, 244, 245, 246, 247, 248, 249, 250, 251, 252, 1458, 1459, 1460, 1461, 1462, 1463, 1464, 1465, 1466, 1467, 1499, 1500, 1501, 1502, 1530, 1531, 1532, 1533, 1534, 1535, 1536] (by decide +kernel) (by decide +kernel)) (goodIn_sub (fun _ h => List.mem_append_left _ (List.mem_append_left _ (List.mem_append_left _ (List.mem_append_right _ h)))) (by decide +kernel))) (goodIn_sub (fun _ h => List.mem_append_left _ (List.mem_append_left _ (List.mem_append_right _ h))) (by decide +kernel))
set_option maxRecDepth 20000 in
theorem gL_law_L_read : GoodIn wsL_law (va_wsS RL 159 yL_read wsL_read) := goodIn_app (goodIn_of _ (by decide +kernel)) ggL_law_L_read
theorem dL_law_282 : decode cL_law 282 = .ok (.invokestatic 159, 3) := by decide +kernel
theorem dL_law_285 : decode cL_law 285 = .ok (.istore 6, 2) := by decide +kernel
theorem dL_law_287 : decode cL_law 287 = .ok (.aload_n 2, 1) := by decide +kernel
theorem dL_law_288 : decode cL_law 288 = .ok (.aload_n 0, 1) := by decide +kernel
theorem dL_law_289 : decode cL_law 289 = .ok (.iload 5, 2) := by decide +kernel
theorem dL_law_291 : decode cL_law 291 = .ok (.iconst 1, 1) := by decide +kernel
theorem dL_law_292 : decode cL_law 292 = .ok (.iadd, 1) := by decide +kernel
theorem dL_law_293 : decode cL_law 293 = .ok (.iaload, 1) := by decide +kernel
set_option maxRecDepth 20000 in
theorem ggL_law_X10_read : GoodIn wsL_law wsX10_read := goodIn_r _ [256, 172, 257, 258, 118, 173, 116, 114, 259, 260, 5, 261, 262, 263, 264, 174, 175, 176, 177, 265, 266, 267, 268, 269, 270, 271, 272, 115, 273, 274, 275, 276, 277, 278, 279, 280, 143, 113, 144, 145, 146, 147, 148, 149, 150, 139, 140, 141, 142, 281, 282, 283, 284, 285, 286, 287, 288, 289, 290, 1468, 1469, 1470, 1471, 1472, 1473, 1474, 1475, 1476, 1477, 1478, 1479, 1480, 1481, 1482, 1483, 1484, 1485, 1486, 1487, 1488, 1489, 1490, 1491, 1492, 1493, 1494, 1495, 1496, 1497, 1498, 1537, 1538, 1539, 1540, 1541] (by decide +kernel) (by decide +kernel)
set_option maxRecDepth 20000 in
theorem gL_law_X10_read : GoodIn wsL_law (wsV RL 162 RX10 yX10_read wsX10_read) := goodIn_app (goodIn_of _ (by decide +kernel)) ggL_law_X10_read
theorem dL_law_294 : decode cL_law 294 = .ok (.invokevirtual 162, 3) := by decide +kernel
theorem dL_law_297 : decode cL_law 297 = .ok (.istore 7, 2) := by decide +kernel
theorem dL_law_299 : decode cL_law 299 = .ok (.aload_n 2, 1) := by decide +kernel
theorem dL_law_300 : decode cL_law 300 = .ok (.invokevirtual 156, 3) := by decide +kernel
theorem dL_law_303 : decode cL_law 303 = .ok (.iload 6, 2) := by decide +kernel
theorem dL_law_305 : decode cL_law 305 = .ok (.if_icmp .eq 5, 3) := by decide +kernel
theorem dL_law_310 : decode cL_law 310 = .ok (.iload 6, 2) := by decide +kernel
theorem dL_law_312 : decode cL_law 312 = .ok (.ifCond .ne 15, 3) := by decide +kernel
theorem dL_law_327 : decode cL_law 327 = .ok (.goto 2323, 3) := by decide +kernel
variable {l : Launch} {N0 : Nat} {D : va_G} {cI cC cL cD cII cTr cTm cIt cB : ClassId} {F : Nat → Option va_E} {ql : Nat → Nat}
theorem k18_X7_treeAt {n : Nat} {a1 : Int32} (g_a1_le_m1 : a1 ≤ (-1)) (hst : l.stackTraces = false) (hn : N0 + 231 ≤ n)  : vx_Met l yX7_treeAt wsX7_treeAt ({ frames := 6, cells := 1, slots := 6, locals := 82 }) (va_Pc [.ref N0, .int a1] (fP N0 D vwCl (fty cI cC cL cD cII cTr cTm cIt cB) (fen ql) F n)) (fNo N0 D vwCl (fty cI cC cL cD cII cTr cTm cIt cB) F n) (fXC N0 D vwCl (fty cI cC cL cD cII cTr cTm cIt cB) "java/lang/IndexOutOfBoundsException" F n) 1 6 (fA N0) := by
  refine fx_startX 2 rfl rfl (Nat.le_of_ble_eq_true rfl) ?_ rfl
  intro p e s m below meth c ls S htab hlocks hG hl
  have hl : lv_has ls 2 [(0, .ref N0), (1, .int a1)] := hl
  refine lv_iload_n S.1 S.2.1 dX7_treeAt_0 rfl (lv_at hl 1 rfl) ?_
  refine lv_if_lt (tgt := 9) S.1 S.2.1 dX7_treeAt_1 (by decide) (fun _ => ?_) (fun c => absurd (Int32.lt_of_le_of_lt g_a1_le_m1 (by decide)) c)
  exact fx_throwW (text := "no such tree") S hG hl.1 hst (by decide) (by decide +kernel) (by decide +kernel) (List.mem_of_getElem? (i := 20) rfl) (by decide +kernel) (by decide +kernel) (by decide +kernel) (List.mem_of_getElem? (i := 2) rfl) (List.mem_of_getElem? (i := 0) rfl) (List.mem_of_getElem? (i := 1) rfl) (List.mem_of_getElem? (i := 2) rfl) dX7_treeAt_9 dX7_treeAt_12 dX7_treeAt_13 dX7_treeAt_16 dX7_treeAt_19 htab (by decide) (Nat.le_of_ble_eq_true rfl) (by decide) (by decide) hlocks (by decide) (by decide)
theorem k19_X7_read {n : Nat} {a1 : Int32} (g_a1_le_m1 : a1 ≤ (-1)) (hst : l.stackTraces = false) (hn : N0 + 231 ≤ n) (h0 : F N0 = some (.inr (9, [.ref (N0 + 1), .ref (N0 + 2), .ref (N0 + 11), .ref (N0 + 13), .ref (N0 + 63), .ref (N0 + 65), .ref (N0 + 85), .int (-1), .int (-1), .int 32]))) : vx_Met l yX7_read wsX7_read ({ frames := 7, cells := 1, slots := 6, locals := 103 }) (va_Pc [.ref N0, .int a1] (fP N0 D vwCl (fty cI cC cL cD cII cTr cTm cIt cB) (fen ql) F n)) (fNo N0 D vwCl (fty cI cC cL cD cII cTr cTm cIt cB) F n) (fXC N0 D vwCl (fty cI cC cL cD cII cTr cTm cIt cB) "java/lang/IndexOutOfBoundsException" F n) 1 6 (fA N0) := by
  refine fx_startX 4 rfl rfl (Nat.le_of_ble_eq_true rfl) ?_ rfl
  intro p e s m below meth c ls S htab hlocks hG hl
  have hl : lv_has ls 4 [(0, .ref N0), (1, .int a1)] := hl
  have lt_h0 := hG.1.lt h0
  refine lv_aload_n S.1 S.2.1 dX7_read_0 rfl (lv_at hl 0 rfl) ?_
  refine lv_iload_n S.1 S.2.1 dX7_read_1 rfl (lv_at hl 1 rfl) ?_
  refine fx_xV (As := [.int a1]) (rest := []) S hG (k18_X7_treeAt g_a1_le_m1 hst (by omega)) h0 rfl (cwV 1 S.2.2.2.2 gX7_read_X7_treeAt rfl rfl rfl (by decide +kernel) ⟨Nat.le_of_ble_eq_true rfl, Nat.le_of_ble_eq_true rfl⟩) rfl hl.1 rfl (Nat.le_of_ble_eq_true rfl) dX7_read_2 ⟨Nat.le_of_ble_eq_true rfl, Nat.le_of_ble_eq_true rfl⟩ (fun ceq_1 q_1 H locs n_2 hn_2 hG h1q_1 h2q_1 h3q_1 => ?_)
  exact fx_out htab hlocks hG (by omega) h1q_1 h2q_1 h3q_1 (by decide) (by decide)
theorem k20_L_read {n : Nat} {a1 : Int32} (g_a1_le_m1 : a1 ≤ (-1)) (hst : l.stackTraces = false) (hn : N0 + 231 ≤ n) (h0 : F N0 = some (.inr (9, [.ref (N0 + 1), .ref (N0 + 2), .ref (N0 + 11), .ref (N0 + 13), .ref (N0 + 63), .ref (N0 + 65), .ref (N0 + 85), .int (-1), .int (-1), .int 32]))) : Met l yL_read wsL_read ({ frames := 8, cells := 1, slots := 6, locals := 126 }) (va_Pc [.ref N0, .int a1, .ref (N0 + 229)] (fP N0 D vwCl (fty cI cC cL cD cII cTr cTm cIt cB) (fen ql) F n)) (fQi N0 D vwCl (fty cI cC cL cD cII cTr cTm cIt cB) (fun (r : Int32) (u : Nat) => r = 1 ∧ n ≤ u) (fun _ => F) (fun u => u)) 1 6 (fA N0) := by
  refine fx_startW (hh := [(0, 9, 12, 19), (0, 9, 15, 21)]) 4 rfl rfl (Nat.le_of_ble_eq_true rfl) ?_ rfl
  intro p e s m below meth c ls S htab hr hlocks hG hl
  have hl : lv_has ls 4 [(0, .ref N0), (1, .int a1), (2, .ref (N0 + 229))] := hl
  have lt_h0 := hG.1.lt h0
  refine lv_aload_n S.1 S.2.1 dL_read_0 rfl (lv_at hl 2 rfl) ?_
  refine lv_iconst (v := 0) S.1 S.2.1 dL_read_1 (by decide) ?_
  refine lv_aload_n S.1 S.2.1 dL_read_2 rfl (lv_at hl 0 rfl) ?_
  refine lv_iload_n S.1 S.2.1 dL_read_3 rfl (lv_at hl 1 rfl) ?_
  refine fx_xV (As := [.int a1]) (rest := [.int 0, .ref (N0 + 229)]) S hG (k19_X7_read g_a1_le_m1 hst (by omega) h0) h0 rfl (cwV 1 S.2.2.2.2 gL_read_X7_read rfl rfl rfl (by decide +kernel) ⟨Nat.le_of_ble_eq_true rfl, Nat.le_of_ble_eq_true rfl⟩) rfl hl.1 rfl (Nat.le_of_ble_eq_true rfl) dL_read_4 ⟨Nat.le_of_ble_eq_true rfl, Nat.le_of_ble_eq_true rfl⟩ (fun ceq_1 q_1 H locs n_2 hn_2 hG h1q_1 h2q_1 h3q_1 => ?_)
  refine fx_catch (hh := [(0, 9, 12, 19), (0, 9, 15, 21)]) S htab hG h1q_1 h2q_1 h3q_1 [] ⟨0, 9, 12, 19⟩ [⟨0, 9, 15, 21⟩] rfl [] (fun z hz => absurd hz List.not_mem_nil) (by decide) (by decide) (by decide +kernel) (List.mem_of_getElem? (i := 2) rfl) ?_
  refine lv_astore_n (lv' := [(3, .ref q_1), (0, .ref N0), (1, .int a1), (2, .ref (N0 + 229))]) S.1 S.2.1 dL_read_12 rfl hl (by decide) rfl (fun ls hl => ?_)
  refine lv_iconst (v := 1) S.1 S.2.1 dL_read_13 (by decide) ?_
  exact fx_iret S hr hlocks n_2 hG (⟨rfl, hn_2⟩) dL_read_14
theorem k21_X10_isBetween {n : Nat} {a1 : Int32} (g_a1_le_m1 : a1 ≤ (-1)) (hn : N0 + 231 ≤ n)  : Met l yX10_isBetween wsX10_isBetween ({ frames := 0, cells := 0, slots := 0, locals := 0 }) (va_Pc [.int a1, .int 0, .int 2] (fP N0 D vwCl (fty cI cC cL cD cII cTr cTm cIt cB) (fen ql) F n)) (fQi N0 D vwCl (fty cI cC cL cD cII cTr cTm cIt cB) (fun (r : Int32) (_ : Unit) => r = 0) (fun _ => F) (fun _ => n)) 0 0 (fA N0) := by
  refine fx_start 3 rfl rfl (Nat.le_of_ble_eq_true rfl) ?_ rfl
  intro p e s m below meth c ls S hr hlocks hin hG hl
  have hl : lv_has ls 3 [(0, .int a1), (1, .int 0), (2, .int 2)] := hl
  refine lv_iload_n S.1 S.2.1 dX10_isBetween_0 rfl (lv_at hl 1 rfl) ?_
  refine lv_iload_n S.1 S.2.1 dX10_isBetween_1 rfl (lv_at hl 0 rfl) ?_
  refine lv_icmp_gt (tgt := 14) S.1 S.2.1 dX10_isBetween_2 (by decide) (fun _ => ?_) (fun c => absurd (Int32.lt_of_le_of_lt g_a1_le_m1 (by decide)) c)
  refine lv_iconst (v := 0) S.1 S.2.1 dX10_isBetween_14 (by decide) ?_
  exact fx_zret S hr (rfl) hlocks () hG (rfl) dX10_isBetween_15
theorem k22_X10_isTree {n : Nat} {a1 : Int32} (g_a1_le_m1 : a1 ≤ (-1)) (hn : N0 + 231 ≤ n)  : Met l yX10_isTree wsX10_isTree ({ frames := 1, cells := 0, slots := 0, locals := 22 }) (va_Pc [.int a1] (fP N0 D vwCl (fty cI cC cL cD cII cTr cTm cIt cB) (fen ql) F n)) (fQi N0 D vwCl (fty cI cC cL cD cII cTr cTm cIt cB) (fun (r : Int32) (_ : Unit) => r = 0) (fun _ => F) (fun _ => n)) 0 0 (fA N0) := by
  refine fx_start 1 rfl rfl (Nat.le_of_ble_eq_true rfl) ?_ rfl
  intro p e s m below meth c ls S hr hlocks hin hG hl
  have hl : lv_has ls 1 [(0, .int a1)] := hl
  refine lv_iload_n S.1 S.2.1 dX10_isTree_0 rfl (lv_at hl 0 rfl) ?_
  refine lv_iconst (v := 0) S.1 S.2.1 dX10_isTree_1 (by decide) ?_
  refine lv_iconst (v := 2) S.1 S.2.1 dX10_isTree_2 (by decide) ?_
  refine fx_cSi (As := [.int a1, .int 0, .int 2]) (rest := []) S hG (k21_X10_isBetween g_a1_le_m1 (by omega)) (cwS 3 S.2.2.2.2 gX10_isTree_X10_isBetween rfl rfl rfl (by decide +kernel) ⟨Nat.le_of_ble_eq_true rfl, Nat.le_of_ble_eq_true rfl⟩) rfl hl.1 rfl (Nat.le_of_ble_eq_true rfl) dX10_isTree_3 ⟨Nat.le_of_ble_eq_true rfl, Nat.le_of_ble_eq_true rfl⟩ (fun rv_1 _ H locs hp hG => ?_)
  subst rv_1
  exact fx_zret S hr (rfl) hlocks () hG (rfl) dX10_isTree_6
theorem i_X10_fails_X10 : ∀ w ∈ u_ws RX10 TX10 31, w ∈ wsX10_fails := by decide +kernel
theorem k23_X10_fails {n : Nat} (hn : N0 + 231 ≤ n) (h0 : F (N0 + 164) = some (.inr (12, [.ref (N0 + 165), .int 0, .ref (N0 + 181), .int 0, .int 0, .int 0, .int (-1), .ref (ql 24), .ref (N0 + 182), .ref (N0 + 187), .ref (N0 + 208), .ref (N0 + 209), .ref (N0 + 210), .ref (N0 + 211), .ref (N0 + 212), .int 0, .ref (N0 + 213), .ref (N0 + 218), .ref (N0 + 223), .ref (N0 + 224), .ref (N0 + 225), .ref (N0 + 226), .ref (N0 + 227), .int 0, .int 0, .ref (N0 + 228), .null, .int (-1), .int 0, .int 0, .int 0]))) : Met l yX10_fails wsX10_fails ({ frames := 0, cells := 0, slots := 0, locals := 0 }) (va_Pc [.ref (N0 + 164), .int 1] (fP N0 D vwCl (fty cI cC cL cD cII cTr cTm cIt cB) (fen ql) F n)) (fQi N0 D vwCl (fty cI cC cL cD cII cTr cTm cIt cB) (fun (r : Int32) (_ : Unit) => r = 0) (fun _ => (fu F (N0 + 164) (.inr (12, [.ref (N0 + 165), .int 1, .ref (N0 + 181), .int 0, .int 0, .int 0, .int (-1), .ref (ql 24), .ref (N0 + 182), .ref (N0 + 187), .ref (N0 + 208), .ref (N0 + 209), .ref (N0 + 210), .ref (N0 + 211), .ref (N0 + 212), .int 0, .ref (N0 + 213), .ref (N0 + 218), .ref (N0 + 223), .ref (N0 + 224), .ref (N0 + 225), .ref (N0 + 226), .ref (N0 + 227), .int 0, .int 0, .ref (N0 + 228), .null, .int (-1), .int 0, .int 0, .int 0])))) (fun _ => n)) 0 0 (fA N0) := by
  refine fx_start 2 rfl rfl (Nat.le_of_ble_eq_true rfl) ?_ rfl
  intro p e s m below meth c ls S hr hlocks hin hG hl
  have hl : lv_has ls 2 [(0, .ref (N0 + 164)), (1, .int 1)] := hl
  have lt_h0 := hG.1.lt h0
  refine lv_aload_n S.1 S.2.1 dX10_fails_0 rfl (lv_at hl 0 rfl) ?_
  refine lv_iload_n S.1 S.2.1 dX10_fails_1 rfl (lv_at hl 1 rfl) ?_
  refine gx_put (C := RX10) (T := TX10) (N := 31) (ty := .int) (v := .int 1) (fs' := [.ref (N0 + 165), .int 1, .ref (N0 + 181), .int 0, .int 0, .int 0, .int (-1), .ref (ql 24), .ref (N0 + 182), .ref (N0 + 187), .ref (N0 + 208), .ref (N0 + 209), .ref (N0 + 210), .ref (N0 + 211), .ref (N0 + 212), .int 0, .ref (N0 + 213), .ref (N0 + 218), .ref (N0 + 223), .ref (N0 + 224), .ref (N0 + 225), .ref (N0 + 226), .ref (N0 + 227), .int 0, .int 0, .ref (N0 + 228), .null, .int (-1), .int 0, .int 0, .int 0]) S hG h0 i_X10_fails_X10 rfl 1 (by decide) tyX10 tyX10_ok nmX10 (by decide +kernel) rfl (by decide +kernel) rfl rfl (Nat.le_of_ble_eq_true rfl) rfl dX10_fails_2 (fun H locs hG => ?_)
  refine lv_iconst (v := 0) S.1 S.2.1 dX10_fails_5 (by decide) ?_
  exact fx_iret S hr hlocks () hG (rfl) dX10_fails_6
theorem i_X10_read_X10 : ∀ w ∈ u_ws RX10 TX10 31, w ∈ wsX10_read := by decide +kernel
theorem k24_X10_read {n : Nat} {a1 : Int32} (g_a1_le_m1 : a1 ≤ (-1)) (hn : N0 + 231 ≤ n) (h0 : F (N0 + 164) = some (.inr (12, [.ref (N0 + 165), .int 0, .ref (N0 + 181), .int 0, .int 0, .int 0, .int (-1), .ref (ql 24), .ref (N0 + 182), .ref (N0 + 187), .ref (N0 + 208), .ref (N0 + 209), .ref (N0 + 210), .ref (N0 + 211), .ref (N0 + 212), .int 0, .ref (N0 + 213), .ref (N0 + 218), .ref (N0 + 223), .ref (N0 + 224), .ref (N0 + 225), .ref (N0 + 226), .ref (N0 + 227), .int 0, .int 0, .ref (N0 + 228), .null, .int (-1), .int 0, .int 0, .int 0]))) : Met l yX10_read wsX10_read ({ frames := 2, cells := 0, slots := 0, locals := 42 }) (va_Pc [.ref (N0 + 164), .int a1] (fP N0 D vwCl (fty cI cC cL cD cII cTr cTm cIt cB) (fen ql) F n)) (fQi N0 D vwCl (fty cI cC cL cD cII cTr cTm cIt cB) (fun (r : Int32) (_ : Unit) => r = 0) (fun _ => (fu F (N0 + 164) (.inr (12, [.ref (N0 + 165), .int 1, .ref (N0 + 181), .int 0, .int 0, .int 0, .int (-1), .ref (ql 24), .ref (N0 + 182), .ref (N0 + 187), .ref (N0 + 208), .ref (N0 + 209), .ref (N0 + 210), .ref (N0 + 211), .ref (N0 + 212), .int 0, .ref (N0 + 213), .ref (N0 + 218), .ref (N0 + 223), .ref (N0 + 224), .ref (N0 + 225), .ref (N0 + 226), .ref (N0 + 227), .int 0, .int 0, .ref (N0 + 228), .null, .int (-1), .int 0, .int 0, .int 0])))) (fun _ => n)) 0 0 (fA N0) := by
  refine fx_start 2 rfl rfl (Nat.le_of_ble_eq_true rfl) ?_ rfl
  intro p e s m below meth c ls S hr hlocks hin hG hl
  have hl : lv_has ls 2 [(0, .ref (N0 + 164)), (1, .int a1)] := hl
  have lt_h0 := hG.1.lt h0
  refine lv_aload_n S.1 S.2.1 dX10_read_0 rfl (lv_at hl 0 rfl) ?_
  refine lv_iconst (v := 0) S.1 S.2.1 dX10_read_1 (by decide) ?_
  refine gx_put (C := RX10) (T := TX10) (N := 31) (ty := .int) (v := .int 0) (fs' := [.ref (N0 + 165), .int 0, .ref (N0 + 181), .int 0, .int 0, .int 0, .int (-1), .ref (ql 24), .ref (N0 + 182), .ref (N0 + 187), .ref (N0 + 208), .ref (N0 + 209), .ref (N0 + 210), .ref (N0 + 211), .ref (N0 + 212), .int 0, .ref (N0 + 213), .ref (N0 + 218), .ref (N0 + 223), .ref (N0 + 224), .ref (N0 + 225), .ref (N0 + 226), .ref (N0 + 227), .int 0, .int 0, .ref (N0 + 228), .null, .int (-1), .int 0, .int 0, .int 0]) S hG h0 i_X10_read_X10 rfl 1 (by decide) tyX10 tyX10_ok nmX10 (by decide +kernel) rfl (by decide +kernel) rfl rfl (Nat.le_of_ble_eq_true rfl) rfl dX10_read_2 (fun H locs hG => ?_)
  refine lv_iload_n S.1 S.2.1 dX10_read_5 rfl (lv_at hl 1 rfl) ?_
  refine fx_cSi (As := [.int a1]) (rest := []) S hG (k22_X10_isTree g_a1_le_m1 (by omega)) (cwS 1 S.2.2.2.2 gX10_read_X10_isTree rfl rfl rfl (by decide +kernel) ⟨Nat.le_of_ble_eq_true rfl, Nat.le_of_ble_eq_true rfl⟩) rfl hl.1 rfl (Nat.le_of_ble_eq_true rfl) dX10_read_6 ⟨Nat.le_of_ble_eq_true rfl, Nat.le_of_ble_eq_true rfl⟩ (fun rv_1 _ H locs hp hG => ?_)
  subst rv_1
  refine lv_if_ne (tgt := 18) S.1 S.2.1 dX10_read_9 (by decide) (fun c => absurd (by decide) c) (fun _ => ?_)
  refine lv_aload_n S.1 S.2.1 dX10_read_12 rfl (lv_at hl 0 rfl) ?_
  refine lv_iconst (v := 1) S.1 S.2.1 dX10_read_13 (by decide) ?_
  refine fx_cVi (As := [.int 1]) (rest := []) S hG (k23_X10_fails (by omega) fu_s) fu_s rfl (cwV 1 S.2.2.2.2 gX10_read_X10_fails rfl rfl rfl (by decide +kernel) ⟨Nat.le_of_ble_eq_true rfl, Nat.le_of_ble_eq_true rfl⟩) rfl hl.1 rfl (Nat.le_of_ble_eq_true rfl) dX10_read_14 ⟨Nat.le_of_ble_eq_true rfl, Nat.le_of_ble_eq_true rfl⟩ (fun rv_2 _ H locs hp hG => ?_)
  subst rv_2
  have hG : fG N0 D vwCl (fty cI cC cL cD cII cTr cTm cIt cB) (fen ql) s (fu F (N0 + 164) (.inr (12, [.ref (N0 + 165), .int 1, .ref (N0 + 181), .int 0, .int 0, .int 0, .int (-1), .ref (ql 24), .ref (N0 + 182), .ref (N0 + 187), .ref (N0 + 208), .ref (N0 + 209), .ref (N0 + 210), .ref (N0 + 211), .ref (N0 + 212), .int 0, .ref (N0 + 213), .ref (N0 + 218), .ref (N0 + 223), .ref (N0 + 224), .ref (N0 + 225), .ref (N0 + 226), .ref (N0 + 227), .int 0, .int 0, .ref (N0 + 228), .null, .int (-1), .int 0, .int 0, .int 0]))) n H locs := hG.weak (fun a e h => by
    rcases fu_cases h with ⟨rfl, he⟩ | ⟨hne0, h⟩
    · cases he; exact fu_s
    · exact (fu_at (by omega) (fu_at (by omega) h)))
  exact fx_iret S hr hlocks () hG (rfl) dX10_read_17
theorem k25_X10_thrown {n : Nat} (hn : N0 + 231 ≤ n) (h0 : F (N0 + 164) = some (.inr (12, [.ref (N0 + 165), .int 1, .ref (N0 + 181), .int 0, .int 0, .int 0, .int (-1), .ref (ql 24), .ref (N0 + 182), .ref (N0 + 187), .ref (N0 + 208), .ref (N0 + 209), .ref (N0 + 210), .ref (N0 + 211), .ref (N0 + 212), .int 0, .ref (N0 + 213), .ref (N0 + 218), .ref (N0 + 223), .ref (N0 + 224), .ref (N0 + 225), .ref (N0 + 226), .ref (N0 + 227), .int 0, .int 0, .ref (N0 + 228), .null, .int (-1), .int 0, .int 0, .int 0]))) : Met l yX10_thrown wsX10_thrown ({ frames := 0, cells := 0, slots := 0, locals := 0 }) (va_Pc [.ref (N0 + 164)] (fP N0 D vwCl (fty cI cC cL cD cII cTr cTm cIt cB) (fen ql) F n)) (fQi N0 D vwCl (fty cI cC cL cD cII cTr cTm cIt cB) (fun (r : Int32) (_ : Unit) => r = 1) (fun _ => F) (fun _ => n)) 0 0 (fA N0) := by
  refine fx_start 1 rfl rfl (Nat.le_of_ble_eq_true rfl) ?_ rfl
  intro p e s m below meth c ls S hr hlocks hin hG hl
  have hl : lv_has ls 1 [(0, .ref (N0 + 164))] := hl
  have lt_h0 := hG.1.lt h0
  refine lv_aload_n S.1 S.2.1 dX10_thrown_0 rfl (lv_at hl 0 rfl) ?_
  refine gx_get (C := RX10) (T := TX10) (N := 31) S hG h0 i_X10_thrown_X10 rfl 1 (by decide) (by decide +kernel) rfl dX10_thrown_1 ?_
  exact fx_iret S hr hlocks () hG (rfl) dX10_thrown_4
theorem i_X7_treeAt_X7 : ∀ w ∈ u_ws RX7 TX7 10, w ∈ wsX7_treeAt := by decide +kernel
theorem k26_X7_treeAt {n : Nat} (hn : N0 + 231 ≤ n) (h0 : F N0 = some (.inr (9, [.ref (N0 + 1), .ref (N0 + 2), .ref (N0 + 11), .ref (N0 + 13), .ref (N0 + 63), .ref (N0 + 65), .ref (N0 + 85), .int (-1), .int (-1), .int 32]))) (h1 : F (N0 + 1) = some (.inl (cTr, 3, .inr (.inr (.inr (.inr (va_up (va_up (va_up (fun _ => none) 0 (some (N0 + 143))) 1 (some (N0 + 150))) 2 (some (N0 + 157))))))))) : Met l yX7_treeAt wsX7_treeAt ({ frames := 0, cells := 0, slots := 0, locals := 0 }) (va_Pc [.ref N0, .int 0] (fP N0 D vwCl (fty cI cC cL cD cII cTr cTm cIt cB) (fen ql) F n)) (fQr N0 D vwCl (fty cI cC cL cD cII cTr cTm cIt cB) (fun (r : Nat) (_ : Unit) => r = (N0 + 143)) (fun _ => F) (fun _ => n)) 0 0 (fA N0) := by
  refine fx_start 2 rfl rfl (Nat.le_of_ble_eq_true rfl) ?_ rfl
  intro p e s m below meth c ls S hr hlocks hin hG hl
  have hl : lv_has ls 2 [(0, .ref N0), (1, .int 0)] := hl
  have lt_h0 := hG.1.lt h0
  have lt_h1 := hG.1.lt h1
  refine lv_iload_n S.1 S.2.1 dX7_treeAt_0 rfl (lv_at hl 1 rfl) ?_
  refine lv_if_lt (tgt := 9) S.1 S.2.1 dX7_treeAt_1 (by decide) (fun c => absurd c (by decide)) (fun _ => ?_)
  refine lv_iload_n S.1 S.2.1 dX7_treeAt_4 rfl (lv_at hl 1 rfl) ?_
  refine lv_iconst (v := 3) S.1 S.2.1 dX7_treeAt_5 (by decide) ?_
  refine lv_icmp_lt (tgt := 20) S.1 S.2.1 dX7_treeAt_6 (by decide) (fun _ => ?_) (fun c => absurd (by decide) c)
  refine lv_aload_n S.1 S.2.1 dX7_treeAt_20 rfl (lv_at hl 0 rfl) ?_
  refine gx_get (C := RX7) (T := TX7) (N := 10) S hG h0 i_X7_treeAt_X7 rfl 0 (by decide) (by decide +kernel) rfl dX7_treeAt_21 ?_
  refine lv_iload_n S.1 S.2.1 dX7_treeAt_24 rfl (lv_at hl 1 rfl) ?_
  refine gx_aldq (x := (N0 + 143)) S hG 5 rfl h1 rfl (fin_l (by decide)) (rfl) dX7_treeAt_25 ?_
  exact fx_aret S hr (Or.inl ⟨_, rfl⟩) hlocks () hG (rfl) dX7_treeAt_26
theorem i_X4_current_X4 : ∀ w ∈ u_ws RX4 TX4 4, w ∈ wsX4_current := by decide +kernel
theorem k27_X4_current {n : Nat} (hn : N0 + 231 ≤ n) (h0 : F (N0 + 2) = some (.inr (6, [.ref (N0 + 3), .int 0, .int 0, .ref (N0 + 4)]))) : Met l yX4_current wsX4_current ({ frames := 0, cells := 0, slots := 0, locals := 0 }) (va_Pc [.ref (N0 + 2)] (fP N0 D vwCl (fty cI cC cL cD cII cTr cTm cIt cB) (fen ql) F n)) (fQi N0 D vwCl (fty cI cC cL cD cII cTr cTm cIt cB) (fun (r : Int32) (_ : Unit) => r = (-1)) (fun _ => F) (fun _ => n)) 0 0 (fA N0) := by
  refine fx_start 1 rfl rfl (Nat.le_of_ble_eq_true rfl) ?_ rfl
  intro p e s m below meth c ls S hr hlocks hin hG hl
  have hl : lv_has ls 1 [(0, .ref (N0 + 2))] := hl
  have lt_h0 := hG.1.lt h0
  refine lv_aload_n S.1 S.2.1 dX4_current_0 rfl (lv_at hl 0 rfl) ?_
  refine gx_get (C := RX4) (T := TX4) (N := 4) S hG h0 i_X4_current_X4 rfl 2 (by decide) (by decide +kernel) rfl dX4_current_1 ?_
  refine lv_if_lt (tgt := 27) S.1 S.2.1 dX4_current_4 (by decide) (fun c => absurd c (by decide)) (fun _ => ?_)
  refine lv_aload_n S.1 S.2.1 dX4_current_7 rfl (lv_at hl 0 rfl) ?_
  refine gx_get (C := RX4) (T := TX4) (N := 4) S hG h0 i_X4_current_X4 rfl 2 (by decide) (by decide +kernel) rfl dX4_current_8 ?_
  refine lv_aload_n S.1 S.2.1 dX4_current_11 rfl (lv_at hl 0 rfl) ?_
  refine gx_get (C := RX4) (T := TX4) (N := 4) S hG h0 i_X4_current_X4 rfl 1 (by decide) (by decide +kernel) rfl dX4_current_12 ?_
  refine lv_icmp_ge (tgt := 27) S.1 S.2.1 dX4_current_15 (by decide) (fun _ => ?_) (fun c => absurd (by decide) c)
  refine lv_iconst (v := (-1)) S.1 S.2.1 dX4_current_27 (by decide) ?_
  refine lv_goto (tgt := 40) S.1 S.2.1 dX4_current_28 (by decide) ?_
  exact fx_iret S hr hlocks () hG (rfl) dX4_current_40
theorem k28_X7_isLabel {n : Nat} (hn : N0 + 231 ≤ n)  : Met l yX7_isLabel wsX7_isLabel ({ frames := 0, cells := 0, slots := 0, locals := 0 }) (va_Pc [.int (-1)] (fP N0 D vwCl (fty cI cC cL cD cII cTr cTm cIt cB) (fen ql) F n)) (fQi N0 D vwCl (fty cI cC cL cD cII cTr cTm cIt cB) (fun (r : Int32) (_ : Unit) => r = 0) (fun _ => F) (fun _ => n)) 0 0 (fA N0) := by
  refine fx_start 1 rfl rfl (Nat.le_of_ble_eq_true rfl) ?_ rfl
  intro p e s m below meth c ls S hr hlocks hin hG hl
  have hl : lv_has ls 1 [(0, .int (-1))] := hl
  refine lv_iload_n S.1 S.2.1 dX7_isLabel_0 rfl (lv_at hl 0 rfl) ?_
  refine lv_bipush (v := 97) S.1 S.2.1 dX7_isLabel_1 (by decide) ?_
  refine lv_icmp_lt (tgt := 16) S.1 S.2.1 dX7_isLabel_3 (by decide) (fun _ => ?_) (fun c => absurd (by decide) c)
  refine lv_iconst (v := 0) S.1 S.2.1 dX7_isLabel_16 (by decide) ?_
  exact fx_zret S hr (rfl) hlocks () hG (rfl) dX7_isLabel_17
theorem i_X4_parseHead_X4 : ∀ w ∈ u_ws RX4 TX4 4, w ∈ wsX4_parseHead := by decide +kernel
theorem i_X4_parseHead_X5 : ∀ w ∈ u_ws RX5 TX5 7, w ∈ wsX4_parseHead := by decide +kernel
theorem k29_X4_parseHead {n : Nat} (hn : N0 + 231 ≤ n) (h0 : F (N0 + 2) = some (.inr (6, [.ref (N0 + 3), .int 0, .int 0, .ref (N0 + 4)]))) (h1 : F (N0 + 4) = some (.inr (7, [.ref (N0 + 5), .ref (N0 + 6), .ref (N0 + 7), .ref (N0 + 8), .ref (N0 + 9), .ref (N0 + 10), .int 0]))) : Met l yX4_parseHead wsX4_parseHead ({ frames := 1, cells := 0, slots := 0, locals := 20 }) (va_Pc [.ref (N0 + 2), .int (-1)] (fP N0 D vwCl (fty cI cC cL cD cII cTr cTm cIt cB) (fen ql) F n)) (fQi N0 D vwCl (fty cI cC cL cD cII cTr cTm cIt cB) (fun (r : Int32) (_ : Unit) => r = 0) (fun _ => F) (fun _ => n)) 0 0 (fA N0) := by
  refine fx_start 4 rfl rfl (Nat.le_of_ble_eq_true rfl) ?_ rfl
  intro p e s m below meth c ls S hr hlocks hin hG hl
  have hl : lv_has ls 4 [(0, .ref (N0 + 2)), (1, .int (-1))] := hl
  have lt_h0 := hG.1.lt h0
  have lt_h1 := hG.1.lt h1
  refine lv_aload_n S.1 S.2.1 dX4_parseHead_0 rfl (lv_at hl 0 rfl) ?_
  refine fx_cVi (As := []) (rest := []) S hG (k27_X4_current (by omega) h0) h0 rfl (cwV 0 S.2.2.2.2 gX4_parseHead_X4_current rfl rfl rfl (by decide +kernel) ⟨Nat.le_of_ble_eq_true rfl, Nat.le_of_ble_eq_true rfl⟩) rfl hl.1 rfl (Nat.le_of_ble_eq_true rfl) dX4_parseHead_1 ⟨Nat.le_of_ble_eq_true rfl, Nat.le_of_ble_eq_true rfl⟩ (fun rv_1 _ H locs hp hG => ?_)
  subst rv_1
  refine lv_istore_n (lv' := [(2, .int (-1)), (0, .ref (N0 + 2)), (1, .int (-1))]) S.1 S.2.1 dX4_parseHead_4 rfl hl (by decide) rfl (fun ls hl => ?_)
  refine lv_aload_n S.1 S.2.1 dX4_parseHead_5 rfl (lv_at hl 1 rfl) ?_
  refine gx_get (C := RX4) (T := TX4) (N := 4) S hG h0 i_X4_parseHead_X4 rfl 3 (by decide) (by decide +kernel) rfl dX4_parseHead_6 ?_
  refine gx_get (C := RX5) (T := TX5) (N := 7) S hG h1 i_X4_parseHead_X5 rfl 6 (by decide) (by decide +kernel) rfl dX4_parseHead_9 ?_
  refine lv_istore_n (lv' := [(3, .int 0), (2, .int (-1)), (0, .ref (N0 + 2)), (1, .int (-1))]) S.1 S.2.1 dX4_parseHead_12 rfl hl (by decide) rfl (fun ls hl => ?_)
  refine lv_iload_n S.1 S.2.1 dX4_parseHead_13 rfl (lv_at hl 1 rfl) ?_
  refine fx_cSNi (host := "TreeDiffer") (As := [.int (-1)]) (rest := []) S hG (k28_X7_isLabel (by omega)) ⟨(va_cnB 1 S.2.2.2.2 gX4_parseHead_X7_isLabel_n44 rfl rfl rfl (hG.nest (show _ ∈ fen2.2.2.1 from by decide)) (S.2.2.2.2 (.initialized RX7) (by decide +kernel)) (by decide +kernel) ⟨Nat.le_of_ble_eq_true rfl, Nat.le_of_ble_eq_true rfl⟩), S.2.2.2.2 (.static yX7_isLabel) (by decide +kernel), trivial⟩ rfl hl.1 rfl (Nat.le_of_ble_eq_true rfl) dX4_parseHead_14 ⟨Nat.le_of_ble_eq_true rfl, Nat.le_of_ble_eq_true rfl⟩ (fun rv_2 _ H locs hp hG => ?_)
  subst rv_2
  refine lv_if_eq (tgt := 30) S.1 S.2.1 dX4_parseHead_17 (by decide) (fun _ => ?_) (fun c => absurd (by decide) c)
  refine lv_iconst (v := 0) S.1 S.2.1 dX4_parseHead_30 (by decide) ?_
  exact fx_zret S hr (rfl) hlocks () hG (rfl) dX4_parseHead_31
theorem i_X4_parse_X4 : ∀ w ∈ u_ws RX4 TX4 4, w ∈ wsX4_parse := by decide +kernel
theorem i_X4_parse_X5 : ∀ w ∈ u_ws RX5 TX5 7, w ∈ wsX4_parse := by decide +kernel
theorem k30_X4_parse {n : Nat} (hn : N0 + 231 ≤ n) (h0 : F (N0 + 2) = some (.inr (6, [.ref (N0 + 3), .int 0, .int 0, .ref (N0 + 4)]))) (h1 : F (N0 + 4) = some (.inr (7, [.ref (N0 + 5), .ref (N0 + 6), .ref (N0 + 7), .ref (N0 + 8), .ref (N0 + 9), .ref (N0 + 10), .int 1]))) : Met l yX4_parse wsX4_parse ({ frames := 2, cells := 0, slots := 0, locals := 43 }) (va_Pc [.ref (N0 + 2)] (fP N0 D vwCl (fty cI cC cL cD cII cTr cTm cIt cB) (fen ql) F n)) (fQi N0 D vwCl (fty cI cC cL cD cII cTr cTm cIt cB) (fun (r : Int32) (_ : Unit) => r = 0) (fun _ => (fu (fu F (N0 + 2) (.inr (6, [.ref (N0 + 3), .int 0, .int 0, .ref (N0 + 4)]))) (N0 + 4) (.inr (7, [.ref (N0 + 5), .ref (N0 + 6), .ref (N0 + 7), .ref (N0 + 8), .ref (N0 + 9), .ref (N0 + 10), .int 0])))) (fun _ => n)) 0 0 (fA N0) := by
  refine fx_start 3 rfl rfl (Nat.le_of_ble_eq_true rfl) ?_ rfl
  intro p e s m below meth c ls S hr hlocks hin hG hl
  have hl : lv_has ls 3 [(0, .ref (N0 + 2))] := hl
  have lt_h0 := hG.1.lt h0
  have lt_h1 := hG.1.lt h1
  refine lv_aload_n S.1 S.2.1 dX4_parse_0 rfl (lv_at hl 0 rfl) ?_
  refine lv_iconst (v := 0) S.1 S.2.1 dX4_parse_1 (by decide) ?_
  refine gx_put (C := RX4) (T := TX4) (N := 4) (ty := .int) (v := .int 0) (fs' := [.ref (N0 + 3), .int 0, .int 0, .ref (N0 + 4)]) S hG h0 i_X4_parse_X4 rfl 2 (by decide) tyX4 tyX4_ok nmX4 (by decide +kernel) rfl (by decide +kernel) rfl rfl (Nat.le_of_ble_eq_true rfl) rfl dX4_parse_2 (fun H locs hG => ?_)
  refine lv_aload_n S.1 S.2.1 dX4_parse_5 rfl (lv_at hl 0 rfl) ?_
  refine gx_get (C := RX4) (T := TX4) (N := 4) S hG fu_s i_X4_parse_X4 rfl 3 (by decide) (by decide +kernel) rfl dX4_parse_6 ?_
  refine lv_iconst (v := 0) S.1 S.2.1 dX4_parse_9 (by decide) ?_
  refine gx_put (C := RX5) (T := TX5) (N := 7) (ty := .int) (v := .int 0) (fs' := [.ref (N0 + 5), .ref (N0 + 6), .ref (N0 + 7), .ref (N0 + 8), .ref (N0 + 9), .ref (N0 + 10), .int 0]) S hG (fu_at (by omega) h1) i_X4_parse_X5 rfl 6 (by decide) tyX5 tyX5_ok nmX5 (by decide +kernel) rfl (by decide +kernel) rfl rfl (Nat.le_of_ble_eq_true rfl) rfl dX4_parse_10 (fun H locs hG => ?_)
  refine lv_iconst (v := (-1)) S.1 S.2.1 dX4_parse_13 (by decide) ?_
  refine lv_istore_n (lv' := [(1, .int (-1)), (0, .ref (N0 + 2))]) S.1 S.2.1 dX4_parse_14 rfl hl (by decide) rfl (fun ls hl => ?_)
  refine lv_iconst (v := 0) S.1 S.2.1 dX4_parse_15 (by decide) ?_
  refine lv_istore_n (lv' := [(2, .int 0), (1, .int (-1)), (0, .ref (N0 + 2))]) S.1 S.2.1 dX4_parse_16 rfl hl (by decide) rfl (fun ls hl => ?_)
  refine lv_iload_n S.1 S.2.1 dX4_parse_17 rfl (lv_at hl 0 rfl) ?_
  refine lv_bipush (v := 20) S.1 S.2.1 dX4_parse_18 (by decide) ?_
  refine lv_icmp_gt (tgt := 99) S.1 S.2.1 dX4_parse_20 (by decide) (fun c => absurd c (by decide)) (fun _ => ?_)
  refine lv_aload_n S.1 S.2.1 dX4_parse_23 rfl (lv_at hl 2 rfl) ?_
  refine lv_iload_n S.1 S.2.1 dX4_parse_24 rfl (lv_at hl 1 rfl) ?_
  refine fx_cVi (As := [.int (-1)]) (rest := []) S hG (k29_X4_parseHead (by omega) (fu_at (by omega) fu_s) fu_s) (fu_at (by omega) fu_s) rfl (cwV 1 S.2.2.2.2 gX4_parse_X4_parseHead rfl rfl rfl (by decide +kernel) ⟨Nat.le_of_ble_eq_true rfl, Nat.le_of_ble_eq_true rfl⟩) rfl hl.1 rfl (Nat.le_of_ble_eq_true rfl) dX4_parse_25 ⟨Nat.le_of_ble_eq_true rfl, Nat.le_of_ble_eq_true rfl⟩ (fun rv_1 _ H locs hp hG => ?_)
  subst rv_1
  refine lv_if_ne (tgt := 33) S.1 S.2.1 dX4_parse_28 (by decide) (fun c => absurd (by decide) c) (fun _ => ?_)
  refine lv_iconst (v := 0) S.1 S.2.1 dX4_parse_31 (by decide) ?_
  exact fx_zret S hr (rfl) hlocks () hG (rfl) dX4_parse_32
theorem i_X7_read_X4 : ∀ w ∈ u_ws RX4 TX4 4, w ∈ wsX7_read := by decide +kernel
theorem i_X7_read_X7 : ∀ w ∈ u_ws RX7 TX7 10, w ∈ wsX7_read := by decide +kernel
theorem k31_X7_read {n : Nat} (hst : l.stackTraces = false) (hn : N0 + 231 ≤ n) (h0 : F N0 = some (.inr (9, [.ref (N0 + 1), .ref (N0 + 2), .ref (N0 + 11), .ref (N0 + 13), .ref (N0 + 63), .ref (N0 + 65), .ref (N0 + 85), .int (-1), .int (-1), .int 32]))) (h1 : F (N0 + 1) = some (.inl (cTr, 3, .inr (.inr (.inr (.inr (va_up (va_up (va_up (fun _ => none) 0 (some (N0 + 143))) 1 (some (N0 + 150))) 2 (some (N0 + 157))))))))) (h2 : F (N0 + 2) = some (.inr (6, [.ref (N0 + 3), .int 0, .int 0, .ref (N0 + 4)]))) (h3 : F (N0 + 4) = some (.inr (7, [.ref (N0 + 5), .ref (N0 + 6), .ref (N0 + 7), .ref (N0 + 8), .ref (N0 + 9), .ref (N0 + 10), .int 1]))) : vx_Met l yX7_read wsX7_read ({ frames := 6, cells := 1, slots := 6, locals := 82 }) (va_Pc [.ref N0, .int 0] (fP N0 D vwCl (fty cI cC cL cD cII cTr cTm cIt cB) (fen ql) F n)) (fNo N0 D vwCl (fty cI cC cL cD cII cTr cTm cIt cB) F n) (fXC N0 D vwCl (fty cI cC cL cD cII cTr cTm cIt cB) "java/lang/IllegalArgumentException" (fu (fu (fu F (N0 + 4) (.inr (7, [.ref (N0 + 5), .ref (N0 + 6), .ref (N0 + 7), .ref (N0 + 8), .ref (N0 + 9), .ref (N0 + 10), .int 0]))) (N0 + 2) (.inr (6, [.ref (N0 + 3), .int 0, .int 0, .ref (N0 + 4)]))) N0 (.inr (9, [.ref (N0 + 1), .ref (N0 + 2), .ref (N0 + 11), .ref (N0 + 13), .ref (N0 + 63), .ref (N0 + 65), .ref (N0 + 85), .int 0, .int (-1), .int 32]))) n) 1 6 (fA N0) := by
  refine fx_startX 4 rfl rfl (Nat.le_of_ble_eq_true rfl) ?_ rfl
  intro p e s m below meth c ls S htab hlocks hG hl
  have hl : lv_has ls 4 [(0, .ref N0), (1, .int 0)] := hl
  have lt_h0 := hG.1.lt h0
  have lt_h1 := hG.1.lt h1
  have lt_h2 := hG.1.lt h2
  have lt_h3 := hG.1.lt h3
  refine lv_aload_n S.1 S.2.1 dX7_read_0 rfl (lv_at hl 0 rfl) ?_
  refine lv_iload_n S.1 S.2.1 dX7_read_1 rfl (lv_at hl 1 rfl) ?_
  refine fx_cVr (As := [.int 0]) (rest := []) S hG (k26_X7_treeAt (by omega) h0 h1) h0 rfl (cwV 1 S.2.2.2.2 gX7_read_X7_treeAt rfl rfl rfl (by decide +kernel) ⟨Nat.le_of_ble_eq_true rfl, Nat.le_of_ble_eq_true rfl⟩) rfl hl.1 rfl (Nat.le_of_ble_eq_true rfl) dX7_read_2 ⟨Nat.le_of_ble_eq_true rfl, Nat.le_of_ble_eq_true rfl⟩ (fun rv_1 _ H locs hp hG => ?_)
  subst rv_1
  refine lv_astore_n (lv' := [(2, .ref (N0 + 143)), (0, .ref N0), (1, .int 0)]) S.1 S.2.1 dX7_read_5 rfl hl (by decide) rfl (fun ls hl => ?_)
  refine lv_aload_n S.1 S.2.1 dX7_read_6 rfl (lv_at hl 1 rfl) ?_
  refine gx_get (C := RX7) (T := TX7) (N := 10) S hG h0 i_X7_read_X7 rfl 1 (by decide) (by decide +kernel) rfl dX7_read_7 ?_
  refine fx_cVi (As := []) (rest := []) S hG (k30_X4_parse (by omega) h2 h3) h2 rfl (cwV 0 S.2.2.2.2 gX7_read_X4_parse rfl rfl rfl (by decide +kernel) ⟨Nat.le_of_ble_eq_true rfl, Nat.le_of_ble_eq_true rfl⟩) rfl hl.1 rfl (Nat.le_of_ble_eq_true rfl) dX7_read_10 ⟨Nat.le_of_ble_eq_true rfl, Nat.le_of_ble_eq_true rfl⟩ (fun rv_2 _ H locs hp hG => ?_)
  subst rv_2
  refine lv_istore_n (lv' := [(3, .int 0), (2, .ref (N0 + 143)), (0, .ref N0), (1, .int 0)]) S.1 S.2.1 dX7_read_13 rfl hl (by decide) rfl (fun ls hl => ?_)
  refine lv_aload_n S.1 S.2.1 dX7_read_14 rfl (lv_at hl 2 rfl) ?_
  refine gx_get (C := RX7) (T := TX7) (N := 10) S hG (fu_at (by omega) (fu_at (by omega) h0)) i_X7_read_X7 rfl 1 (by decide) (by decide +kernel) rfl dX7_read_15 ?_
  refine lv_iconst (v := 0) S.1 S.2.1 dX7_read_18 (by decide) ?_
  refine gx_put (C := RX4) (T := TX4) (N := 4) (ty := .int) (v := .int 0) (fs' := [.ref (N0 + 3), .int 0, .int 0, .ref (N0 + 4)]) S hG (fu_at (by omega) fu_s) i_X7_read_X4 rfl 1 (by decide) tyX4 tyX4_ok nmX4 (by decide +kernel) rfl (by decide +kernel) rfl rfl (Nat.le_of_ble_eq_true rfl) rfl dX7_read_19 (fun H locs hG => ?_)
  refine lv_iload_n S.1 S.2.1 dX7_read_22 rfl (lv_at hl 0 rfl) ?_
  refine lv_if_ne (tgt := 47) S.1 S.2.1 dX7_read_23 (by decide) (fun c => absurd (by decide) c) (fun _ => ?_)
  refine lv_aload_n S.1 S.2.1 dX7_read_26 rfl (lv_at hl 2 rfl) ?_
  refine lv_aload_n S.1 S.2.1 dX7_read_27 rfl (lv_at hl 2 rfl) ?_
  refine gx_get (C := RX7) (T := TX7) (N := 10) S hG (fu_at (by omega) (fu_at (by omega) (fu_at (by omega) h0))) i_X7_read_X7 rfl 1 (by decide) (by decide +kernel) rfl dX7_read_28 ?_
  refine gx_get (C := RX4) (T := TX4) (N := 4) S hG fu_s i_X7_read_X4 rfl 2 (by decide) (by decide +kernel) rfl dX7_read_31 ?_
  refine gx_put (C := RX7) (T := TX7) (N := 10) (ty := .int) (v := .int 0) (fs' := [.ref (N0 + 1), .ref (N0 + 2), .ref (N0 + 11), .ref (N0 + 13), .ref (N0 + 63), .ref (N0 + 65), .ref (N0 + 85), .int 0, .int (-1), .int 32]) S hG (fu_at (by omega) (fu_at (by omega) (fu_at (by omega) h0))) i_X7_read_X7 rfl 7 (by decide) tyX7 tyX7_ok nmX7 (by decide +kernel) rfl (by decide +kernel) rfl rfl (Nat.le_of_ble_eq_true rfl) rfl dX7_read_34 (fun H locs hG => ?_)
  have hG : fG N0 D vwCl (fty cI cC cL cD cII cTr cTm cIt cB) (fen ql) s (fu (fu (fu F (N0 + 4) (.inr (7, [.ref (N0 + 5), .ref (N0 + 6), .ref (N0 + 7), .ref (N0 + 8), .ref (N0 + 9), .ref (N0 + 10), .int 0]))) (N0 + 2) (.inr (6, [.ref (N0 + 3), .int 0, .int 0, .ref (N0 + 4)]))) N0 (.inr (9, [.ref (N0 + 1), .ref (N0 + 2), .ref (N0 + 11), .ref (N0 + 13), .ref (N0 + 63), .ref (N0 + 65), .ref (N0 + 85), .int 0, .int (-1), .int 32]))) n H locs := hG.weak (fun a e h => by
    rcases fu_cases h with ⟨rfl, he⟩ | ⟨hne0, h⟩
    · cases he; exact fu_s
    · skip
      rcases fu_cases h with ⟨rfl, he⟩ | ⟨hne1, h⟩
      · cases he; exact (fu_at (by omega) fu_s)
      · skip
        rcases fu_cases h with ⟨rfl, he⟩ | ⟨hne2, h⟩
        · cases he; exact (fu_at (by omega) (fu_at (by omega) fu_s))
        · exact (fu_at (by omega) (fu_at (by omega) (fu_at (by omega) (fu_at (by omega) h)))))
  exact fx_throw (text := "the text is wrong") S hG hl.1 hst (by decide) (by decide +kernel) (by decide +kernel) (List.mem_of_getElem? (i := 1) rfl) (by decide +kernel) (by decide +kernel) (by decide +kernel) (List.mem_of_getElem? (i := 1) rfl) (List.mem_of_getElem? (i := 0) rfl) (List.mem_of_getElem? (i := 1) rfl) (List.mem_of_getElem? (i := 2) rfl) dX7_read_37 dX7_read_40 dX7_read_41 dX7_read_43 dX7_read_46 htab (by decide) (Nat.le_of_ble_eq_true rfl) (by decide) (by decide) hlocks (by decide) (by decide)
theorem k32_L_read {n : Nat} (hst : l.stackTraces = false) (hn : N0 + 231 ≤ n) (h0 : F N0 = some (.inr (9, [.ref (N0 + 1), .ref (N0 + 2), .ref (N0 + 11), .ref (N0 + 13), .ref (N0 + 63), .ref (N0 + 65), .ref (N0 + 85), .int (-1), .int (-1), .int 32]))) (h1 : F (N0 + 1) = some (.inl (cTr, 3, .inr (.inr (.inr (.inr (va_up (va_up (va_up (fun _ => none) 0 (some (N0 + 143))) 1 (some (N0 + 150))) 2 (some (N0 + 157))))))))) (h2 : F (N0 + 2) = some (.inr (6, [.ref (N0 + 3), .int 0, .int 0, .ref (N0 + 4)]))) (h3 : F (N0 + 4) = some (.inr (7, [.ref (N0 + 5), .ref (N0 + 6), .ref (N0 + 7), .ref (N0 + 8), .ref (N0 + 9), .ref (N0 + 10), .int 1]))) : Met l yL_read wsL_read ({ frames := 7, cells := 1, slots := 6, locals := 105 }) (va_Pc [.ref N0, .int 0, .ref (N0 + 229)] (fP N0 D vwCl (fty cI cC cL cD cII cTr cTm cIt cB) (fen ql) F n)) (fQi N0 D vwCl (fty cI cC cL cD cII cTr cTm cIt cB) (fun (r : Int32) (u : Nat) => r = 2 ∧ n ≤ u) (fun _ => (fu (fu (fu F (N0 + 4) (.inr (7, [.ref (N0 + 5), .ref (N0 + 6), .ref (N0 + 7), .ref (N0 + 8), .ref (N0 + 9), .ref (N0 + 10), .int 0]))) (N0 + 2) (.inr (6, [.ref (N0 + 3), .int 0, .int 0, .ref (N0 + 4)]))) N0 (.inr (9, [.ref (N0 + 1), .ref (N0 + 2), .ref (N0 + 11), .ref (N0 + 13), .ref (N0 + 63), .ref (N0 + 65), .ref (N0 + 85), .int 0, .int (-1), .int 32])))) (fun u => u)) 1 6 (fA N0) := by
  refine fx_startW (hh := [(0, 9, 12, 19), (0, 9, 15, 21)]) 4 rfl rfl (Nat.le_of_ble_eq_true rfl) ?_ rfl
  intro p e s m below meth c ls S htab hr hlocks hG hl
  have hl : lv_has ls 4 [(0, .ref N0), (1, .int 0), (2, .ref (N0 + 229))] := hl
  have lt_h0 := hG.1.lt h0
  have lt_h1 := hG.1.lt h1
  have lt_h2 := hG.1.lt h2
  have lt_h3 := hG.1.lt h3
  refine lv_aload_n S.1 S.2.1 dL_read_0 rfl (lv_at hl 2 rfl) ?_
  refine lv_iconst (v := 0) S.1 S.2.1 dL_read_1 (by decide) ?_
  refine lv_aload_n S.1 S.2.1 dL_read_2 rfl (lv_at hl 0 rfl) ?_
  refine lv_iload_n S.1 S.2.1 dL_read_3 rfl (lv_at hl 1 rfl) ?_
  refine fx_xV (As := [.int 0]) (rest := [.int 0, .ref (N0 + 229)]) S hG (k31_X7_read hst (by omega) h0 h1 h2 h3) h0 rfl (cwV 1 S.2.2.2.2 gL_read_X7_read rfl rfl rfl (by decide +kernel) ⟨Nat.le_of_ble_eq_true rfl, Nat.le_of_ble_eq_true rfl⟩) rfl hl.1 rfl (Nat.le_of_ble_eq_true rfl) dL_read_4 ⟨Nat.le_of_ble_eq_true rfl, Nat.le_of_ble_eq_true rfl⟩ (fun ceq_1 q_1 H locs n_2 hn_2 hG h1q_1 h2q_1 h3q_1 => ?_)
  refine fx_catch (hh := [(0, 9, 12, 19), (0, 9, 15, 21)]) S htab hG h1q_1 h2q_1 h3q_1 [⟨0, 9, 12, 19⟩] ⟨0, 9, 15, 21⟩ [] rfl [] (fun z hz => by
    simp only [List.mem_cons, List.not_mem_nil, or_false] at hz
    rcases hz with rfl
    · exact ⟨by decide, "java/lang/IndexOutOfBoundsException", by decide +kernel, List.mem_of_getElem? (i := 5) rfl⟩) (by decide) (by decide) (by decide +kernel) (List.mem_of_getElem? (i := 1) rfl) ?_
  refine lv_astore_n (lv' := [(3, .ref q_1), (0, .ref N0), (1, .int 0), (2, .ref (N0 + 229))]) S.1 S.2.1 dL_read_15 rfl hl (by decide) rfl (fun ls hl => ?_)
  refine lv_iconst (v := 2) S.1 S.2.1 dL_read_16 (by decide) ?_
  exact fx_iret S hr hlocks n_2 hG (⟨rfl, hn_2⟩) dL_read_17
theorem k33_X10_isBetween {n : Nat} (hn : N0 + 231 ≤ n)  : Met l yX10_isBetween wsX10_isBetween ({ frames := 0, cells := 0, slots := 0, locals := 0 }) (va_Pc [.int 0, .int 0, .int 2] (fP N0 D vwCl (fty cI cC cL cD cII cTr cTm cIt cB) (fen ql) F n)) (fQi N0 D vwCl (fty cI cC cL cD cII cTr cTm cIt cB) (fun (r : Int32) (_ : Unit) => r = 1) (fun _ => F) (fun _ => n)) 0 0 (fA N0) := by
  refine fx_start 3 rfl rfl (Nat.le_of_ble_eq_true rfl) ?_ rfl
  intro p e s m below meth c ls S hr hlocks hin hG hl
  have hl : lv_has ls 3 [(0, .int 0), (1, .int 0), (2, .int 2)] := hl
  refine lv_iload_n S.1 S.2.1 dX10_isBetween_0 rfl (lv_at hl 1 rfl) ?_
  refine lv_iload_n S.1 S.2.1 dX10_isBetween_1 rfl (lv_at hl 0 rfl) ?_
  refine lv_icmp_gt (tgt := 14) S.1 S.2.1 dX10_isBetween_2 (by decide) (fun c => absurd c (by decide)) (fun _ => ?_)
  refine lv_iload_n S.1 S.2.1 dX10_isBetween_5 rfl (lv_at hl 0 rfl) ?_
  refine lv_iload_n S.1 S.2.1 dX10_isBetween_6 rfl (lv_at hl 2 rfl) ?_
  refine lv_icmp_gt (tgt := 14) S.1 S.2.1 dX10_isBetween_7 (by decide) (fun c => absurd c (by decide)) (fun _ => ?_)
  refine lv_iconst (v := 1) S.1 S.2.1 dX10_isBetween_10 (by decide) ?_
  refine lv_goto (tgt := 15) S.1 S.2.1 dX10_isBetween_11 (by decide) ?_
  exact fx_zret S hr (rfl) hlocks () hG (rfl) dX10_isBetween_15
theorem k34_X10_isTree {n : Nat} (hn : N0 + 231 ≤ n)  : Met l yX10_isTree wsX10_isTree ({ frames := 1, cells := 0, slots := 0, locals := 22 }) (va_Pc [.int 0] (fP N0 D vwCl (fty cI cC cL cD cII cTr cTm cIt cB) (fen ql) F n)) (fQi N0 D vwCl (fty cI cC cL cD cII cTr cTm cIt cB) (fun (r : Int32) (_ : Unit) => r = 1) (fun _ => F) (fun _ => n)) 0 0 (fA N0) := by
  refine fx_start 1 rfl rfl (Nat.le_of_ble_eq_true rfl) ?_ rfl
  intro p e s m below meth c ls S hr hlocks hin hG hl
  have hl : lv_has ls 1 [(0, .int 0)] := hl
  refine lv_iload_n S.1 S.2.1 dX10_isTree_0 rfl (lv_at hl 0 rfl) ?_
  refine lv_iconst (v := 0) S.1 S.2.1 dX10_isTree_1 (by decide) ?_
  refine lv_iconst (v := 2) S.1 S.2.1 dX10_isTree_2 (by decide) ?_
  refine fx_cSi (As := [.int 0, .int 0, .int 2]) (rest := []) S hG (k33_X10_isBetween (by omega)) (cwS 3 S.2.2.2.2 gX10_isTree_X10_isBetween rfl rfl rfl (by decide +kernel) ⟨Nat.le_of_ble_eq_true rfl, Nat.le_of_ble_eq_true rfl⟩) rfl hl.1 rfl (Nat.le_of_ble_eq_true rfl) dX10_isTree_3 ⟨Nat.le_of_ble_eq_true rfl, Nat.le_of_ble_eq_true rfl⟩ (fun rv_1 _ H locs hp hG => ?_)
  subst rv_1
  exact fx_zret S hr (rfl) hlocks () hG (rfl) dX10_isTree_6
theorem i_X10_sign_X10 : ∀ w ∈ u_ws RX10 TX10 31, w ∈ wsX10_sign := by decide +kernel
theorem k35_X10_sign {n : Nat} (hn : N0 + 231 ≤ n) (h0 : F (N0 + 164) = some (.inr (12, [.ref (N0 + 165), .int 0, .ref (N0 + 181), .int 0, .int 0, .int (-1), .int (-1), .ref (ql 24), .ref (N0 + 182), .ref (N0 + 187), .ref (N0 + 208), .ref (N0 + 209), .ref (N0 + 210), .ref (N0 + 211), .ref (N0 + 212), .int 0, .ref (N0 + 213), .ref (N0 + 218), .ref (N0 + 223), .ref (N0 + 224), .ref (N0 + 225), .ref (N0 + 226), .ref (N0 + 227), .int 0, .int 0, .ref (N0 + 228), .null, .int (-1), .int 0, .int 0, .int 0]))) : Met l yX10_sign wsX10_sign ({ frames := 0, cells := 0, slots := 0, locals := 0 }) (va_Pc [.ref (N0 + 164)] (fP N0 D vwCl (fty cI cC cL cD cII cTr cTm cIt cB) (fen ql) F n)) (fQi N0 D vwCl (fty cI cC cL cD cII cTr cTm cIt cB) (fun (r : Int32) (_ : Unit) => r = 0) (fun _ => F) (fun _ => n)) 0 0 (fA N0) := by
  refine fx_start 1 rfl rfl (Nat.le_of_ble_eq_true rfl) ?_ rfl
  intro p e s m below meth c ls S hr hlocks hin hG hl
  have hl : lv_has ls 1 [(0, .ref (N0 + 164))] := hl
  have lt_h0 := hG.1.lt h0
  refine lv_aload_n S.1 S.2.1 dX10_sign_0 rfl (lv_at hl 0 rfl) ?_
  refine gx_get (C := RX10) (T := TX10) (N := 31) S hG h0 i_X10_sign_X10 rfl 4 (by decide) (by decide +kernel) rfl dX10_sign_1 ?_
  refine lv_aload_n S.1 S.2.1 dX10_sign_4 rfl (lv_at hl 0 rfl) ?_
  refine gx_get (C := RX10) (T := TX10) (N := 31) S hG h0 i_X10_sign_X10 rfl 3 (by decide) (by decide +kernel) rfl dX10_sign_5 ?_
  refine lv_icmp_ge (tgt := 23) S.1 S.2.1 dX10_sign_8 (by decide) (fun _ => ?_) (fun c => absurd (by decide) c)
  refine lv_iconst (v := 0) S.1 S.2.1 dX10_sign_23 (by decide) ?_
  exact fx_zret S hr (rfl) hlocks () hG (rfl) dX10_sign_24
theorem i_X10_takes_X10 : ∀ w ∈ u_ws RX10 TX10 31, w ∈ wsX10_takes := by decide +kernel
theorem k36_X10_takes {n : Nat} (hn : N0 + 231 ≤ n) (h0 : F (N0 + 164) = some (.inr (12, [.ref (N0 + 165), .int 0, .ref (N0 + 181), .int 0, .int 0, .int (-1), .int (-1), .ref (ql 24), .ref (N0 + 182), .ref (N0 + 187), .ref (N0 + 208), .ref (N0 + 209), .ref (N0 + 210), .ref (N0 + 211), .ref (N0 + 212), .int 0, .ref (N0 + 213), .ref (N0 + 218), .ref (N0 + 223), .ref (N0 + 224), .ref (N0 + 225), .ref (N0 + 226), .ref (N0 + 227), .int 0, .int 0, .ref (N0 + 228), .null, .int (-1), .int 0, .int 0, .int 0]))) : Met l yX10_takes wsX10_takes ({ frames := 0, cells := 0, slots := 0, locals := 0 }) (va_Pc [.ref (N0 + 164), .int 97, .int 122] (fP N0 D vwCl (fty cI cC cL cD cII cTr cTm cIt cB) (fen ql) F n)) (fQi N0 D vwCl (fty cI cC cL cD cII cTr cTm cIt cB) (fun (r : Int32) (_ : Unit) => r = 0) (fun _ => F) (fun _ => n)) 0 0 (fA N0) := by
  refine fx_start 3 rfl rfl (Nat.le_of_ble_eq_true rfl) ?_ rfl
  intro p e s m below meth c ls S hr hlocks hin hG hl
  have hl : lv_has ls 3 [(0, .ref (N0 + 164)), (1, .int 97), (2, .int 122)] := hl
  have lt_h0 := hG.1.lt h0
  refine lv_aload_n S.1 S.2.1 dX10_takes_0 rfl (lv_at hl 0 rfl) ?_
  refine gx_get (C := RX10) (T := TX10) (N := 31) S hG h0 i_X10_takes_X10 rfl 5 (by decide) (by decide +kernel) rfl dX10_takes_1 ?_
  refine lv_if_ge (tgt := 34) S.1 S.2.1 dX10_takes_4 (by decide) (fun c => absurd c (by decide)) (fun _ => ?_)
  refine lv_aload_n S.1 S.2.1 dX10_takes_7 rfl (lv_at hl 0 rfl) ?_
  refine gx_get (C := RX10) (T := TX10) (N := 31) S hG h0 i_X10_takes_X10 rfl 4 (by decide) (by decide +kernel) rfl dX10_takes_8 ?_
  refine lv_aload_n S.1 S.2.1 dX10_takes_11 rfl (lv_at hl 0 rfl) ?_
  refine gx_get (C := RX10) (T := TX10) (N := 31) S hG h0 i_X10_takes_X10 rfl 3 (by decide) (by decide +kernel) rfl dX10_takes_12 ?_
  refine lv_icmp_eq (tgt := 34) S.1 S.2.1 dX10_takes_15 (by decide) (fun _ => ?_) (fun c => absurd (by decide) c)
  refine lv_iconst (v := 0) S.1 S.2.1 dX10_takes_34 (by decide) ?_
  exact fx_zret S hr (rfl) hlocks () hG (rfl) dX10_takes_35
theorem i_X10_isFaulty_X10 : ∀ w ∈ u_ws RX10 TX10 31, w ∈ wsX10_isFaulty := by decide +kernel
theorem k37_X10_isFaulty {n : Nat} (hn : N0 + 231 ≤ n) (h0 : F (N0 + 164) = some (.inr (12, [.ref (N0 + 165), .int 0, .ref (N0 + 181), .int 0, .int 0, .int (-1), .int (-1), .ref (ql 24), .ref (N0 + 182), .ref (N0 + 187), .ref (N0 + 208), .ref (N0 + 209), .ref (N0 + 210), .ref (N0 + 211), .ref (N0 + 212), .int 0, .ref (N0 + 213), .ref (N0 + 218), .ref (N0 + 223), .ref (N0 + 224), .ref (N0 + 225), .ref (N0 + 226), .ref (N0 + 227), .int 0, .int 0, .ref (N0 + 228), .null, .int (-1), .int 0, .int 0, .int 0]))) : Met l yX10_isFaulty wsX10_isFaulty ({ frames := 0, cells := 0, slots := 0, locals := 0 }) (va_Pc [.ref (N0 + 164)] (fP N0 D vwCl (fty cI cC cL cD cII cTr cTm cIt cB) (fen ql) F n)) (fQv N0 D vwCl (fty cI cC cL cD cII cTr cTm cIt cB) (fun (_ : Unit) => True) (fun _ => (fu F (N0 + 164) (.inr (12, [.ref (N0 + 165), .int 0, .ref (N0 + 181), .int 0, .int 0, .int 0, .int (-1), .ref (ql 24), .ref (N0 + 182), .ref (N0 + 187), .ref (N0 + 208), .ref (N0 + 209), .ref (N0 + 210), .ref (N0 + 211), .ref (N0 + 212), .int 0, .ref (N0 + 213), .ref (N0 + 218), .ref (N0 + 223), .ref (N0 + 224), .ref (N0 + 225), .ref (N0 + 226), .ref (N0 + 227), .int 0, .int 0, .ref (N0 + 228), .null, .int (-1), .int 0, .int 0, .int 0])))) (fun _ => n)) 0 0 (fA N0) := by
  refine fx_start 1 rfl rfl (Nat.le_of_ble_eq_true rfl) ?_ rfl
  intro p e s m below meth c ls S hr hlocks hin hG hl
  have hl : lv_has ls 1 [(0, .ref (N0 + 164))] := hl
  have lt_h0 := hG.1.lt h0
  refine lv_aload_n S.1 S.2.1 dX10_isFaulty_0 rfl (lv_at hl 0 rfl) ?_
  refine lv_aload_n S.1 S.2.1 dX10_isFaulty_1 rfl (lv_at hl 0 rfl) ?_
  refine gx_get (C := RX10) (T := TX10) (N := 31) S hG h0 i_X10_isFaulty_X10 rfl 5 (by decide) (by decide +kernel) rfl dX10_isFaulty_2 ?_
  refine lv_if_ge (tgt := 15) S.1 S.2.1 dX10_isFaulty_5 (by decide) (fun c => absurd c (by decide)) (fun _ => ?_)
  refine lv_aload_n S.1 S.2.1 dX10_isFaulty_8 rfl (lv_at hl 0 rfl) ?_
  refine gx_get (C := RX10) (T := TX10) (N := 31) S hG h0 i_X10_isFaulty_X10 rfl 4 (by decide) (by decide +kernel) rfl dX10_isFaulty_9 ?_
  refine lv_goto (tgt := 19) S.1 S.2.1 dX10_isFaulty_12 (by decide) ?_
  refine gx_put (C := RX10) (T := TX10) (N := 31) (ty := .int) (v := .int 0) (fs' := [.ref (N0 + 165), .int 0, .ref (N0 + 181), .int 0, .int 0, .int 0, .int (-1), .ref (ql 24), .ref (N0 + 182), .ref (N0 + 187), .ref (N0 + 208), .ref (N0 + 209), .ref (N0 + 210), .ref (N0 + 211), .ref (N0 + 212), .int 0, .ref (N0 + 213), .ref (N0 + 218), .ref (N0 + 223), .ref (N0 + 224), .ref (N0 + 225), .ref (N0 + 226), .ref (N0 + 227), .int 0, .int 0, .ref (N0 + 228), .null, .int (-1), .int 0, .int 0, .int 0]) S hG h0 i_X10_isFaulty_X10 rfl 5 (by decide) tyX10 tyX10_ok nmX10 (by decide +kernel) rfl (by decide +kernel) rfl rfl (Nat.le_of_ble_eq_true rfl) rfl dX10_isFaulty_19 (fun H locs hG => ?_)
  exact fx_vret S hr hlocks () hG trivial dX10_isFaulty_22
theorem i_X10_readsNode_X10 : ∀ w ∈ u_ws RX10 TX10 31, w ∈ wsX10_readsNode := by decide +kernel
theorem i_X10_readsNode_X9 : ∀ w ∈ u_ws RX9 TX9 5, w ∈ wsX10_readsNode := by decide +kernel
theorem k38_X10_readsNode {n : Nat} (hn : N0 + 231 ≤ n) (h0 : F (N0 + 164) = some (.inr (12, [.ref (N0 + 165), .int 0, .ref (N0 + 181), .int 0, .int 0, .int (-1), .int (-1), .ref (ql 24), .ref (N0 + 182), .ref (N0 + 187), .ref (N0 + 208), .ref (N0 + 209), .ref (N0 + 210), .ref (N0 + 211), .ref (N0 + 212), .int 0, .ref (N0 + 213), .ref (N0 + 218), .ref (N0 + 223), .ref (N0 + 224), .ref (N0 + 225), .ref (N0 + 226), .ref (N0 + 227), .int 0, .int 0, .ref (N0 + 228), .null, .int (-1), .int 0, .int 0, .int 0]))) (h1 : F (N0 + 182) = some (.inr (11, [.ref (N0 + 183), .ref (N0 + 184), .ref (N0 + 185), .ref (N0 + 186), .int 0]))) : Met l yX10_readsNode wsX10_readsNode ({ frames := 1, cells := 0, slots := 0, locals := 22 }) (va_Pc [.ref (N0 + 164), .int (-1)] (fP N0 D vwCl (fty cI cC cL cD cII cTr cTm cIt cB) (fen ql) F n)) (fQv N0 D vwCl (fty cI cC cL cD cII cTr cTm cIt cB) (fun (_ : Unit) => True) (fun _ => (fu F (N0 + 164) (.inr (12, [.ref (N0 + 165), .int 0, .ref (N0 + 181), .int 0, .int 0, .int 0, .int (-1), .ref (ql 24), .ref (N0 + 182), .ref (N0 + 187), .ref (N0 + 208), .ref (N0 + 209), .ref (N0 + 210), .ref (N0 + 211), .ref (N0 + 212), .int 0, .ref (N0 + 213), .ref (N0 + 218), .ref (N0 + 223), .ref (N0 + 224), .ref (N0 + 225), .ref (N0 + 226), .ref (N0 + 227), .int 0, .int 0, .ref (N0 + 228), .null, .int (-1), .int 0, .int 0, .int 0])))) (fun _ => n)) 0 0 (fA N0) := by
  refine fx_start 6 rfl rfl (Nat.le_of_ble_eq_true rfl) ?_ rfl
  intro p e s m below meth c ls S hr hlocks hin hG hl
  have hl : lv_has ls 6 [(0, .ref (N0 + 164)), (1, .int (-1))] := hl
  have lt_h0 := hG.1.lt h0
  have lt_h1 := hG.1.lt h1
  refine lv_aload_n S.1 S.2.1 dX10_readsNode_0 rfl (lv_at hl 0 rfl) ?_
  refine gx_get (C := RX10) (T := TX10) (N := 31) S hG h0 i_X10_readsNode_X10 rfl 5 (by decide) (by decide +kernel) rfl dX10_readsNode_1 ?_
  refine lv_if_lt (tgt := 8) S.1 S.2.1 dX10_readsNode_4 (by decide) (fun _ => ?_) (fun c => absurd (by decide) c)
  refine lv_aload_n S.1 S.2.1 dX10_readsNode_8 rfl (lv_at hl 0 rfl) ?_
  refine fx_cVi (As := []) (rest := []) S hG (k35_X10_sign (by omega) h0) h0 rfl (cwV 0 S.2.2.2.2 gX10_readsNode_X10_sign rfl rfl rfl (by decide +kernel) ⟨Nat.le_of_ble_eq_true rfl, Nat.le_of_ble_eq_true rfl⟩) rfl hl.1 rfl (Nat.le_of_ble_eq_true rfl) dX10_readsNode_9 ⟨Nat.le_of_ble_eq_true rfl, Nat.le_of_ble_eq_true rfl⟩ (fun rv_1 _ H locs hp hG => ?_)
  subst rv_1
  refine lv_istore_n (lv' := [(2, .int 0), (0, .ref (N0 + 164)), (1, .int (-1))]) S.1 S.2.1 dX10_readsNode_12 rfl hl (by decide) rfl (fun ls hl => ?_)
  refine lv_aload_n S.1 S.2.1 dX10_readsNode_13 rfl (lv_at hl 1 rfl) ?_
  refine gx_get (C := RX10) (T := TX10) (N := 31) S hG h0 i_X10_readsNode_X10 rfl 8 (by decide) (by decide +kernel) rfl dX10_readsNode_14 ?_
  refine gx_getN (C := RX9) (T := TX9) (N := 5) S hG h1 i_X10_readsNode_X9 rfl 4 (by decide) (List.mem_of_getElem? (i := 4) rfl) rfl dX10_readsNode_17 ?_
  refine lv_bipush (v := 20) S.1 S.2.1 dX10_readsNode_20 (by decide) ?_
  refine lv_icmp_eq (tgt := 36) S.1 S.2.1 dX10_readsNode_22 (by decide) (fun c => absurd c (by decide)) (fun _ => ?_)
  refine lv_aload_n S.1 S.2.1 dX10_readsNode_25 rfl (lv_at hl 1 rfl) ?_
  refine lv_bipush (v := 97) S.1 S.2.1 dX10_readsNode_26 (by decide) ?_
  refine lv_bipush (v := 122) S.1 S.2.1 dX10_readsNode_28 (by decide) ?_
  refine fx_cVi (As := [.int 97, .int 122]) (rest := []) S hG (k36_X10_takes (by omega) h0) h0 rfl (cwV 2 S.2.2.2.2 gX10_readsNode_X10_takes rfl rfl rfl (by decide +kernel) ⟨Nat.le_of_ble_eq_true rfl, Nat.le_of_ble_eq_true rfl⟩) rfl hl.1 rfl (Nat.le_of_ble_eq_true rfl) dX10_readsNode_30 ⟨Nat.le_of_ble_eq_true rfl, Nat.le_of_ble_eq_true rfl⟩ (fun rv_2 _ H locs hp hG => ?_)
  subst rv_2
  refine lv_if_ne (tgt := 41) S.1 S.2.1 dX10_readsNode_33 (by decide) (fun c => absurd (by decide) c) (fun _ => ?_)
  refine lv_aload_n S.1 S.2.1 dX10_readsNode_36 rfl (lv_at hl 1 rfl) ?_
  refine fx_cVv (As := []) (rest := []) S hG (k37_X10_isFaulty (by omega) h0) h0 rfl (cwV 0 S.2.2.2.2 gX10_readsNode_X10_isFaulty rfl rfl rfl (by decide +kernel) ⟨Nat.le_of_ble_eq_true rfl, Nat.le_of_ble_eq_true rfl⟩) rfl hl.1 rfl (Nat.le_of_ble_eq_true rfl) dX10_readsNode_37 ⟨Nat.le_of_ble_eq_true rfl, Nat.le_of_ble_eq_true rfl⟩ (fun _ H locs hp hG => ?_)
  exact fx_vret S hr hlocks () hG trivial dX10_readsNode_40
theorem k39_X10_fails {n : Nat} (hn : N0 + 231 ≤ n) (h0 : F (N0 + 164) = some (.inr (12, [.ref (N0 + 165), .int 0, .ref (N0 + 181), .int 0, .int 0, .int 0, .int 0, .ref (ql 24), .ref (N0 + 182), .ref (N0 + 187), .ref (N0 + 208), .ref (N0 + 209), .ref (N0 + 210), .ref (N0 + 211), .ref (N0 + 212), .int 0, .ref (N0 + 213), .ref (N0 + 218), .ref (N0 + 223), .ref (N0 + 224), .ref (N0 + 225), .ref (N0 + 226), .ref (N0 + 227), .int 0, .int 0, .ref (N0 + 228), .null, .int (-1), .int 0, .int 0, .int 0]))) : Met l yX10_fails wsX10_fails ({ frames := 0, cells := 0, slots := 0, locals := 0 }) (va_Pc [.ref (N0 + 164), .int 2] (fP N0 D vwCl (fty cI cC cL cD cII cTr cTm cIt cB) (fen ql) F n)) (fQi N0 D vwCl (fty cI cC cL cD cII cTr cTm cIt cB) (fun (r : Int32) (_ : Unit) => r = 0) (fun _ => (fu F (N0 + 164) (.inr (12, [.ref (N0 + 165), .int 2, .ref (N0 + 181), .int 0, .int 0, .int 0, .int 0, .ref (ql 24), .ref (N0 + 182), .ref (N0 + 187), .ref (N0 + 208), .ref (N0 + 209), .ref (N0 + 210), .ref (N0 + 211), .ref (N0 + 212), .int 0, .ref (N0 + 213), .ref (N0 + 218), .ref (N0 + 223), .ref (N0 + 224), .ref (N0 + 225), .ref (N0 + 226), .ref (N0 + 227), .int 0, .int 0, .ref (N0 + 228), .null, .int (-1), .int 0, .int 0, .int 0])))) (fun _ => n)) 0 0 (fA N0) := by
  refine fx_start 2 rfl rfl (Nat.le_of_ble_eq_true rfl) ?_ rfl
  intro p e s m below meth c ls S hr hlocks hin hG hl
  have hl : lv_has ls 2 [(0, .ref (N0 + 164)), (1, .int 2)] := hl
  have lt_h0 := hG.1.lt h0
  refine lv_aload_n S.1 S.2.1 dX10_fails_0 rfl (lv_at hl 0 rfl) ?_
  refine lv_iload_n S.1 S.2.1 dX10_fails_1 rfl (lv_at hl 1 rfl) ?_
  refine gx_put (C := RX10) (T := TX10) (N := 31) (ty := .int) (v := .int 2) (fs' := [.ref (N0 + 165), .int 2, .ref (N0 + 181), .int 0, .int 0, .int 0, .int 0, .ref (ql 24), .ref (N0 + 182), .ref (N0 + 187), .ref (N0 + 208), .ref (N0 + 209), .ref (N0 + 210), .ref (N0 + 211), .ref (N0 + 212), .int 0, .ref (N0 + 213), .ref (N0 + 218), .ref (N0 + 223), .ref (N0 + 224), .ref (N0 + 225), .ref (N0 + 226), .ref (N0 + 227), .int 0, .int 0, .ref (N0 + 228), .null, .int (-1), .int 0, .int 0, .int 0]) S hG h0 i_X10_fails_X10 rfl 1 (by decide) tyX10 tyX10_ok nmX10 (by decide +kernel) rfl (by decide +kernel) rfl rfl (Nat.le_of_ble_eq_true rfl) rfl dX10_fails_2 (fun H locs hG => ?_)
  refine lv_iconst (v := 0) S.1 S.2.1 dX10_fails_5 (by decide) ?_
  exact fx_iret S hr hlocks () hG (rfl) dX10_fails_6
theorem i_X10_read_X9 : ∀ w ∈ u_ws RX9 TX9 5, w ∈ wsX10_read := by decide +kernel
theorem k40_X10_read {n : Nat} (hn : N0 + 231 ≤ n) (h0 : F (N0 + 164) = some (.inr (12, [.ref (N0 + 165), .int 0, .ref (N0 + 181), .int 0, .int 0, .int 0, .int (-1), .ref (ql 24), .ref (N0 + 182), .ref (N0 + 187), .ref (N0 + 208), .ref (N0 + 209), .ref (N0 + 210), .ref (N0 + 211), .ref (N0 + 212), .int 0, .ref (N0 + 213), .ref (N0 + 218), .ref (N0 + 223), .ref (N0 + 224), .ref (N0 + 225), .ref (N0 + 226), .ref (N0 + 227), .int 0, .int 0, .ref (N0 + 228), .null, .int (-1), .int 0, .int 0, .int 0]))) (h1 : F (N0 + 182) = some (.inr (11, [.ref (N0 + 183), .ref (N0 + 184), .ref (N0 + 185), .ref (N0 + 186), .int 0]))) : Met l yX10_read wsX10_read ({ frames := 2, cells := 0, slots := 0, locals := 47 }) (va_Pc [.ref (N0 + 164), .int 0] (fP N0 D vwCl (fty cI cC cL cD cII cTr cTm cIt cB) (fen ql) F n)) (fQi N0 D vwCl (fty cI cC cL cD cII cTr cTm cIt cB) (fun (r : Int32) (_ : Unit) => r = 0) (fun _ => (fu (fu F (N0 + 182) (.inr (11, [.ref (N0 + 183), .ref (N0 + 184), .ref (N0 + 185), .ref (N0 + 186), .int 0]))) (N0 + 164) (.inr (12, [.ref (N0 + 165), .int 2, .ref (N0 + 181), .int 0, .int 0, .int 0, .int 0, .ref (ql 24), .ref (N0 + 182), .ref (N0 + 187), .ref (N0 + 208), .ref (N0 + 209), .ref (N0 + 210), .ref (N0 + 211), .ref (N0 + 212), .int 0, .ref (N0 + 213), .ref (N0 + 218), .ref (N0 + 223), .ref (N0 + 224), .ref (N0 + 225), .ref (N0 + 226), .ref (N0 + 227), .int 0, .int 0, .ref (N0 + 228), .null, .int (-1), .int 0, .int 0, .int 0])))) (fun _ => n)) 0 0 (fA N0) := by
  refine fx_start 2 rfl rfl (Nat.le_of_ble_eq_true rfl) ?_ rfl
  intro p e s m below meth c ls S hr hlocks hin hG hl
  have hl : lv_has ls 2 [(0, .ref (N0 + 164)), (1, .int 0)] := hl
  have lt_h0 := hG.1.lt h0
  have lt_h1 := hG.1.lt h1
  refine lv_aload_n S.1 S.2.1 dX10_read_0 rfl (lv_at hl 0 rfl) ?_
  refine lv_iconst (v := 0) S.1 S.2.1 dX10_read_1 (by decide) ?_
  refine gx_put (C := RX10) (T := TX10) (N := 31) (ty := .int) (v := .int 0) (fs' := [.ref (N0 + 165), .int 0, .ref (N0 + 181), .int 0, .int 0, .int 0, .int (-1), .ref (ql 24), .ref (N0 + 182), .ref (N0 + 187), .ref (N0 + 208), .ref (N0 + 209), .ref (N0 + 210), .ref (N0 + 211), .ref (N0 + 212), .int 0, .ref (N0 + 213), .ref (N0 + 218), .ref (N0 + 223), .ref (N0 + 224), .ref (N0 + 225), .ref (N0 + 226), .ref (N0 + 227), .int 0, .int 0, .ref (N0 + 228), .null, .int (-1), .int 0, .int 0, .int 0]) S hG h0 i_X10_read_X10 rfl 1 (by decide) tyX10 tyX10_ok nmX10 (by decide +kernel) rfl (by decide +kernel) rfl rfl (Nat.le_of_ble_eq_true rfl) rfl dX10_read_2 (fun H locs hG => ?_)
  refine lv_iload_n S.1 S.2.1 dX10_read_5 rfl (lv_at hl 1 rfl) ?_
  refine fx_cSi (As := [.int 0]) (rest := []) S hG (k34_X10_isTree (by omega)) (cwS 1 S.2.2.2.2 gX10_read_X10_isTree rfl rfl rfl (by decide +kernel) ⟨Nat.le_of_ble_eq_true rfl, Nat.le_of_ble_eq_true rfl⟩) rfl hl.1 rfl (Nat.le_of_ble_eq_true rfl) dX10_read_6 ⟨Nat.le_of_ble_eq_true rfl, Nat.le_of_ble_eq_true rfl⟩ (fun rv_1 _ H locs hp hG => ?_)
  subst rv_1
  refine lv_if_ne (tgt := 18) S.1 S.2.1 dX10_read_9 (by decide) (fun _ => ?_) (fun c => absurd c (by decide))
  refine lv_aload_n S.1 S.2.1 dX10_read_18 rfl (lv_at hl 0 rfl) ?_
  refine lv_iconst (v := 0) S.1 S.2.1 dX10_read_19 (by decide) ?_
  refine gx_put (C := RX10) (T := TX10) (N := 31) (ty := .int) (v := .int 0) (fs' := [.ref (N0 + 165), .int 0, .ref (N0 + 181), .int 0, .int 0, .int 0, .int (-1), .ref (ql 24), .ref (N0 + 182), .ref (N0 + 187), .ref (N0 + 208), .ref (N0 + 209), .ref (N0 + 210), .ref (N0 + 211), .ref (N0 + 212), .int 0, .ref (N0 + 213), .ref (N0 + 218), .ref (N0 + 223), .ref (N0 + 224), .ref (N0 + 225), .ref (N0 + 226), .ref (N0 + 227), .int 0, .int 0, .ref (N0 + 228), .null, .int (-1), .int 0, .int 0, .int 0]) S hG fu_s i_X10_read_X10 rfl 4 (by decide) tyX10 tyX10_ok nmX10 (by decide +kernel) rfl (by decide +kernel) rfl rfl (Nat.le_of_ble_eq_true rfl) rfl dX10_read_20 (fun H locs hG => ?_)
  refine lv_aload_n S.1 S.2.1 dX10_read_23 rfl (lv_at hl 0 rfl) ?_
  refine lv_iconst (v := (-1)) S.1 S.2.1 dX10_read_24 (by decide) ?_
  refine gx_put (C := RX10) (T := TX10) (N := 31) (ty := .int) (v := .int (-1)) (fs' := [.ref (N0 + 165), .int 0, .ref (N0 + 181), .int 0, .int 0, .int (-1), .int (-1), .ref (ql 24), .ref (N0 + 182), .ref (N0 + 187), .ref (N0 + 208), .ref (N0 + 209), .ref (N0 + 210), .ref (N0 + 211), .ref (N0 + 212), .int 0, .ref (N0 + 213), .ref (N0 + 218), .ref (N0 + 223), .ref (N0 + 224), .ref (N0 + 225), .ref (N0 + 226), .ref (N0 + 227), .int 0, .int 0, .ref (N0 + 228), .null, .int (-1), .int 0, .int 0, .int 0]) S hG fu_s i_X10_read_X10 rfl 5 (by decide) tyX10 tyX10_ok nmX10 (by decide +kernel) rfl (by decide +kernel) rfl rfl (Nat.le_of_ble_eq_true rfl) rfl dX10_read_25 (fun H locs hG => ?_)
  refine lv_aload_n S.1 S.2.1 dX10_read_28 rfl (lv_at hl 0 rfl) ?_
  refine gx_get (C := RX10) (T := TX10) (N := 31) S hG fu_s i_X10_read_X10 rfl 8 (by decide) (by decide +kernel) rfl dX10_read_29 ?_
  refine lv_iconst (v := 0) S.1 S.2.1 dX10_read_32 (by decide) ?_
  refine gx_putN (C := RX9) (T := TX9) (N := 5) (ty := .int) (v := .int 0) (fs' := [.ref (N0 + 183), .ref (N0 + 184), .ref (N0 + 185), .ref (N0 + 186), .int 0]) S hG (fu_at (by omega) (fu_at (by omega) (fu_at (by omega) h1))) i_X10_read_X9 rfl 4 (by decide) tyX9 tyX9_ok nmX9 (List.mem_of_getElem? (i := 4) rfl) rfl (by decide +kernel) rfl rfl (Nat.le_of_ble_eq_true rfl) rfl dX10_read_33 (fun H locs hG => ?_)
  refine lv_aload_n S.1 S.2.1 dX10_read_36 rfl (lv_at hl 0 rfl) ?_
  refine lv_iconst (v := (-1)) S.1 S.2.1 dX10_read_37 (by decide) ?_
  refine fx_cVv (As := [.int (-1)]) (rest := []) S hG (k38_X10_readsNode (by omega) (fu_at (by omega) fu_s) fu_s) (fu_at (by omega) fu_s) rfl (cwV 1 S.2.2.2.2 gX10_read_X10_readsNode rfl rfl rfl (by decide +kernel) ⟨Nat.le_of_ble_eq_true rfl, Nat.le_of_ble_eq_true rfl⟩) rfl hl.1 rfl (Nat.le_of_ble_eq_true rfl) dX10_read_38 ⟨Nat.le_of_ble_eq_true rfl, Nat.le_of_ble_eq_true rfl⟩ (fun _ H locs hp hG => ?_)
  refine lv_aload_n S.1 S.2.1 dX10_read_41 rfl (lv_at hl 0 rfl) ?_
  refine gx_get (C := RX10) (T := TX10) (N := 31) S hG fu_s i_X10_read_X10 rfl 4 (by decide) (by decide +kernel) rfl dX10_read_42 ?_
  refine lv_aload_n S.1 S.2.1 dX10_read_45 rfl (lv_at hl 0 rfl) ?_
  refine gx_get (C := RX10) (T := TX10) (N := 31) S hG fu_s i_X10_read_X10 rfl 3 (by decide) (by decide +kernel) rfl dX10_read_46 ?_
  refine lv_icmp_ge (tgt := 56) S.1 S.2.1 dX10_read_49 (by decide) (fun _ => ?_) (fun c => absurd (by decide) c)
  refine lv_aload_n S.1 S.2.1 dX10_read_56 rfl (lv_at hl 0 rfl) ?_
  refine lv_iconst (v := 0) S.1 S.2.1 dX10_read_57 (by decide) ?_
  refine gx_put (C := RX10) (T := TX10) (N := 31) (ty := .int) (v := .int 0) (fs' := [.ref (N0 + 165), .int 0, .ref (N0 + 181), .int 0, .int 0, .int 0, .int (-1), .ref (ql 24), .ref (N0 + 182), .ref (N0 + 187), .ref (N0 + 208), .ref (N0 + 209), .ref (N0 + 210), .ref (N0 + 211), .ref (N0 + 212), .int 0, .ref (N0 + 213), .ref (N0 + 218), .ref (N0 + 223), .ref (N0 + 224), .ref (N0 + 225), .ref (N0 + 226), .ref (N0 + 227), .int 0, .int 0, .ref (N0 + 228), .null, .int (-1), .int 0, .int 0, .int 0]) S hG fu_s i_X10_read_X10 rfl 3 (by decide) tyX10 tyX10_ok nmX10 (by decide +kernel) rfl (by decide +kernel) rfl rfl (Nat.le_of_ble_eq_true rfl) rfl dX10_read_58 (fun H locs hG => ?_)
  refine lv_aload_n S.1 S.2.1 dX10_read_61 rfl (lv_at hl 0 rfl) ?_
  refine gx_get (C := RX10) (T := TX10) (N := 31) S hG fu_s i_X10_read_X10 rfl 5 (by decide) (by decide +kernel) rfl dX10_read_62 ?_
  refine lv_if_lt (tgt := 82) S.1 S.2.1 dX10_read_65 (by decide) (fun c => absurd c (by decide)) (fun _ => ?_)
  refine lv_aload_n S.1 S.2.1 dX10_read_68 rfl (lv_at hl 0 rfl) ?_
  refine lv_aload_n S.1 S.2.1 dX10_read_69 rfl (lv_at hl 0 rfl) ?_
  refine gx_get (C := RX10) (T := TX10) (N := 31) S hG fu_s i_X10_read_X10 rfl 5 (by decide) (by decide +kernel) rfl dX10_read_70 ?_
  refine gx_put (C := RX10) (T := TX10) (N := 31) (ty := .int) (v := .int 0) (fs' := [.ref (N0 + 165), .int 0, .ref (N0 + 181), .int 0, .int 0, .int 0, .int 0, .ref (ql 24), .ref (N0 + 182), .ref (N0 + 187), .ref (N0 + 208), .ref (N0 + 209), .ref (N0 + 210), .ref (N0 + 211), .ref (N0 + 212), .int 0, .ref (N0 + 213), .ref (N0 + 218), .ref (N0 + 223), .ref (N0 + 224), .ref (N0 + 225), .ref (N0 + 226), .ref (N0 + 227), .int 0, .int 0, .ref (N0 + 228), .null, .int (-1), .int 0, .int 0, .int 0]) S hG fu_s i_X10_read_X10 rfl 6 (by decide) tyX10 tyX10_ok nmX10 (by decide +kernel) rfl (by decide +kernel) rfl rfl (Nat.le_of_ble_eq_true rfl) rfl dX10_read_73 (fun H locs hG => ?_)
  refine lv_aload_n S.1 S.2.1 dX10_read_76 rfl (lv_at hl 0 rfl) ?_
  refine lv_iconst (v := 2) S.1 S.2.1 dX10_read_77 (by decide) ?_
  refine fx_cVi (As := [.int 2]) (rest := []) S hG (k39_X10_fails (by omega) fu_s) fu_s rfl (cwV 1 S.2.2.2.2 gX10_read_X10_fails rfl rfl rfl (by decide +kernel) ⟨Nat.le_of_ble_eq_true rfl, Nat.le_of_ble_eq_true rfl⟩) rfl hl.1 rfl (Nat.le_of_ble_eq_true rfl) dX10_read_78 ⟨Nat.le_of_ble_eq_true rfl, Nat.le_of_ble_eq_true rfl⟩ (fun rv_3 _ H locs hp hG => ?_)
  subst rv_3
  have hG : fG N0 D vwCl (fty cI cC cL cD cII cTr cTm cIt cB) (fen ql) s (fu (fu F (N0 + 182) (.inr (11, [.ref (N0 + 183), .ref (N0 + 184), .ref (N0 + 185), .ref (N0 + 186), .int 0]))) (N0 + 164) (.inr (12, [.ref (N0 + 165), .int 2, .ref (N0 + 181), .int 0, .int 0, .int 0, .int 0, .ref (ql 24), .ref (N0 + 182), .ref (N0 + 187), .ref (N0 + 208), .ref (N0 + 209), .ref (N0 + 210), .ref (N0 + 211), .ref (N0 + 212), .int 0, .ref (N0 + 213), .ref (N0 + 218), .ref (N0 + 223), .ref (N0 + 224), .ref (N0 + 225), .ref (N0 + 226), .ref (N0 + 227), .int 0, .int 0, .ref (N0 + 228), .null, .int (-1), .int 0, .int 0, .int 0]))) n H locs := hG.weak (fun a e h => by
    rcases fu_cases h with ⟨rfl, he⟩ | ⟨hne0, h⟩
    · cases he; exact fu_s
    · skip
      rcases fu_cases h with ⟨rfl, he⟩ | ⟨hne1, h⟩
      · cases he; exact (fu_at (by omega) (fu_at (by omega) (fu_at (by omega) (fu_at (by omega) fu_s))))
      · exact (fu_at (by omega) (fu_at (by omega) (fu_at (by omega) (fu_at (by omega) (fu_at (by omega) (fu_at (by omega) (fu_at (by omega) (fu_at (by omega) h)))))))))
  exact fx_iret S hr hlocks () hG (rfl) dX10_read_81
theorem k41_X10_thrown {n : Nat} (hn : N0 + 231 ≤ n) (h0 : F (N0 + 164) = some (.inr (12, [.ref (N0 + 165), .int 2, .ref (N0 + 181), .int 0, .int 0, .int 0, .int 0, .ref (ql 24), .ref (N0 + 182), .ref (N0 + 187), .ref (N0 + 208), .ref (N0 + 209), .ref (N0 + 210), .ref (N0 + 211), .ref (N0 + 212), .int 0, .ref (N0 + 213), .ref (N0 + 218), .ref (N0 + 223), .ref (N0 + 224), .ref (N0 + 225), .ref (N0 + 226), .ref (N0 + 227), .int 0, .int 0, .ref (N0 + 228), .null, .int (-1), .int 0, .int 0, .int 0]))) : Met l yX10_thrown wsX10_thrown ({ frames := 0, cells := 0, slots := 0, locals := 0 }) (va_Pc [.ref (N0 + 164)] (fP N0 D vwCl (fty cI cC cL cD cII cTr cTm cIt cB) (fen ql) F n)) (fQi N0 D vwCl (fty cI cC cL cD cII cTr cTm cIt cB) (fun (r : Int32) (_ : Unit) => r = 2) (fun _ => F) (fun _ => n)) 0 0 (fA N0) := by
  refine fx_start 1 rfl rfl (Nat.le_of_ble_eq_true rfl) ?_ rfl
  intro p e s m below meth c ls S hr hlocks hin hG hl
  have hl : lv_has ls 1 [(0, .ref (N0 + 164))] := hl
  have lt_h0 := hG.1.lt h0
  refine lv_aload_n S.1 S.2.1 dX10_thrown_0 rfl (lv_at hl 0 rfl) ?_
  refine gx_get (C := RX10) (T := TX10) (N := 31) S hG h0 i_X10_thrown_X10 rfl 1 (by decide) (by decide +kernel) rfl dX10_thrown_1 ?_
  exact fx_iret S hr hlocks () hG (rfl) dX10_thrown_4
theorem k42_X7_treeAt {n : Nat} (hn : N0 + 231 ≤ n) (h0 : F N0 = some (.inr (9, [.ref (N0 + 1), .ref (N0 + 2), .ref (N0 + 11), .ref (N0 + 13), .ref (N0 + 63), .ref (N0 + 65), .ref (N0 + 85), .int (-1), .int (-1), .int 32]))) (h1 : F (N0 + 1) = some (.inl (cTr, 3, .inr (.inr (.inr (.inr (va_up (va_up (va_up (fun _ => none) 0 (some (N0 + 143))) 1 (some (N0 + 150))) 2 (some (N0 + 157))))))))) : Met l yX7_treeAt wsX7_treeAt ({ frames := 0, cells := 0, slots := 0, locals := 0 }) (va_Pc [.ref N0, .int 1] (fP N0 D vwCl (fty cI cC cL cD cII cTr cTm cIt cB) (fen ql) F n)) (fQr N0 D vwCl (fty cI cC cL cD cII cTr cTm cIt cB) (fun (r : Nat) (_ : Unit) => r = (N0 + 150)) (fun _ => F) (fun _ => n)) 0 0 (fA N0) := by
  refine fx_start 2 rfl rfl (Nat.le_of_ble_eq_true rfl) ?_ rfl
  intro p e s m below meth c ls S hr hlocks hin hG hl
  have hl : lv_has ls 2 [(0, .ref N0), (1, .int 1)] := hl
  have lt_h0 := hG.1.lt h0
  have lt_h1 := hG.1.lt h1
  refine lv_iload_n S.1 S.2.1 dX7_treeAt_0 rfl (lv_at hl 1 rfl) ?_
  refine lv_if_lt (tgt := 9) S.1 S.2.1 dX7_treeAt_1 (by decide) (fun c => absurd c (by decide)) (fun _ => ?_)
  refine lv_iload_n S.1 S.2.1 dX7_treeAt_4 rfl (lv_at hl 1 rfl) ?_
  refine lv_iconst (v := 3) S.1 S.2.1 dX7_treeAt_5 (by decide) ?_
  refine lv_icmp_lt (tgt := 20) S.1 S.2.1 dX7_treeAt_6 (by decide) (fun _ => ?_) (fun c => absurd (by decide) c)
  refine lv_aload_n S.1 S.2.1 dX7_treeAt_20 rfl (lv_at hl 0 rfl) ?_
  refine gx_get (C := RX7) (T := TX7) (N := 10) S hG h0 i_X7_treeAt_X7 rfl 0 (by decide) (by decide +kernel) rfl dX7_treeAt_21 ?_
  refine lv_iload_n S.1 S.2.1 dX7_treeAt_24 rfl (lv_at hl 1 rfl) ?_
  refine gx_aldq (x := (N0 + 150)) S hG 5 rfl h1 rfl (fin_l (by decide)) (rfl) dX7_treeAt_25 ?_
  exact fx_aret S hr (Or.inl ⟨_, rfl⟩) hlocks () hG (rfl) dX7_treeAt_26
theorem k43_X7_read {n : Nat} (hst : l.stackTraces = false) (hn : N0 + 231 ≤ n) (h0 : F N0 = some (.inr (9, [.ref (N0 + 1), .ref (N0 + 2), .ref (N0 + 11), .ref (N0 + 13), .ref (N0 + 63), .ref (N0 + 65), .ref (N0 + 85), .int (-1), .int (-1), .int 32]))) (h1 : F (N0 + 1) = some (.inl (cTr, 3, .inr (.inr (.inr (.inr (va_up (va_up (va_up (fun _ => none) 0 (some (N0 + 143))) 1 (some (N0 + 150))) 2 (some (N0 + 157))))))))) (h2 : F (N0 + 2) = some (.inr (6, [.ref (N0 + 3), .int 0, .int 0, .ref (N0 + 4)]))) (h3 : F (N0 + 4) = some (.inr (7, [.ref (N0 + 5), .ref (N0 + 6), .ref (N0 + 7), .ref (N0 + 8), .ref (N0 + 9), .ref (N0 + 10), .int 1]))) : vx_Met l yX7_read wsX7_read ({ frames := 6, cells := 1, slots := 6, locals := 82 }) (va_Pc [.ref N0, .int 1] (fP N0 D vwCl (fty cI cC cL cD cII cTr cTm cIt cB) (fen ql) F n)) (fNo N0 D vwCl (fty cI cC cL cD cII cTr cTm cIt cB) F n) (fXC N0 D vwCl (fty cI cC cL cD cII cTr cTm cIt cB) "java/lang/IllegalArgumentException" (fu (fu (fu F (N0 + 4) (.inr (7, [.ref (N0 + 5), .ref (N0 + 6), .ref (N0 + 7), .ref (N0 + 8), .ref (N0 + 9), .ref (N0 + 10), .int 0]))) (N0 + 2) (.inr (6, [.ref (N0 + 3), .int 0, .int 0, .ref (N0 + 4)]))) N0 (.inr (9, [.ref (N0 + 1), .ref (N0 + 2), .ref (N0 + 11), .ref (N0 + 13), .ref (N0 + 63), .ref (N0 + 65), .ref (N0 + 85), .int 0, .int (-1), .int 32]))) n) 1 6 (fA N0) := by
  refine fx_startX 4 rfl rfl (Nat.le_of_ble_eq_true rfl) ?_ rfl
  intro p e s m below meth c ls S htab hlocks hG hl
  have hl : lv_has ls 4 [(0, .ref N0), (1, .int 1)] := hl
  have lt_h0 := hG.1.lt h0
  have lt_h1 := hG.1.lt h1
  have lt_h2 := hG.1.lt h2
  have lt_h3 := hG.1.lt h3
  refine lv_aload_n S.1 S.2.1 dX7_read_0 rfl (lv_at hl 0 rfl) ?_
  refine lv_iload_n S.1 S.2.1 dX7_read_1 rfl (lv_at hl 1 rfl) ?_
  refine fx_cVr (As := [.int 1]) (rest := []) S hG (k42_X7_treeAt (by omega) h0 h1) h0 rfl (cwV 1 S.2.2.2.2 gX7_read_X7_treeAt rfl rfl rfl (by decide +kernel) ⟨Nat.le_of_ble_eq_true rfl, Nat.le_of_ble_eq_true rfl⟩) rfl hl.1 rfl (Nat.le_of_ble_eq_true rfl) dX7_read_2 ⟨Nat.le_of_ble_eq_true rfl, Nat.le_of_ble_eq_true rfl⟩ (fun rv_1 _ H locs hp hG => ?_)
  subst rv_1
  refine lv_astore_n (lv' := [(2, .ref (N0 + 150)), (0, .ref N0), (1, .int 1)]) S.1 S.2.1 dX7_read_5 rfl hl (by decide) rfl (fun ls hl => ?_)
  refine lv_aload_n S.1 S.2.1 dX7_read_6 rfl (lv_at hl 1 rfl) ?_
  refine gx_get (C := RX7) (T := TX7) (N := 10) S hG h0 i_X7_read_X7 rfl 1 (by decide) (by decide +kernel) rfl dX7_read_7 ?_
  refine fx_cVi (As := []) (rest := []) S hG (k30_X4_parse (by omega) h2 h3) h2 rfl (cwV 0 S.2.2.2.2 gX7_read_X4_parse rfl rfl rfl (by decide +kernel) ⟨Nat.le_of_ble_eq_true rfl, Nat.le_of_ble_eq_true rfl⟩) rfl hl.1 rfl (Nat.le_of_ble_eq_true rfl) dX7_read_10 ⟨Nat.le_of_ble_eq_true rfl, Nat.le_of_ble_eq_true rfl⟩ (fun rv_2 _ H locs hp hG => ?_)
  subst rv_2
  refine lv_istore_n (lv' := [(3, .int 0), (2, .ref (N0 + 150)), (0, .ref N0), (1, .int 1)]) S.1 S.2.1 dX7_read_13 rfl hl (by decide) rfl (fun ls hl => ?_)
  refine lv_aload_n S.1 S.2.1 dX7_read_14 rfl (lv_at hl 2 rfl) ?_
  refine gx_get (C := RX7) (T := TX7) (N := 10) S hG (fu_at (by omega) (fu_at (by omega) h0)) i_X7_read_X7 rfl 1 (by decide) (by decide +kernel) rfl dX7_read_15 ?_
  refine lv_iconst (v := 0) S.1 S.2.1 dX7_read_18 (by decide) ?_
  refine gx_put (C := RX4) (T := TX4) (N := 4) (ty := .int) (v := .int 0) (fs' := [.ref (N0 + 3), .int 0, .int 0, .ref (N0 + 4)]) S hG (fu_at (by omega) fu_s) i_X7_read_X4 rfl 1 (by decide) tyX4 tyX4_ok nmX4 (by decide +kernel) rfl (by decide +kernel) rfl rfl (Nat.le_of_ble_eq_true rfl) rfl dX7_read_19 (fun H locs hG => ?_)
  refine lv_iload_n S.1 S.2.1 dX7_read_22 rfl (lv_at hl 0 rfl) ?_
  refine lv_if_ne (tgt := 47) S.1 S.2.1 dX7_read_23 (by decide) (fun c => absurd (by decide) c) (fun _ => ?_)
  refine lv_aload_n S.1 S.2.1 dX7_read_26 rfl (lv_at hl 2 rfl) ?_
  refine lv_aload_n S.1 S.2.1 dX7_read_27 rfl (lv_at hl 2 rfl) ?_
  refine gx_get (C := RX7) (T := TX7) (N := 10) S hG (fu_at (by omega) (fu_at (by omega) (fu_at (by omega) h0))) i_X7_read_X7 rfl 1 (by decide) (by decide +kernel) rfl dX7_read_28 ?_
  refine gx_get (C := RX4) (T := TX4) (N := 4) S hG fu_s i_X7_read_X4 rfl 2 (by decide) (by decide +kernel) rfl dX7_read_31 ?_
  refine gx_put (C := RX7) (T := TX7) (N := 10) (ty := .int) (v := .int 0) (fs' := [.ref (N0 + 1), .ref (N0 + 2), .ref (N0 + 11), .ref (N0 + 13), .ref (N0 + 63), .ref (N0 + 65), .ref (N0 + 85), .int 0, .int (-1), .int 32]) S hG (fu_at (by omega) (fu_at (by omega) (fu_at (by omega) h0))) i_X7_read_X7 rfl 7 (by decide) tyX7 tyX7_ok nmX7 (by decide +kernel) rfl (by decide +kernel) rfl rfl (Nat.le_of_ble_eq_true rfl) rfl dX7_read_34 (fun H locs hG => ?_)
  have hG : fG N0 D vwCl (fty cI cC cL cD cII cTr cTm cIt cB) (fen ql) s (fu (fu (fu F (N0 + 4) (.inr (7, [.ref (N0 + 5), .ref (N0 + 6), .ref (N0 + 7), .ref (N0 + 8), .ref (N0 + 9), .ref (N0 + 10), .int 0]))) (N0 + 2) (.inr (6, [.ref (N0 + 3), .int 0, .int 0, .ref (N0 + 4)]))) N0 (.inr (9, [.ref (N0 + 1), .ref (N0 + 2), .ref (N0 + 11), .ref (N0 + 13), .ref (N0 + 63), .ref (N0 + 65), .ref (N0 + 85), .int 0, .int (-1), .int 32]))) n H locs := hG.weak (fun a e h => by
    rcases fu_cases h with ⟨rfl, he⟩ | ⟨hne0, h⟩
    · cases he; exact fu_s
    · skip
      rcases fu_cases h with ⟨rfl, he⟩ | ⟨hne1, h⟩
      · cases he; exact (fu_at (by omega) fu_s)
      · skip
        rcases fu_cases h with ⟨rfl, he⟩ | ⟨hne2, h⟩
        · cases he; exact (fu_at (by omega) (fu_at (by omega) fu_s))
        · exact (fu_at (by omega) (fu_at (by omega) (fu_at (by omega) (fu_at (by omega) h)))))
  exact fx_throw (text := "the text is wrong") S hG hl.1 hst (by decide) (by decide +kernel) (by decide +kernel) (List.mem_of_getElem? (i := 1) rfl) (by decide +kernel) (by decide +kernel) (by decide +kernel) (List.mem_of_getElem? (i := 1) rfl) (List.mem_of_getElem? (i := 0) rfl) (List.mem_of_getElem? (i := 1) rfl) (List.mem_of_getElem? (i := 2) rfl) dX7_read_37 dX7_read_40 dX7_read_41 dX7_read_43 dX7_read_46 htab (by decide) (Nat.le_of_ble_eq_true rfl) (by decide) (by decide) hlocks (by decide) (by decide)
theorem k44_L_read {n : Nat} (hst : l.stackTraces = false) (hn : N0 + 231 ≤ n) (h0 : F N0 = some (.inr (9, [.ref (N0 + 1), .ref (N0 + 2), .ref (N0 + 11), .ref (N0 + 13), .ref (N0 + 63), .ref (N0 + 65), .ref (N0 + 85), .int (-1), .int (-1), .int 32]))) (h1 : F (N0 + 1) = some (.inl (cTr, 3, .inr (.inr (.inr (.inr (va_up (va_up (va_up (fun _ => none) 0 (some (N0 + 143))) 1 (some (N0 + 150))) 2 (some (N0 + 157))))))))) (h2 : F (N0 + 2) = some (.inr (6, [.ref (N0 + 3), .int 0, .int 0, .ref (N0 + 4)]))) (h3 : F (N0 + 4) = some (.inr (7, [.ref (N0 + 5), .ref (N0 + 6), .ref (N0 + 7), .ref (N0 + 8), .ref (N0 + 9), .ref (N0 + 10), .int 1]))) : Met l yL_read wsL_read ({ frames := 7, cells := 1, slots := 6, locals := 105 }) (va_Pc [.ref N0, .int 1, .ref (N0 + 229)] (fP N0 D vwCl (fty cI cC cL cD cII cTr cTm cIt cB) (fen ql) F n)) (fQi N0 D vwCl (fty cI cC cL cD cII cTr cTm cIt cB) (fun (r : Int32) (u : Nat) => r = 2 ∧ n ≤ u) (fun _ => (fu (fu (fu F (N0 + 4) (.inr (7, [.ref (N0 + 5), .ref (N0 + 6), .ref (N0 + 7), .ref (N0 + 8), .ref (N0 + 9), .ref (N0 + 10), .int 0]))) (N0 + 2) (.inr (6, [.ref (N0 + 3), .int 0, .int 0, .ref (N0 + 4)]))) N0 (.inr (9, [.ref (N0 + 1), .ref (N0 + 2), .ref (N0 + 11), .ref (N0 + 13), .ref (N0 + 63), .ref (N0 + 65), .ref (N0 + 85), .int 0, .int (-1), .int 32])))) (fun u => u)) 1 6 (fA N0) := by
  refine fx_startW (hh := [(0, 9, 12, 19), (0, 9, 15, 21)]) 4 rfl rfl (Nat.le_of_ble_eq_true rfl) ?_ rfl
  intro p e s m below meth c ls S htab hr hlocks hG hl
  have hl : lv_has ls 4 [(0, .ref N0), (1, .int 1), (2, .ref (N0 + 229))] := hl
  have lt_h0 := hG.1.lt h0
  have lt_h1 := hG.1.lt h1
  have lt_h2 := hG.1.lt h2
  have lt_h3 := hG.1.lt h3
  refine lv_aload_n S.1 S.2.1 dL_read_0 rfl (lv_at hl 2 rfl) ?_
  refine lv_iconst (v := 0) S.1 S.2.1 dL_read_1 (by decide) ?_
  refine lv_aload_n S.1 S.2.1 dL_read_2 rfl (lv_at hl 0 rfl) ?_
  refine lv_iload_n S.1 S.2.1 dL_read_3 rfl (lv_at hl 1 rfl) ?_
  refine fx_xV (As := [.int 1]) (rest := [.int 0, .ref (N0 + 229)]) S hG (k43_X7_read hst (by omega) h0 h1 h2 h3) h0 rfl (cwV 1 S.2.2.2.2 gL_read_X7_read rfl rfl rfl (by decide +kernel) ⟨Nat.le_of_ble_eq_true rfl, Nat.le_of_ble_eq_true rfl⟩) rfl hl.1 rfl (Nat.le_of_ble_eq_true rfl) dL_read_4 ⟨Nat.le_of_ble_eq_true rfl, Nat.le_of_ble_eq_true rfl⟩ (fun ceq_1 q_1 H locs n_2 hn_2 hG h1q_1 h2q_1 h3q_1 => ?_)
  refine fx_catch (hh := [(0, 9, 12, 19), (0, 9, 15, 21)]) S htab hG h1q_1 h2q_1 h3q_1 [⟨0, 9, 12, 19⟩] ⟨0, 9, 15, 21⟩ [] rfl [] (fun z hz => by
    simp only [List.mem_cons, List.not_mem_nil, or_false] at hz
    rcases hz with rfl
    · exact ⟨by decide, "java/lang/IndexOutOfBoundsException", by decide +kernel, List.mem_of_getElem? (i := 5) rfl⟩) (by decide) (by decide) (by decide +kernel) (List.mem_of_getElem? (i := 1) rfl) ?_
  refine lv_astore_n (lv' := [(3, .ref q_1), (0, .ref N0), (1, .int 1), (2, .ref (N0 + 229))]) S.1 S.2.1 dL_read_15 rfl hl (by decide) rfl (fun ls hl => ?_)
  refine lv_iconst (v := 2) S.1 S.2.1 dL_read_16 (by decide) ?_
  exact fx_iret S hr hlocks n_2 hG (⟨rfl, hn_2⟩) dL_read_17
theorem k45_X10_isBetween {n : Nat} (hn : N0 + 231 ≤ n)  : Met l yX10_isBetween wsX10_isBetween ({ frames := 0, cells := 0, slots := 0, locals := 0 }) (va_Pc [.int 1, .int 0, .int 2] (fP N0 D vwCl (fty cI cC cL cD cII cTr cTm cIt cB) (fen ql) F n)) (fQi N0 D vwCl (fty cI cC cL cD cII cTr cTm cIt cB) (fun (r : Int32) (_ : Unit) => r = 1) (fun _ => F) (fun _ => n)) 0 0 (fA N0) := by
  refine fx_start 3 rfl rfl (Nat.le_of_ble_eq_true rfl) ?_ rfl
  intro p e s m below meth c ls S hr hlocks hin hG hl
  have hl : lv_has ls 3 [(0, .int 1), (1, .int 0), (2, .int 2)] := hl
  refine lv_iload_n S.1 S.2.1 dX10_isBetween_0 rfl (lv_at hl 1 rfl) ?_
  refine lv_iload_n S.1 S.2.1 dX10_isBetween_1 rfl (lv_at hl 0 rfl) ?_
  refine lv_icmp_gt (tgt := 14) S.1 S.2.1 dX10_isBetween_2 (by decide) (fun c => absurd c (by decide)) (fun _ => ?_)
  refine lv_iload_n S.1 S.2.1 dX10_isBetween_5 rfl (lv_at hl 0 rfl) ?_
  refine lv_iload_n S.1 S.2.1 dX10_isBetween_6 rfl (lv_at hl 2 rfl) ?_
  refine lv_icmp_gt (tgt := 14) S.1 S.2.1 dX10_isBetween_7 (by decide) (fun c => absurd c (by decide)) (fun _ => ?_)
  refine lv_iconst (v := 1) S.1 S.2.1 dX10_isBetween_10 (by decide) ?_
  refine lv_goto (tgt := 15) S.1 S.2.1 dX10_isBetween_11 (by decide) ?_
  exact fx_zret S hr (rfl) hlocks () hG (rfl) dX10_isBetween_15
theorem k46_X10_isTree {n : Nat} (hn : N0 + 231 ≤ n)  : Met l yX10_isTree wsX10_isTree ({ frames := 1, cells := 0, slots := 0, locals := 22 }) (va_Pc [.int 1] (fP N0 D vwCl (fty cI cC cL cD cII cTr cTm cIt cB) (fen ql) F n)) (fQi N0 D vwCl (fty cI cC cL cD cII cTr cTm cIt cB) (fun (r : Int32) (_ : Unit) => r = 1) (fun _ => F) (fun _ => n)) 0 0 (fA N0) := by
  refine fx_start 1 rfl rfl (Nat.le_of_ble_eq_true rfl) ?_ rfl
  intro p e s m below meth c ls S hr hlocks hin hG hl
  have hl : lv_has ls 1 [(0, .int 1)] := hl
  refine lv_iload_n S.1 S.2.1 dX10_isTree_0 rfl (lv_at hl 0 rfl) ?_
  refine lv_iconst (v := 0) S.1 S.2.1 dX10_isTree_1 (by decide) ?_
  refine lv_iconst (v := 2) S.1 S.2.1 dX10_isTree_2 (by decide) ?_
  refine fx_cSi (As := [.int 1, .int 0, .int 2]) (rest := []) S hG (k45_X10_isBetween (by omega)) (cwS 3 S.2.2.2.2 gX10_isTree_X10_isBetween rfl rfl rfl (by decide +kernel) ⟨Nat.le_of_ble_eq_true rfl, Nat.le_of_ble_eq_true rfl⟩) rfl hl.1 rfl (Nat.le_of_ble_eq_true rfl) dX10_isTree_3 ⟨Nat.le_of_ble_eq_true rfl, Nat.le_of_ble_eq_true rfl⟩ (fun rv_1 _ H locs hp hG => ?_)
  subst rv_1
  exact fx_zret S hr (rfl) hlocks () hG (rfl) dX10_isTree_6
theorem k47_X10_read {n : Nat} (hn : N0 + 231 ≤ n) (h0 : F (N0 + 164) = some (.inr (12, [.ref (N0 + 165), .int 0, .ref (N0 + 181), .int 0, .int 0, .int 0, .int (-1), .ref (ql 24), .ref (N0 + 182), .ref (N0 + 187), .ref (N0 + 208), .ref (N0 + 209), .ref (N0 + 210), .ref (N0 + 211), .ref (N0 + 212), .int 0, .ref (N0 + 213), .ref (N0 + 218), .ref (N0 + 223), .ref (N0 + 224), .ref (N0 + 225), .ref (N0 + 226), .ref (N0 + 227), .int 0, .int 0, .ref (N0 + 228), .null, .int (-1), .int 0, .int 0, .int 0]))) (h1 : F (N0 + 182) = some (.inr (11, [.ref (N0 + 183), .ref (N0 + 184), .ref (N0 + 185), .ref (N0 + 186), .int 0]))) : Met l yX10_read wsX10_read ({ frames := 2, cells := 0, slots := 0, locals := 47 }) (va_Pc [.ref (N0 + 164), .int 1] (fP N0 D vwCl (fty cI cC cL cD cII cTr cTm cIt cB) (fen ql) F n)) (fQi N0 D vwCl (fty cI cC cL cD cII cTr cTm cIt cB) (fun (r : Int32) (_ : Unit) => r = 0) (fun _ => (fu (fu F (N0 + 182) (.inr (11, [.ref (N0 + 183), .ref (N0 + 184), .ref (N0 + 185), .ref (N0 + 186), .int 0]))) (N0 + 164) (.inr (12, [.ref (N0 + 165), .int 2, .ref (N0 + 181), .int 0, .int 0, .int 0, .int 0, .ref (ql 24), .ref (N0 + 182), .ref (N0 + 187), .ref (N0 + 208), .ref (N0 + 209), .ref (N0 + 210), .ref (N0 + 211), .ref (N0 + 212), .int 0, .ref (N0 + 213), .ref (N0 + 218), .ref (N0 + 223), .ref (N0 + 224), .ref (N0 + 225), .ref (N0 + 226), .ref (N0 + 227), .int 0, .int 0, .ref (N0 + 228), .null, .int (-1), .int 0, .int 0, .int 0])))) (fun _ => n)) 0 0 (fA N0) := by
  refine fx_start 2 rfl rfl (Nat.le_of_ble_eq_true rfl) ?_ rfl
  intro p e s m below meth c ls S hr hlocks hin hG hl
  have hl : lv_has ls 2 [(0, .ref (N0 + 164)), (1, .int 1)] := hl
  have lt_h0 := hG.1.lt h0
  have lt_h1 := hG.1.lt h1
  refine lv_aload_n S.1 S.2.1 dX10_read_0 rfl (lv_at hl 0 rfl) ?_
  refine lv_iconst (v := 0) S.1 S.2.1 dX10_read_1 (by decide) ?_
  refine gx_put (C := RX10) (T := TX10) (N := 31) (ty := .int) (v := .int 0) (fs' := [.ref (N0 + 165), .int 0, .ref (N0 + 181), .int 0, .int 0, .int 0, .int (-1), .ref (ql 24), .ref (N0 + 182), .ref (N0 + 187), .ref (N0 + 208), .ref (N0 + 209), .ref (N0 + 210), .ref (N0 + 211), .ref (N0 + 212), .int 0, .ref (N0 + 213), .ref (N0 + 218), .ref (N0 + 223), .ref (N0 + 224), .ref (N0 + 225), .ref (N0 + 226), .ref (N0 + 227), .int 0, .int 0, .ref (N0 + 228), .null, .int (-1), .int 0, .int 0, .int 0]) S hG h0 i_X10_read_X10 rfl 1 (by decide) tyX10 tyX10_ok nmX10 (by decide +kernel) rfl (by decide +kernel) rfl rfl (Nat.le_of_ble_eq_true rfl) rfl dX10_read_2 (fun H locs hG => ?_)
  refine lv_iload_n S.1 S.2.1 dX10_read_5 rfl (lv_at hl 1 rfl) ?_
  refine fx_cSi (As := [.int 1]) (rest := []) S hG (k46_X10_isTree (by omega)) (cwS 1 S.2.2.2.2 gX10_read_X10_isTree rfl rfl rfl (by decide +kernel) ⟨Nat.le_of_ble_eq_true rfl, Nat.le_of_ble_eq_true rfl⟩) rfl hl.1 rfl (Nat.le_of_ble_eq_true rfl) dX10_read_6 ⟨Nat.le_of_ble_eq_true rfl, Nat.le_of_ble_eq_true rfl⟩ (fun rv_1 _ H locs hp hG => ?_)
  subst rv_1
  refine lv_if_ne (tgt := 18) S.1 S.2.1 dX10_read_9 (by decide) (fun _ => ?_) (fun c => absurd c (by decide))
  refine lv_aload_n S.1 S.2.1 dX10_read_18 rfl (lv_at hl 0 rfl) ?_
  refine lv_iconst (v := 0) S.1 S.2.1 dX10_read_19 (by decide) ?_
  refine gx_put (C := RX10) (T := TX10) (N := 31) (ty := .int) (v := .int 0) (fs' := [.ref (N0 + 165), .int 0, .ref (N0 + 181), .int 0, .int 0, .int 0, .int (-1), .ref (ql 24), .ref (N0 + 182), .ref (N0 + 187), .ref (N0 + 208), .ref (N0 + 209), .ref (N0 + 210), .ref (N0 + 211), .ref (N0 + 212), .int 0, .ref (N0 + 213), .ref (N0 + 218), .ref (N0 + 223), .ref (N0 + 224), .ref (N0 + 225), .ref (N0 + 226), .ref (N0 + 227), .int 0, .int 0, .ref (N0 + 228), .null, .int (-1), .int 0, .int 0, .int 0]) S hG fu_s i_X10_read_X10 rfl 4 (by decide) tyX10 tyX10_ok nmX10 (by decide +kernel) rfl (by decide +kernel) rfl rfl (Nat.le_of_ble_eq_true rfl) rfl dX10_read_20 (fun H locs hG => ?_)
  refine lv_aload_n S.1 S.2.1 dX10_read_23 rfl (lv_at hl 0 rfl) ?_
  refine lv_iconst (v := (-1)) S.1 S.2.1 dX10_read_24 (by decide) ?_
  refine gx_put (C := RX10) (T := TX10) (N := 31) (ty := .int) (v := .int (-1)) (fs' := [.ref (N0 + 165), .int 0, .ref (N0 + 181), .int 0, .int 0, .int (-1), .int (-1), .ref (ql 24), .ref (N0 + 182), .ref (N0 + 187), .ref (N0 + 208), .ref (N0 + 209), .ref (N0 + 210), .ref (N0 + 211), .ref (N0 + 212), .int 0, .ref (N0 + 213), .ref (N0 + 218), .ref (N0 + 223), .ref (N0 + 224), .ref (N0 + 225), .ref (N0 + 226), .ref (N0 + 227), .int 0, .int 0, .ref (N0 + 228), .null, .int (-1), .int 0, .int 0, .int 0]) S hG fu_s i_X10_read_X10 rfl 5 (by decide) tyX10 tyX10_ok nmX10 (by decide +kernel) rfl (by decide +kernel) rfl rfl (Nat.le_of_ble_eq_true rfl) rfl dX10_read_25 (fun H locs hG => ?_)
  refine lv_aload_n S.1 S.2.1 dX10_read_28 rfl (lv_at hl 0 rfl) ?_
  refine gx_get (C := RX10) (T := TX10) (N := 31) S hG fu_s i_X10_read_X10 rfl 8 (by decide) (by decide +kernel) rfl dX10_read_29 ?_
  refine lv_iconst (v := 0) S.1 S.2.1 dX10_read_32 (by decide) ?_
  refine gx_putN (C := RX9) (T := TX9) (N := 5) (ty := .int) (v := .int 0) (fs' := [.ref (N0 + 183), .ref (N0 + 184), .ref (N0 + 185), .ref (N0 + 186), .int 0]) S hG (fu_at (by omega) (fu_at (by omega) (fu_at (by omega) h1))) i_X10_read_X9 rfl 4 (by decide) tyX9 tyX9_ok nmX9 (List.mem_of_getElem? (i := 4) rfl) rfl (by decide +kernel) rfl rfl (Nat.le_of_ble_eq_true rfl) rfl dX10_read_33 (fun H locs hG => ?_)
  refine lv_aload_n S.1 S.2.1 dX10_read_36 rfl (lv_at hl 0 rfl) ?_
  refine lv_iconst (v := (-1)) S.1 S.2.1 dX10_read_37 (by decide) ?_
  refine fx_cVv (As := [.int (-1)]) (rest := []) S hG (k38_X10_readsNode (by omega) (fu_at (by omega) fu_s) fu_s) (fu_at (by omega) fu_s) rfl (cwV 1 S.2.2.2.2 gX10_read_X10_readsNode rfl rfl rfl (by decide +kernel) ⟨Nat.le_of_ble_eq_true rfl, Nat.le_of_ble_eq_true rfl⟩) rfl hl.1 rfl (Nat.le_of_ble_eq_true rfl) dX10_read_38 ⟨Nat.le_of_ble_eq_true rfl, Nat.le_of_ble_eq_true rfl⟩ (fun _ H locs hp hG => ?_)
  refine lv_aload_n S.1 S.2.1 dX10_read_41 rfl (lv_at hl 0 rfl) ?_
  refine gx_get (C := RX10) (T := TX10) (N := 31) S hG fu_s i_X10_read_X10 rfl 4 (by decide) (by decide +kernel) rfl dX10_read_42 ?_
  refine lv_aload_n S.1 S.2.1 dX10_read_45 rfl (lv_at hl 0 rfl) ?_
  refine gx_get (C := RX10) (T := TX10) (N := 31) S hG fu_s i_X10_read_X10 rfl 3 (by decide) (by decide +kernel) rfl dX10_read_46 ?_
  refine lv_icmp_ge (tgt := 56) S.1 S.2.1 dX10_read_49 (by decide) (fun _ => ?_) (fun c => absurd (by decide) c)
  refine lv_aload_n S.1 S.2.1 dX10_read_56 rfl (lv_at hl 0 rfl) ?_
  refine lv_iconst (v := 0) S.1 S.2.1 dX10_read_57 (by decide) ?_
  refine gx_put (C := RX10) (T := TX10) (N := 31) (ty := .int) (v := .int 0) (fs' := [.ref (N0 + 165), .int 0, .ref (N0 + 181), .int 0, .int 0, .int 0, .int (-1), .ref (ql 24), .ref (N0 + 182), .ref (N0 + 187), .ref (N0 + 208), .ref (N0 + 209), .ref (N0 + 210), .ref (N0 + 211), .ref (N0 + 212), .int 0, .ref (N0 + 213), .ref (N0 + 218), .ref (N0 + 223), .ref (N0 + 224), .ref (N0 + 225), .ref (N0 + 226), .ref (N0 + 227), .int 0, .int 0, .ref (N0 + 228), .null, .int (-1), .int 0, .int 0, .int 0]) S hG fu_s i_X10_read_X10 rfl 3 (by decide) tyX10 tyX10_ok nmX10 (by decide +kernel) rfl (by decide +kernel) rfl rfl (Nat.le_of_ble_eq_true rfl) rfl dX10_read_58 (fun H locs hG => ?_)
  refine lv_aload_n S.1 S.2.1 dX10_read_61 rfl (lv_at hl 0 rfl) ?_
  refine gx_get (C := RX10) (T := TX10) (N := 31) S hG fu_s i_X10_read_X10 rfl 5 (by decide) (by decide +kernel) rfl dX10_read_62 ?_
  refine lv_if_lt (tgt := 82) S.1 S.2.1 dX10_read_65 (by decide) (fun c => absurd c (by decide)) (fun _ => ?_)
  refine lv_aload_n S.1 S.2.1 dX10_read_68 rfl (lv_at hl 0 rfl) ?_
  refine lv_aload_n S.1 S.2.1 dX10_read_69 rfl (lv_at hl 0 rfl) ?_
  refine gx_get (C := RX10) (T := TX10) (N := 31) S hG fu_s i_X10_read_X10 rfl 5 (by decide) (by decide +kernel) rfl dX10_read_70 ?_
  refine gx_put (C := RX10) (T := TX10) (N := 31) (ty := .int) (v := .int 0) (fs' := [.ref (N0 + 165), .int 0, .ref (N0 + 181), .int 0, .int 0, .int 0, .int 0, .ref (ql 24), .ref (N0 + 182), .ref (N0 + 187), .ref (N0 + 208), .ref (N0 + 209), .ref (N0 + 210), .ref (N0 + 211), .ref (N0 + 212), .int 0, .ref (N0 + 213), .ref (N0 + 218), .ref (N0 + 223), .ref (N0 + 224), .ref (N0 + 225), .ref (N0 + 226), .ref (N0 + 227), .int 0, .int 0, .ref (N0 + 228), .null, .int (-1), .int 0, .int 0, .int 0]) S hG fu_s i_X10_read_X10 rfl 6 (by decide) tyX10 tyX10_ok nmX10 (by decide +kernel) rfl (by decide +kernel) rfl rfl (Nat.le_of_ble_eq_true rfl) rfl dX10_read_73 (fun H locs hG => ?_)
  refine lv_aload_n S.1 S.2.1 dX10_read_76 rfl (lv_at hl 0 rfl) ?_
  refine lv_iconst (v := 2) S.1 S.2.1 dX10_read_77 (by decide) ?_
  refine fx_cVi (As := [.int 2]) (rest := []) S hG (k39_X10_fails (by omega) fu_s) fu_s rfl (cwV 1 S.2.2.2.2 gX10_read_X10_fails rfl rfl rfl (by decide +kernel) ⟨Nat.le_of_ble_eq_true rfl, Nat.le_of_ble_eq_true rfl⟩) rfl hl.1 rfl (Nat.le_of_ble_eq_true rfl) dX10_read_78 ⟨Nat.le_of_ble_eq_true rfl, Nat.le_of_ble_eq_true rfl⟩ (fun rv_3 _ H locs hp hG => ?_)
  subst rv_3
  have hG : fG N0 D vwCl (fty cI cC cL cD cII cTr cTm cIt cB) (fen ql) s (fu (fu F (N0 + 182) (.inr (11, [.ref (N0 + 183), .ref (N0 + 184), .ref (N0 + 185), .ref (N0 + 186), .int 0]))) (N0 + 164) (.inr (12, [.ref (N0 + 165), .int 2, .ref (N0 + 181), .int 0, .int 0, .int 0, .int 0, .ref (ql 24), .ref (N0 + 182), .ref (N0 + 187), .ref (N0 + 208), .ref (N0 + 209), .ref (N0 + 210), .ref (N0 + 211), .ref (N0 + 212), .int 0, .ref (N0 + 213), .ref (N0 + 218), .ref (N0 + 223), .ref (N0 + 224), .ref (N0 + 225), .ref (N0 + 226), .ref (N0 + 227), .int 0, .int 0, .ref (N0 + 228), .null, .int (-1), .int 0, .int 0, .int 0]))) n H locs := hG.weak (fun a e h => by
    rcases fu_cases h with ⟨rfl, he⟩ | ⟨hne0, h⟩
    · cases he; exact fu_s
    · skip
      rcases fu_cases h with ⟨rfl, he⟩ | ⟨hne1, h⟩
      · cases he; exact (fu_at (by omega) (fu_at (by omega) (fu_at (by omega) (fu_at (by omega) fu_s))))
      · exact (fu_at (by omega) (fu_at (by omega) (fu_at (by omega) (fu_at (by omega) (fu_at (by omega) (fu_at (by omega) (fu_at (by omega) (fu_at (by omega) h)))))))))
  exact fx_iret S hr hlocks () hG (rfl) dX10_read_81
theorem k48_X7_treeAt {n : Nat} (hn : N0 + 231 ≤ n) (h0 : F N0 = some (.inr (9, [.ref (N0 + 1), .ref (N0 + 2), .ref (N0 + 11), .ref (N0 + 13), .ref (N0 + 63), .ref (N0 + 65), .ref (N0 + 85), .int (-1), .int (-1), .int 32]))) (h1 : F (N0 + 1) = some (.inl (cTr, 3, .inr (.inr (.inr (.inr (va_up (va_up (va_up (fun _ => none) 0 (some (N0 + 143))) 1 (some (N0 + 150))) 2 (some (N0 + 157))))))))) : Met l yX7_treeAt wsX7_treeAt ({ frames := 0, cells := 0, slots := 0, locals := 0 }) (va_Pc [.ref N0, .int 2] (fP N0 D vwCl (fty cI cC cL cD cII cTr cTm cIt cB) (fen ql) F n)) (fQr N0 D vwCl (fty cI cC cL cD cII cTr cTm cIt cB) (fun (r : Nat) (_ : Unit) => r = (N0 + 157)) (fun _ => F) (fun _ => n)) 0 0 (fA N0) := by
  refine fx_start 2 rfl rfl (Nat.le_of_ble_eq_true rfl) ?_ rfl
  intro p e s m below meth c ls S hr hlocks hin hG hl
  have hl : lv_has ls 2 [(0, .ref N0), (1, .int 2)] := hl
  have lt_h0 := hG.1.lt h0
  have lt_h1 := hG.1.lt h1
  refine lv_iload_n S.1 S.2.1 dX7_treeAt_0 rfl (lv_at hl 1 rfl) ?_
  refine lv_if_lt (tgt := 9) S.1 S.2.1 dX7_treeAt_1 (by decide) (fun c => absurd c (by decide)) (fun _ => ?_)
  refine lv_iload_n S.1 S.2.1 dX7_treeAt_4 rfl (lv_at hl 1 rfl) ?_
  refine lv_iconst (v := 3) S.1 S.2.1 dX7_treeAt_5 (by decide) ?_
  refine lv_icmp_lt (tgt := 20) S.1 S.2.1 dX7_treeAt_6 (by decide) (fun _ => ?_) (fun c => absurd (by decide) c)
  refine lv_aload_n S.1 S.2.1 dX7_treeAt_20 rfl (lv_at hl 0 rfl) ?_
  refine gx_get (C := RX7) (T := TX7) (N := 10) S hG h0 i_X7_treeAt_X7 rfl 0 (by decide) (by decide +kernel) rfl dX7_treeAt_21 ?_
  refine lv_iload_n S.1 S.2.1 dX7_treeAt_24 rfl (lv_at hl 1 rfl) ?_
  refine gx_aldq (x := (N0 + 157)) S hG 5 rfl h1 rfl (fin_l (by decide)) (rfl) dX7_treeAt_25 ?_
  exact fx_aret S hr (Or.inl ⟨_, rfl⟩) hlocks () hG (rfl) dX7_treeAt_26
theorem k49_X7_read {n : Nat} (hst : l.stackTraces = false) (hn : N0 + 231 ≤ n) (h0 : F N0 = some (.inr (9, [.ref (N0 + 1), .ref (N0 + 2), .ref (N0 + 11), .ref (N0 + 13), .ref (N0 + 63), .ref (N0 + 65), .ref (N0 + 85), .int (-1), .int (-1), .int 32]))) (h1 : F (N0 + 1) = some (.inl (cTr, 3, .inr (.inr (.inr (.inr (va_up (va_up (va_up (fun _ => none) 0 (some (N0 + 143))) 1 (some (N0 + 150))) 2 (some (N0 + 157))))))))) (h2 : F (N0 + 2) = some (.inr (6, [.ref (N0 + 3), .int 0, .int 0, .ref (N0 + 4)]))) (h3 : F (N0 + 4) = some (.inr (7, [.ref (N0 + 5), .ref (N0 + 6), .ref (N0 + 7), .ref (N0 + 8), .ref (N0 + 9), .ref (N0 + 10), .int 1]))) : vx_Met l yX7_read wsX7_read ({ frames := 6, cells := 1, slots := 6, locals := 82 }) (va_Pc [.ref N0, .int 2] (fP N0 D vwCl (fty cI cC cL cD cII cTr cTm cIt cB) (fen ql) F n)) (fNo N0 D vwCl (fty cI cC cL cD cII cTr cTm cIt cB) F n) (fXC N0 D vwCl (fty cI cC cL cD cII cTr cTm cIt cB) "java/lang/IllegalArgumentException" (fu (fu (fu F (N0 + 4) (.inr (7, [.ref (N0 + 5), .ref (N0 + 6), .ref (N0 + 7), .ref (N0 + 8), .ref (N0 + 9), .ref (N0 + 10), .int 0]))) (N0 + 2) (.inr (6, [.ref (N0 + 3), .int 0, .int 0, .ref (N0 + 4)]))) N0 (.inr (9, [.ref (N0 + 1), .ref (N0 + 2), .ref (N0 + 11), .ref (N0 + 13), .ref (N0 + 63), .ref (N0 + 65), .ref (N0 + 85), .int 0, .int (-1), .int 32]))) n) 1 6 (fA N0) := by
  refine fx_startX 4 rfl rfl (Nat.le_of_ble_eq_true rfl) ?_ rfl
  intro p e s m below meth c ls S htab hlocks hG hl
  have hl : lv_has ls 4 [(0, .ref N0), (1, .int 2)] := hl
  have lt_h0 := hG.1.lt h0
  have lt_h1 := hG.1.lt h1
  have lt_h2 := hG.1.lt h2
  have lt_h3 := hG.1.lt h3
  refine lv_aload_n S.1 S.2.1 dX7_read_0 rfl (lv_at hl 0 rfl) ?_
  refine lv_iload_n S.1 S.2.1 dX7_read_1 rfl (lv_at hl 1 rfl) ?_
  refine fx_cVr (As := [.int 2]) (rest := []) S hG (k48_X7_treeAt (by omega) h0 h1) h0 rfl (cwV 1 S.2.2.2.2 gX7_read_X7_treeAt rfl rfl rfl (by decide +kernel) ⟨Nat.le_of_ble_eq_true rfl, Nat.le_of_ble_eq_true rfl⟩) rfl hl.1 rfl (Nat.le_of_ble_eq_true rfl) dX7_read_2 ⟨Nat.le_of_ble_eq_true rfl, Nat.le_of_ble_eq_true rfl⟩ (fun rv_1 _ H locs hp hG => ?_)
  subst rv_1
  refine lv_astore_n (lv' := [(2, .ref (N0 + 157)), (0, .ref N0), (1, .int 2)]) S.1 S.2.1 dX7_read_5 rfl hl (by decide) rfl (fun ls hl => ?_)
  refine lv_aload_n S.1 S.2.1 dX7_read_6 rfl (lv_at hl 1 rfl) ?_
  refine gx_get (C := RX7) (T := TX7) (N := 10) S hG h0 i_X7_read_X7 rfl 1 (by decide) (by decide +kernel) rfl dX7_read_7 ?_
  refine fx_cVi (As := []) (rest := []) S hG (k30_X4_parse (by omega) h2 h3) h2 rfl (cwV 0 S.2.2.2.2 gX7_read_X4_parse rfl rfl rfl (by decide +kernel) ⟨Nat.le_of_ble_eq_true rfl, Nat.le_of_ble_eq_true rfl⟩) rfl hl.1 rfl (Nat.le_of_ble_eq_true rfl) dX7_read_10 ⟨Nat.le_of_ble_eq_true rfl, Nat.le_of_ble_eq_true rfl⟩ (fun rv_2 _ H locs hp hG => ?_)
  subst rv_2
  refine lv_istore_n (lv' := [(3, .int 0), (2, .ref (N0 + 157)), (0, .ref N0), (1, .int 2)]) S.1 S.2.1 dX7_read_13 rfl hl (by decide) rfl (fun ls hl => ?_)
  refine lv_aload_n S.1 S.2.1 dX7_read_14 rfl (lv_at hl 2 rfl) ?_
  refine gx_get (C := RX7) (T := TX7) (N := 10) S hG (fu_at (by omega) (fu_at (by omega) h0)) i_X7_read_X7 rfl 1 (by decide) (by decide +kernel) rfl dX7_read_15 ?_
  refine lv_iconst (v := 0) S.1 S.2.1 dX7_read_18 (by decide) ?_
  refine gx_put (C := RX4) (T := TX4) (N := 4) (ty := .int) (v := .int 0) (fs' := [.ref (N0 + 3), .int 0, .int 0, .ref (N0 + 4)]) S hG (fu_at (by omega) fu_s) i_X7_read_X4 rfl 1 (by decide) tyX4 tyX4_ok nmX4 (by decide +kernel) rfl (by decide +kernel) rfl rfl (Nat.le_of_ble_eq_true rfl) rfl dX7_read_19 (fun H locs hG => ?_)
  refine lv_iload_n S.1 S.2.1 dX7_read_22 rfl (lv_at hl 0 rfl) ?_
  refine lv_if_ne (tgt := 47) S.1 S.2.1 dX7_read_23 (by decide) (fun c => absurd (by decide) c) (fun _ => ?_)
  refine lv_aload_n S.1 S.2.1 dX7_read_26 rfl (lv_at hl 2 rfl) ?_
  refine lv_aload_n S.1 S.2.1 dX7_read_27 rfl (lv_at hl 2 rfl) ?_
  refine gx_get (C := RX7) (T := TX7) (N := 10) S hG (fu_at (by omega) (fu_at (by omega) (fu_at (by omega) h0))) i_X7_read_X7 rfl 1 (by decide) (by decide +kernel) rfl dX7_read_28 ?_
  refine gx_get (C := RX4) (T := TX4) (N := 4) S hG fu_s i_X7_read_X4 rfl 2 (by decide) (by decide +kernel) rfl dX7_read_31 ?_
  refine gx_put (C := RX7) (T := TX7) (N := 10) (ty := .int) (v := .int 0) (fs' := [.ref (N0 + 1), .ref (N0 + 2), .ref (N0 + 11), .ref (N0 + 13), .ref (N0 + 63), .ref (N0 + 65), .ref (N0 + 85), .int 0, .int (-1), .int 32]) S hG (fu_at (by omega) (fu_at (by omega) (fu_at (by omega) h0))) i_X7_read_X7 rfl 7 (by decide) tyX7 tyX7_ok nmX7 (by decide +kernel) rfl (by decide +kernel) rfl rfl (Nat.le_of_ble_eq_true rfl) rfl dX7_read_34 (fun H locs hG => ?_)
  have hG : fG N0 D vwCl (fty cI cC cL cD cII cTr cTm cIt cB) (fen ql) s (fu (fu (fu F (N0 + 4) (.inr (7, [.ref (N0 + 5), .ref (N0 + 6), .ref (N0 + 7), .ref (N0 + 8), .ref (N0 + 9), .ref (N0 + 10), .int 0]))) (N0 + 2) (.inr (6, [.ref (N0 + 3), .int 0, .int 0, .ref (N0 + 4)]))) N0 (.inr (9, [.ref (N0 + 1), .ref (N0 + 2), .ref (N0 + 11), .ref (N0 + 13), .ref (N0 + 63), .ref (N0 + 65), .ref (N0 + 85), .int 0, .int (-1), .int 32]))) n H locs := hG.weak (fun a e h => by
    rcases fu_cases h with ⟨rfl, he⟩ | ⟨hne0, h⟩
    · cases he; exact fu_s
    · skip
      rcases fu_cases h with ⟨rfl, he⟩ | ⟨hne1, h⟩
      · cases he; exact (fu_at (by omega) fu_s)
      · skip
        rcases fu_cases h with ⟨rfl, he⟩ | ⟨hne2, h⟩
        · cases he; exact (fu_at (by omega) (fu_at (by omega) fu_s))
        · exact (fu_at (by omega) (fu_at (by omega) (fu_at (by omega) (fu_at (by omega) h)))))
  exact fx_throw (text := "the text is wrong") S hG hl.1 hst (by decide) (by decide +kernel) (by decide +kernel) (List.mem_of_getElem? (i := 1) rfl) (by decide +kernel) (by decide +kernel) (by decide +kernel) (List.mem_of_getElem? (i := 1) rfl) (List.mem_of_getElem? (i := 0) rfl) (List.mem_of_getElem? (i := 1) rfl) (List.mem_of_getElem? (i := 2) rfl) dX7_read_37 dX7_read_40 dX7_read_41 dX7_read_43 dX7_read_46 htab (by decide) (Nat.le_of_ble_eq_true rfl) (by decide) (by decide) hlocks (by decide) (by decide)
theorem k50_L_read {n : Nat} (hst : l.stackTraces = false) (hn : N0 + 231 ≤ n) (h0 : F N0 = some (.inr (9, [.ref (N0 + 1), .ref (N0 + 2), .ref (N0 + 11), .ref (N0 + 13), .ref (N0 + 63), .ref (N0 + 65), .ref (N0 + 85), .int (-1), .int (-1), .int 32]))) (h1 : F (N0 + 1) = some (.inl (cTr, 3, .inr (.inr (.inr (.inr (va_up (va_up (va_up (fun _ => none) 0 (some (N0 + 143))) 1 (some (N0 + 150))) 2 (some (N0 + 157))))))))) (h2 : F (N0 + 2) = some (.inr (6, [.ref (N0 + 3), .int 0, .int 0, .ref (N0 + 4)]))) (h3 : F (N0 + 4) = some (.inr (7, [.ref (N0 + 5), .ref (N0 + 6), .ref (N0 + 7), .ref (N0 + 8), .ref (N0 + 9), .ref (N0 + 10), .int 1]))) : Met l yL_read wsL_read ({ frames := 7, cells := 1, slots := 6, locals := 105 }) (va_Pc [.ref N0, .int 2, .ref (N0 + 229)] (fP N0 D vwCl (fty cI cC cL cD cII cTr cTm cIt cB) (fen ql) F n)) (fQi N0 D vwCl (fty cI cC cL cD cII cTr cTm cIt cB) (fun (r : Int32) (u : Nat) => r = 2 ∧ n ≤ u) (fun _ => (fu (fu (fu F (N0 + 4) (.inr (7, [.ref (N0 + 5), .ref (N0 + 6), .ref (N0 + 7), .ref (N0 + 8), .ref (N0 + 9), .ref (N0 + 10), .int 0]))) (N0 + 2) (.inr (6, [.ref (N0 + 3), .int 0, .int 0, .ref (N0 + 4)]))) N0 (.inr (9, [.ref (N0 + 1), .ref (N0 + 2), .ref (N0 + 11), .ref (N0 + 13), .ref (N0 + 63), .ref (N0 + 65), .ref (N0 + 85), .int 0, .int (-1), .int 32])))) (fun u => u)) 1 6 (fA N0) := by
  refine fx_startW (hh := [(0, 9, 12, 19), (0, 9, 15, 21)]) 4 rfl rfl (Nat.le_of_ble_eq_true rfl) ?_ rfl
  intro p e s m below meth c ls S htab hr hlocks hG hl
  have hl : lv_has ls 4 [(0, .ref N0), (1, .int 2), (2, .ref (N0 + 229))] := hl
  have lt_h0 := hG.1.lt h0
  have lt_h1 := hG.1.lt h1
  have lt_h2 := hG.1.lt h2
  have lt_h3 := hG.1.lt h3
  refine lv_aload_n S.1 S.2.1 dL_read_0 rfl (lv_at hl 2 rfl) ?_
  refine lv_iconst (v := 0) S.1 S.2.1 dL_read_1 (by decide) ?_
  refine lv_aload_n S.1 S.2.1 dL_read_2 rfl (lv_at hl 0 rfl) ?_
  refine lv_iload_n S.1 S.2.1 dL_read_3 rfl (lv_at hl 1 rfl) ?_
  refine fx_xV (As := [.int 2]) (rest := [.int 0, .ref (N0 + 229)]) S hG (k49_X7_read hst (by omega) h0 h1 h2 h3) h0 rfl (cwV 1 S.2.2.2.2 gL_read_X7_read rfl rfl rfl (by decide +kernel) ⟨Nat.le_of_ble_eq_true rfl, Nat.le_of_ble_eq_true rfl⟩) rfl hl.1 rfl (Nat.le_of_ble_eq_true rfl) dL_read_4 ⟨Nat.le_of_ble_eq_true rfl, Nat.le_of_ble_eq_true rfl⟩ (fun ceq_1 q_1 H locs n_2 hn_2 hG h1q_1 h2q_1 h3q_1 => ?_)
  refine fx_catch (hh := [(0, 9, 12, 19), (0, 9, 15, 21)]) S htab hG h1q_1 h2q_1 h3q_1 [⟨0, 9, 12, 19⟩] ⟨0, 9, 15, 21⟩ [] rfl [] (fun z hz => by
    simp only [List.mem_cons, List.not_mem_nil, or_false] at hz
    rcases hz with rfl
    · exact ⟨by decide, "java/lang/IndexOutOfBoundsException", by decide +kernel, List.mem_of_getElem? (i := 5) rfl⟩) (by decide) (by decide) (by decide +kernel) (List.mem_of_getElem? (i := 1) rfl) ?_
  refine lv_astore_n (lv' := [(3, .ref q_1), (0, .ref N0), (1, .int 2), (2, .ref (N0 + 229))]) S.1 S.2.1 dL_read_15 rfl hl (by decide) rfl (fun ls hl => ?_)
  refine lv_iconst (v := 2) S.1 S.2.1 dL_read_16 (by decide) ?_
  exact fx_iret S hr hlocks n_2 hG (⟨rfl, hn_2⟩) dL_read_17
theorem k51_X10_isBetween {n : Nat} (hn : N0 + 231 ≤ n)  : Met l yX10_isBetween wsX10_isBetween ({ frames := 0, cells := 0, slots := 0, locals := 0 }) (va_Pc [.int 2, .int 0, .int 2] (fP N0 D vwCl (fty cI cC cL cD cII cTr cTm cIt cB) (fen ql) F n)) (fQi N0 D vwCl (fty cI cC cL cD cII cTr cTm cIt cB) (fun (r : Int32) (_ : Unit) => r = 1) (fun _ => F) (fun _ => n)) 0 0 (fA N0) := by
  refine fx_start 3 rfl rfl (Nat.le_of_ble_eq_true rfl) ?_ rfl
  intro p e s m below meth c ls S hr hlocks hin hG hl
  have hl : lv_has ls 3 [(0, .int 2), (1, .int 0), (2, .int 2)] := hl
  refine lv_iload_n S.1 S.2.1 dX10_isBetween_0 rfl (lv_at hl 1 rfl) ?_
  refine lv_iload_n S.1 S.2.1 dX10_isBetween_1 rfl (lv_at hl 0 rfl) ?_
  refine lv_icmp_gt (tgt := 14) S.1 S.2.1 dX10_isBetween_2 (by decide) (fun c => absurd c (by decide)) (fun _ => ?_)
  refine lv_iload_n S.1 S.2.1 dX10_isBetween_5 rfl (lv_at hl 0 rfl) ?_
  refine lv_iload_n S.1 S.2.1 dX10_isBetween_6 rfl (lv_at hl 2 rfl) ?_
  refine lv_icmp_gt (tgt := 14) S.1 S.2.1 dX10_isBetween_7 (by decide) (fun c => absurd c (by decide)) (fun _ => ?_)
  refine lv_iconst (v := 1) S.1 S.2.1 dX10_isBetween_10 (by decide) ?_
  refine lv_goto (tgt := 15) S.1 S.2.1 dX10_isBetween_11 (by decide) ?_
  exact fx_zret S hr (rfl) hlocks () hG (rfl) dX10_isBetween_15
theorem k52_X10_isTree {n : Nat} (hn : N0 + 231 ≤ n)  : Met l yX10_isTree wsX10_isTree ({ frames := 1, cells := 0, slots := 0, locals := 22 }) (va_Pc [.int 2] (fP N0 D vwCl (fty cI cC cL cD cII cTr cTm cIt cB) (fen ql) F n)) (fQi N0 D vwCl (fty cI cC cL cD cII cTr cTm cIt cB) (fun (r : Int32) (_ : Unit) => r = 1) (fun _ => F) (fun _ => n)) 0 0 (fA N0) := by
  refine fx_start 1 rfl rfl (Nat.le_of_ble_eq_true rfl) ?_ rfl
  intro p e s m below meth c ls S hr hlocks hin hG hl
  have hl : lv_has ls 1 [(0, .int 2)] := hl
  refine lv_iload_n S.1 S.2.1 dX10_isTree_0 rfl (lv_at hl 0 rfl) ?_
  refine lv_iconst (v := 0) S.1 S.2.1 dX10_isTree_1 (by decide) ?_
  refine lv_iconst (v := 2) S.1 S.2.1 dX10_isTree_2 (by decide) ?_
  refine fx_cSi (As := [.int 2, .int 0, .int 2]) (rest := []) S hG (k51_X10_isBetween (by omega)) (cwS 3 S.2.2.2.2 gX10_isTree_X10_isBetween rfl rfl rfl (by decide +kernel) ⟨Nat.le_of_ble_eq_true rfl, Nat.le_of_ble_eq_true rfl⟩) rfl hl.1 rfl (Nat.le_of_ble_eq_true rfl) dX10_isTree_3 ⟨Nat.le_of_ble_eq_true rfl, Nat.le_of_ble_eq_true rfl⟩ (fun rv_1 _ H locs hp hG => ?_)
  subst rv_1
  exact fx_zret S hr (rfl) hlocks () hG (rfl) dX10_isTree_6
theorem k53_X10_read {n : Nat} (hn : N0 + 231 ≤ n) (h0 : F (N0 + 164) = some (.inr (12, [.ref (N0 + 165), .int 0, .ref (N0 + 181), .int 0, .int 0, .int 0, .int (-1), .ref (ql 24), .ref (N0 + 182), .ref (N0 + 187), .ref (N0 + 208), .ref (N0 + 209), .ref (N0 + 210), .ref (N0 + 211), .ref (N0 + 212), .int 0, .ref (N0 + 213), .ref (N0 + 218), .ref (N0 + 223), .ref (N0 + 224), .ref (N0 + 225), .ref (N0 + 226), .ref (N0 + 227), .int 0, .int 0, .ref (N0 + 228), .null, .int (-1), .int 0, .int 0, .int 0]))) (h1 : F (N0 + 182) = some (.inr (11, [.ref (N0 + 183), .ref (N0 + 184), .ref (N0 + 185), .ref (N0 + 186), .int 0]))) : Met l yX10_read wsX10_read ({ frames := 2, cells := 0, slots := 0, locals := 47 }) (va_Pc [.ref (N0 + 164), .int 2] (fP N0 D vwCl (fty cI cC cL cD cII cTr cTm cIt cB) (fen ql) F n)) (fQi N0 D vwCl (fty cI cC cL cD cII cTr cTm cIt cB) (fun (r : Int32) (_ : Unit) => r = 0) (fun _ => (fu (fu F (N0 + 182) (.inr (11, [.ref (N0 + 183), .ref (N0 + 184), .ref (N0 + 185), .ref (N0 + 186), .int 0]))) (N0 + 164) (.inr (12, [.ref (N0 + 165), .int 2, .ref (N0 + 181), .int 0, .int 0, .int 0, .int 0, .ref (ql 24), .ref (N0 + 182), .ref (N0 + 187), .ref (N0 + 208), .ref (N0 + 209), .ref (N0 + 210), .ref (N0 + 211), .ref (N0 + 212), .int 0, .ref (N0 + 213), .ref (N0 + 218), .ref (N0 + 223), .ref (N0 + 224), .ref (N0 + 225), .ref (N0 + 226), .ref (N0 + 227), .int 0, .int 0, .ref (N0 + 228), .null, .int (-1), .int 0, .int 0, .int 0])))) (fun _ => n)) 0 0 (fA N0) := by
  refine fx_start 2 rfl rfl (Nat.le_of_ble_eq_true rfl) ?_ rfl
  intro p e s m below meth c ls S hr hlocks hin hG hl
  have hl : lv_has ls 2 [(0, .ref (N0 + 164)), (1, .int 2)] := hl
  have lt_h0 := hG.1.lt h0
  have lt_h1 := hG.1.lt h1
  refine lv_aload_n S.1 S.2.1 dX10_read_0 rfl (lv_at hl 0 rfl) ?_
  refine lv_iconst (v := 0) S.1 S.2.1 dX10_read_1 (by decide) ?_
  refine gx_put (C := RX10) (T := TX10) (N := 31) (ty := .int) (v := .int 0) (fs' := [.ref (N0 + 165), .int 0, .ref (N0 + 181), .int 0, .int 0, .int 0, .int (-1), .ref (ql 24), .ref (N0 + 182), .ref (N0 + 187), .ref (N0 + 208), .ref (N0 + 209), .ref (N0 + 210), .ref (N0 + 211), .ref (N0 + 212), .int 0, .ref (N0 + 213), .ref (N0 + 218), .ref (N0 + 223), .ref (N0 + 224), .ref (N0 + 225), .ref (N0 + 226), .ref (N0 + 227), .int 0, .int 0, .ref (N0 + 228), .null, .int (-1), .int 0, .int 0, .int 0]) S hG h0 i_X10_read_X10 rfl 1 (by decide) tyX10 tyX10_ok nmX10 (by decide +kernel) rfl (by decide +kernel) rfl rfl (Nat.le_of_ble_eq_true rfl) rfl dX10_read_2 (fun H locs hG => ?_)
  refine lv_iload_n S.1 S.2.1 dX10_read_5 rfl (lv_at hl 1 rfl) ?_
  refine fx_cSi (As := [.int 2]) (rest := []) S hG (k52_X10_isTree (by omega)) (cwS 1 S.2.2.2.2 gX10_read_X10_isTree rfl rfl rfl (by decide +kernel) ⟨Nat.le_of_ble_eq_true rfl, Nat.le_of_ble_eq_true rfl⟩) rfl hl.1 rfl (Nat.le_of_ble_eq_true rfl) dX10_read_6 ⟨Nat.le_of_ble_eq_true rfl, Nat.le_of_ble_eq_true rfl⟩ (fun rv_1 _ H locs hp hG => ?_)
  subst rv_1
  refine lv_if_ne (tgt := 18) S.1 S.2.1 dX10_read_9 (by decide) (fun _ => ?_) (fun c => absurd c (by decide))
  refine lv_aload_n S.1 S.2.1 dX10_read_18 rfl (lv_at hl 0 rfl) ?_
  refine lv_iconst (v := 0) S.1 S.2.1 dX10_read_19 (by decide) ?_
  refine gx_put (C := RX10) (T := TX10) (N := 31) (ty := .int) (v := .int 0) (fs' := [.ref (N0 + 165), .int 0, .ref (N0 + 181), .int 0, .int 0, .int 0, .int (-1), .ref (ql 24), .ref (N0 + 182), .ref (N0 + 187), .ref (N0 + 208), .ref (N0 + 209), .ref (N0 + 210), .ref (N0 + 211), .ref (N0 + 212), .int 0, .ref (N0 + 213), .ref (N0 + 218), .ref (N0 + 223), .ref (N0 + 224), .ref (N0 + 225), .ref (N0 + 226), .ref (N0 + 227), .int 0, .int 0, .ref (N0 + 228), .null, .int (-1), .int 0, .int 0, .int 0]) S hG fu_s i_X10_read_X10 rfl 4 (by decide) tyX10 tyX10_ok nmX10 (by decide +kernel) rfl (by decide +kernel) rfl rfl (Nat.le_of_ble_eq_true rfl) rfl dX10_read_20 (fun H locs hG => ?_)
  refine lv_aload_n S.1 S.2.1 dX10_read_23 rfl (lv_at hl 0 rfl) ?_
  refine lv_iconst (v := (-1)) S.1 S.2.1 dX10_read_24 (by decide) ?_
  refine gx_put (C := RX10) (T := TX10) (N := 31) (ty := .int) (v := .int (-1)) (fs' := [.ref (N0 + 165), .int 0, .ref (N0 + 181), .int 0, .int 0, .int (-1), .int (-1), .ref (ql 24), .ref (N0 + 182), .ref (N0 + 187), .ref (N0 + 208), .ref (N0 + 209), .ref (N0 + 210), .ref (N0 + 211), .ref (N0 + 212), .int 0, .ref (N0 + 213), .ref (N0 + 218), .ref (N0 + 223), .ref (N0 + 224), .ref (N0 + 225), .ref (N0 + 226), .ref (N0 + 227), .int 0, .int 0, .ref (N0 + 228), .null, .int (-1), .int 0, .int 0, .int 0]) S hG fu_s i_X10_read_X10 rfl 5 (by decide) tyX10 tyX10_ok nmX10 (by decide +kernel) rfl (by decide +kernel) rfl rfl (Nat.le_of_ble_eq_true rfl) rfl dX10_read_25 (fun H locs hG => ?_)
  refine lv_aload_n S.1 S.2.1 dX10_read_28 rfl (lv_at hl 0 rfl) ?_
  refine gx_get (C := RX10) (T := TX10) (N := 31) S hG fu_s i_X10_read_X10 rfl 8 (by decide) (by decide +kernel) rfl dX10_read_29 ?_
  refine lv_iconst (v := 0) S.1 S.2.1 dX10_read_32 (by decide) ?_
  refine gx_putN (C := RX9) (T := TX9) (N := 5) (ty := .int) (v := .int 0) (fs' := [.ref (N0 + 183), .ref (N0 + 184), .ref (N0 + 185), .ref (N0 + 186), .int 0]) S hG (fu_at (by omega) (fu_at (by omega) (fu_at (by omega) h1))) i_X10_read_X9 rfl 4 (by decide) tyX9 tyX9_ok nmX9 (List.mem_of_getElem? (i := 4) rfl) rfl (by decide +kernel) rfl rfl (Nat.le_of_ble_eq_true rfl) rfl dX10_read_33 (fun H locs hG => ?_)
  refine lv_aload_n S.1 S.2.1 dX10_read_36 rfl (lv_at hl 0 rfl) ?_
  refine lv_iconst (v := (-1)) S.1 S.2.1 dX10_read_37 (by decide) ?_
  refine fx_cVv (As := [.int (-1)]) (rest := []) S hG (k38_X10_readsNode (by omega) (fu_at (by omega) fu_s) fu_s) (fu_at (by omega) fu_s) rfl (cwV 1 S.2.2.2.2 gX10_read_X10_readsNode rfl rfl rfl (by decide +kernel) ⟨Nat.le_of_ble_eq_true rfl, Nat.le_of_ble_eq_true rfl⟩) rfl hl.1 rfl (Nat.le_of_ble_eq_true rfl) dX10_read_38 ⟨Nat.le_of_ble_eq_true rfl, Nat.le_of_ble_eq_true rfl⟩ (fun _ H locs hp hG => ?_)
  refine lv_aload_n S.1 S.2.1 dX10_read_41 rfl (lv_at hl 0 rfl) ?_
  refine gx_get (C := RX10) (T := TX10) (N := 31) S hG fu_s i_X10_read_X10 rfl 4 (by decide) (by decide +kernel) rfl dX10_read_42 ?_
  refine lv_aload_n S.1 S.2.1 dX10_read_45 rfl (lv_at hl 0 rfl) ?_
  refine gx_get (C := RX10) (T := TX10) (N := 31) S hG fu_s i_X10_read_X10 rfl 3 (by decide) (by decide +kernel) rfl dX10_read_46 ?_
  refine lv_icmp_ge (tgt := 56) S.1 S.2.1 dX10_read_49 (by decide) (fun _ => ?_) (fun c => absurd (by decide) c)
  refine lv_aload_n S.1 S.2.1 dX10_read_56 rfl (lv_at hl 0 rfl) ?_
  refine lv_iconst (v := 0) S.1 S.2.1 dX10_read_57 (by decide) ?_
  refine gx_put (C := RX10) (T := TX10) (N := 31) (ty := .int) (v := .int 0) (fs' := [.ref (N0 + 165), .int 0, .ref (N0 + 181), .int 0, .int 0, .int 0, .int (-1), .ref (ql 24), .ref (N0 + 182), .ref (N0 + 187), .ref (N0 + 208), .ref (N0 + 209), .ref (N0 + 210), .ref (N0 + 211), .ref (N0 + 212), .int 0, .ref (N0 + 213), .ref (N0 + 218), .ref (N0 + 223), .ref (N0 + 224), .ref (N0 + 225), .ref (N0 + 226), .ref (N0 + 227), .int 0, .int 0, .ref (N0 + 228), .null, .int (-1), .int 0, .int 0, .int 0]) S hG fu_s i_X10_read_X10 rfl 3 (by decide) tyX10 tyX10_ok nmX10 (by decide +kernel) rfl (by decide +kernel) rfl rfl (Nat.le_of_ble_eq_true rfl) rfl dX10_read_58 (fun H locs hG => ?_)
  refine lv_aload_n S.1 S.2.1 dX10_read_61 rfl (lv_at hl 0 rfl) ?_
  refine gx_get (C := RX10) (T := TX10) (N := 31) S hG fu_s i_X10_read_X10 rfl 5 (by decide) (by decide +kernel) rfl dX10_read_62 ?_
  refine lv_if_lt (tgt := 82) S.1 S.2.1 dX10_read_65 (by decide) (fun c => absurd c (by decide)) (fun _ => ?_)
  refine lv_aload_n S.1 S.2.1 dX10_read_68 rfl (lv_at hl 0 rfl) ?_
  refine lv_aload_n S.1 S.2.1 dX10_read_69 rfl (lv_at hl 0 rfl) ?_
  refine gx_get (C := RX10) (T := TX10) (N := 31) S hG fu_s i_X10_read_X10 rfl 5 (by decide) (by decide +kernel) rfl dX10_read_70 ?_
  refine gx_put (C := RX10) (T := TX10) (N := 31) (ty := .int) (v := .int 0) (fs' := [.ref (N0 + 165), .int 0, .ref (N0 + 181), .int 0, .int 0, .int 0, .int 0, .ref (ql 24), .ref (N0 + 182), .ref (N0 + 187), .ref (N0 + 208), .ref (N0 + 209), .ref (N0 + 210), .ref (N0 + 211), .ref (N0 + 212), .int 0, .ref (N0 + 213), .ref (N0 + 218), .ref (N0 + 223), .ref (N0 + 224), .ref (N0 + 225), .ref (N0 + 226), .ref (N0 + 227), .int 0, .int 0, .ref (N0 + 228), .null, .int (-1), .int 0, .int 0, .int 0]) S hG fu_s i_X10_read_X10 rfl 6 (by decide) tyX10 tyX10_ok nmX10 (by decide +kernel) rfl (by decide +kernel) rfl rfl (Nat.le_of_ble_eq_true rfl) rfl dX10_read_73 (fun H locs hG => ?_)
  refine lv_aload_n S.1 S.2.1 dX10_read_76 rfl (lv_at hl 0 rfl) ?_
  refine lv_iconst (v := 2) S.1 S.2.1 dX10_read_77 (by decide) ?_
  refine fx_cVi (As := [.int 2]) (rest := []) S hG (k39_X10_fails (by omega) fu_s) fu_s rfl (cwV 1 S.2.2.2.2 gX10_read_X10_fails rfl rfl rfl (by decide +kernel) ⟨Nat.le_of_ble_eq_true rfl, Nat.le_of_ble_eq_true rfl⟩) rfl hl.1 rfl (Nat.le_of_ble_eq_true rfl) dX10_read_78 ⟨Nat.le_of_ble_eq_true rfl, Nat.le_of_ble_eq_true rfl⟩ (fun rv_3 _ H locs hp hG => ?_)
  subst rv_3
  have hG : fG N0 D vwCl (fty cI cC cL cD cII cTr cTm cIt cB) (fen ql) s (fu (fu F (N0 + 182) (.inr (11, [.ref (N0 + 183), .ref (N0 + 184), .ref (N0 + 185), .ref (N0 + 186), .int 0]))) (N0 + 164) (.inr (12, [.ref (N0 + 165), .int 2, .ref (N0 + 181), .int 0, .int 0, .int 0, .int 0, .ref (ql 24), .ref (N0 + 182), .ref (N0 + 187), .ref (N0 + 208), .ref (N0 + 209), .ref (N0 + 210), .ref (N0 + 211), .ref (N0 + 212), .int 0, .ref (N0 + 213), .ref (N0 + 218), .ref (N0 + 223), .ref (N0 + 224), .ref (N0 + 225), .ref (N0 + 226), .ref (N0 + 227), .int 0, .int 0, .ref (N0 + 228), .null, .int (-1), .int 0, .int 0, .int 0]))) n H locs := hG.weak (fun a e h => by
    rcases fu_cases h with ⟨rfl, he⟩ | ⟨hne0, h⟩
    · cases he; exact fu_s
    · skip
      rcases fu_cases h with ⟨rfl, he⟩ | ⟨hne1, h⟩
      · cases he; exact (fu_at (by omega) (fu_at (by omega) (fu_at (by omega) (fu_at (by omega) fu_s))))
      · exact (fu_at (by omega) (fu_at (by omega) (fu_at (by omega) (fu_at (by omega) (fu_at (by omega) (fu_at (by omega) (fu_at (by omega) (fu_at (by omega) h)))))))))
  exact fx_iret S hr hlocks () hG (rfl) dX10_read_81
theorem k54_X7_treeAt {n : Nat} {a1 : Int32} (g_a1_ge_3 : 3 ≤ a1) (hst : l.stackTraces = false) (hn : N0 + 231 ≤ n)  : vx_Met l yX7_treeAt wsX7_treeAt ({ frames := 6, cells := 1, slots := 6, locals := 82 }) (va_Pc [.ref N0, .int a1] (fP N0 D vwCl (fty cI cC cL cD cII cTr cTm cIt cB) (fen ql) F n)) (fNo N0 D vwCl (fty cI cC cL cD cII cTr cTm cIt cB) F n) (fXC N0 D vwCl (fty cI cC cL cD cII cTr cTm cIt cB) "java/lang/IndexOutOfBoundsException" F n) 1 6 (fA N0) := by
  refine fx_startX 2 rfl rfl (Nat.le_of_ble_eq_true rfl) ?_ rfl
  intro p e s m below meth c ls S htab hlocks hG hl
  have hl : lv_has ls 2 [(0, .ref N0), (1, .int a1)] := hl
  refine lv_iload_n S.1 S.2.1 dX7_treeAt_0 rfl (lv_at hl 1 rfl) ?_
  refine lv_if_lt (tgt := 9) S.1 S.2.1 dX7_treeAt_1 (by decide) (fun c => absurd c (Int32.not_lt.mpr (Int32.le_trans (by decide) g_a1_ge_3))) (fun _ => ?_)
  refine lv_iload_n S.1 S.2.1 dX7_treeAt_4 rfl (lv_at hl 1 rfl) ?_
  refine lv_iconst (v := 3) S.1 S.2.1 dX7_treeAt_5 (by decide) ?_
  refine lv_icmp_lt (tgt := 20) S.1 S.2.1 dX7_treeAt_6 (by decide) (fun c => absurd c (Int32.not_lt.mpr (Int32.le_trans (by decide) g_a1_ge_3))) (fun _ => ?_)
  exact fx_throwW (text := "no such tree") S hG hl.1 hst (by decide) (by decide +kernel) (by decide +kernel) (List.mem_of_getElem? (i := 20) rfl) (by decide +kernel) (by decide +kernel) (by decide +kernel) (List.mem_of_getElem? (i := 2) rfl) (List.mem_of_getElem? (i := 0) rfl) (List.mem_of_getElem? (i := 1) rfl) (List.mem_of_getElem? (i := 2) rfl) dX7_treeAt_9 dX7_treeAt_12 dX7_treeAt_13 dX7_treeAt_16 dX7_treeAt_19 htab (by decide) (Nat.le_of_ble_eq_true rfl) (by decide) (by decide) hlocks (by decide) (by decide)
theorem k55_X7_read {n : Nat} {a1 : Int32} (g_a1_ge_3 : 3 ≤ a1) (hst : l.stackTraces = false) (hn : N0 + 231 ≤ n) (h0 : F N0 = some (.inr (9, [.ref (N0 + 1), .ref (N0 + 2), .ref (N0 + 11), .ref (N0 + 13), .ref (N0 + 63), .ref (N0 + 65), .ref (N0 + 85), .int (-1), .int (-1), .int 32]))) : vx_Met l yX7_read wsX7_read ({ frames := 7, cells := 1, slots := 6, locals := 103 }) (va_Pc [.ref N0, .int a1] (fP N0 D vwCl (fty cI cC cL cD cII cTr cTm cIt cB) (fen ql) F n)) (fNo N0 D vwCl (fty cI cC cL cD cII cTr cTm cIt cB) F n) (fXC N0 D vwCl (fty cI cC cL cD cII cTr cTm cIt cB) "java/lang/IndexOutOfBoundsException" F n) 1 6 (fA N0) := by
  refine fx_startX 4 rfl rfl (Nat.le_of_ble_eq_true rfl) ?_ rfl
  intro p e s m below meth c ls S htab hlocks hG hl
  have hl : lv_has ls 4 [(0, .ref N0), (1, .int a1)] := hl
  have lt_h0 := hG.1.lt h0
  refine lv_aload_n S.1 S.2.1 dX7_read_0 rfl (lv_at hl 0 rfl) ?_
  refine lv_iload_n S.1 S.2.1 dX7_read_1 rfl (lv_at hl 1 rfl) ?_
  refine fx_xV (As := [.int a1]) (rest := []) S hG (k54_X7_treeAt g_a1_ge_3 hst (by omega)) h0 rfl (cwV 1 S.2.2.2.2 gX7_read_X7_treeAt rfl rfl rfl (by decide +kernel) ⟨Nat.le_of_ble_eq_true rfl, Nat.le_of_ble_eq_true rfl⟩) rfl hl.1 rfl (Nat.le_of_ble_eq_true rfl) dX7_read_2 ⟨Nat.le_of_ble_eq_true rfl, Nat.le_of_ble_eq_true rfl⟩ (fun ceq_1 q_1 H locs n_2 hn_2 hG h1q_1 h2q_1 h3q_1 => ?_)
  exact fx_out htab hlocks hG (by omega) h1q_1 h2q_1 h3q_1 (by decide) (by decide)
theorem k56_L_read {n : Nat} {a1 : Int32} (g_a1_ge_3 : 3 ≤ a1) (hst : l.stackTraces = false) (hn : N0 + 231 ≤ n) (h0 : F N0 = some (.inr (9, [.ref (N0 + 1), .ref (N0 + 2), .ref (N0 + 11), .ref (N0 + 13), .ref (N0 + 63), .ref (N0 + 65), .ref (N0 + 85), .int (-1), .int (-1), .int 32]))) : Met l yL_read wsL_read ({ frames := 8, cells := 1, slots := 6, locals := 126 }) (va_Pc [.ref N0, .int a1, .ref (N0 + 229)] (fP N0 D vwCl (fty cI cC cL cD cII cTr cTm cIt cB) (fen ql) F n)) (fQi N0 D vwCl (fty cI cC cL cD cII cTr cTm cIt cB) (fun (r : Int32) (u : Nat) => r = 1 ∧ n ≤ u) (fun _ => F) (fun u => u)) 1 6 (fA N0) := by
  refine fx_startW (hh := [(0, 9, 12, 19), (0, 9, 15, 21)]) 4 rfl rfl (Nat.le_of_ble_eq_true rfl) ?_ rfl
  intro p e s m below meth c ls S htab hr hlocks hG hl
  have hl : lv_has ls 4 [(0, .ref N0), (1, .int a1), (2, .ref (N0 + 229))] := hl
  have lt_h0 := hG.1.lt h0
  refine lv_aload_n S.1 S.2.1 dL_read_0 rfl (lv_at hl 2 rfl) ?_
  refine lv_iconst (v := 0) S.1 S.2.1 dL_read_1 (by decide) ?_
  refine lv_aload_n S.1 S.2.1 dL_read_2 rfl (lv_at hl 0 rfl) ?_
  refine lv_iload_n S.1 S.2.1 dL_read_3 rfl (lv_at hl 1 rfl) ?_
  refine fx_xV (As := [.int a1]) (rest := [.int 0, .ref (N0 + 229)]) S hG (k55_X7_read g_a1_ge_3 hst (by omega) h0) h0 rfl (cwV 1 S.2.2.2.2 gL_read_X7_read rfl rfl rfl (by decide +kernel) ⟨Nat.le_of_ble_eq_true rfl, Nat.le_of_ble_eq_true rfl⟩) rfl hl.1 rfl (Nat.le_of_ble_eq_true rfl) dL_read_4 ⟨Nat.le_of_ble_eq_true rfl, Nat.le_of_ble_eq_true rfl⟩ (fun ceq_1 q_1 H locs n_2 hn_2 hG h1q_1 h2q_1 h3q_1 => ?_)
  refine fx_catch (hh := [(0, 9, 12, 19), (0, 9, 15, 21)]) S htab hG h1q_1 h2q_1 h3q_1 [] ⟨0, 9, 12, 19⟩ [⟨0, 9, 15, 21⟩] rfl [] (fun z hz => absurd hz List.not_mem_nil) (by decide) (by decide) (by decide +kernel) (List.mem_of_getElem? (i := 2) rfl) ?_
  refine lv_astore_n (lv' := [(3, .ref q_1), (0, .ref N0), (1, .int a1), (2, .ref (N0 + 229))]) S.1 S.2.1 dL_read_12 rfl hl (by decide) rfl (fun ls hl => ?_)
  refine lv_iconst (v := 1) S.1 S.2.1 dL_read_13 (by decide) ?_
  exact fx_iret S hr hlocks n_2 hG (⟨rfl, hn_2⟩) dL_read_14
theorem k57_X10_isBetween {n : Nat} {a1 : Int32} (g_a1_ge_3 : 3 ≤ a1) (hn : N0 + 231 ≤ n)  : Met l yX10_isBetween wsX10_isBetween ({ frames := 0, cells := 0, slots := 0, locals := 0 }) (va_Pc [.int a1, .int 0, .int 2] (fP N0 D vwCl (fty cI cC cL cD cII cTr cTm cIt cB) (fen ql) F n)) (fQi N0 D vwCl (fty cI cC cL cD cII cTr cTm cIt cB) (fun (r : Int32) (_ : Unit) => r = 0) (fun _ => F) (fun _ => n)) 0 0 (fA N0) := by
  refine fx_start 3 rfl rfl (Nat.le_of_ble_eq_true rfl) ?_ rfl
  intro p e s m below meth c ls S hr hlocks hin hG hl
  have hl : lv_has ls 3 [(0, .int a1), (1, .int 0), (2, .int 2)] := hl
  refine lv_iload_n S.1 S.2.1 dX10_isBetween_0 rfl (lv_at hl 1 rfl) ?_
  refine lv_iload_n S.1 S.2.1 dX10_isBetween_1 rfl (lv_at hl 0 rfl) ?_
  refine lv_icmp_gt (tgt := 14) S.1 S.2.1 dX10_isBetween_2 (by decide) (fun c => absurd c (Int32.not_lt.mpr (Int32.le_trans (by decide) g_a1_ge_3))) (fun _ => ?_)
  refine lv_iload_n S.1 S.2.1 dX10_isBetween_5 rfl (lv_at hl 0 rfl) ?_
  refine lv_iload_n S.1 S.2.1 dX10_isBetween_6 rfl (lv_at hl 2 rfl) ?_
  refine lv_icmp_gt (tgt := 14) S.1 S.2.1 dX10_isBetween_7 (by decide) (fun _ => ?_) (fun c => absurd (Int32.lt_of_lt_of_le (by decide) g_a1_ge_3) c)
  refine lv_iconst (v := 0) S.1 S.2.1 dX10_isBetween_14 (by decide) ?_
  exact fx_zret S hr (rfl) hlocks () hG (rfl) dX10_isBetween_15
theorem k58_X10_isTree {n : Nat} {a1 : Int32} (g_a1_ge_3 : 3 ≤ a1) (hn : N0 + 231 ≤ n)  : Met l yX10_isTree wsX10_isTree ({ frames := 1, cells := 0, slots := 0, locals := 22 }) (va_Pc [.int a1] (fP N0 D vwCl (fty cI cC cL cD cII cTr cTm cIt cB) (fen ql) F n)) (fQi N0 D vwCl (fty cI cC cL cD cII cTr cTm cIt cB) (fun (r : Int32) (_ : Unit) => r = 0) (fun _ => F) (fun _ => n)) 0 0 (fA N0) := by
  refine fx_start 1 rfl rfl (Nat.le_of_ble_eq_true rfl) ?_ rfl
  intro p e s m below meth c ls S hr hlocks hin hG hl
  have hl : lv_has ls 1 [(0, .int a1)] := hl
  refine lv_iload_n S.1 S.2.1 dX10_isTree_0 rfl (lv_at hl 0 rfl) ?_
  refine lv_iconst (v := 0) S.1 S.2.1 dX10_isTree_1 (by decide) ?_
  refine lv_iconst (v := 2) S.1 S.2.1 dX10_isTree_2 (by decide) ?_
  refine fx_cSi (As := [.int a1, .int 0, .int 2]) (rest := []) S hG (k57_X10_isBetween g_a1_ge_3 (by omega)) (cwS 3 S.2.2.2.2 gX10_isTree_X10_isBetween rfl rfl rfl (by decide +kernel) ⟨Nat.le_of_ble_eq_true rfl, Nat.le_of_ble_eq_true rfl⟩) rfl hl.1 rfl (Nat.le_of_ble_eq_true rfl) dX10_isTree_3 ⟨Nat.le_of_ble_eq_true rfl, Nat.le_of_ble_eq_true rfl⟩ (fun rv_1 _ H locs hp hG => ?_)
  subst rv_1
  exact fx_zret S hr (rfl) hlocks () hG (rfl) dX10_isTree_6
theorem k59_X10_read {n : Nat} {a1 : Int32} (g_a1_ge_3 : 3 ≤ a1) (hn : N0 + 231 ≤ n) (h0 : F (N0 + 164) = some (.inr (12, [.ref (N0 + 165), .int 0, .ref (N0 + 181), .int 0, .int 0, .int 0, .int (-1), .ref (ql 24), .ref (N0 + 182), .ref (N0 + 187), .ref (N0 + 208), .ref (N0 + 209), .ref (N0 + 210), .ref (N0 + 211), .ref (N0 + 212), .int 0, .ref (N0 + 213), .ref (N0 + 218), .ref (N0 + 223), .ref (N0 + 224), .ref (N0 + 225), .ref (N0 + 226), .ref (N0 + 227), .int 0, .int 0, .ref (N0 + 228), .null, .int (-1), .int 0, .int 0, .int 0]))) : Met l yX10_read wsX10_read ({ frames := 2, cells := 0, slots := 0, locals := 42 }) (va_Pc [.ref (N0 + 164), .int a1] (fP N0 D vwCl (fty cI cC cL cD cII cTr cTm cIt cB) (fen ql) F n)) (fQi N0 D vwCl (fty cI cC cL cD cII cTr cTm cIt cB) (fun (r : Int32) (_ : Unit) => r = 0) (fun _ => (fu F (N0 + 164) (.inr (12, [.ref (N0 + 165), .int 1, .ref (N0 + 181), .int 0, .int 0, .int 0, .int (-1), .ref (ql 24), .ref (N0 + 182), .ref (N0 + 187), .ref (N0 + 208), .ref (N0 + 209), .ref (N0 + 210), .ref (N0 + 211), .ref (N0 + 212), .int 0, .ref (N0 + 213), .ref (N0 + 218), .ref (N0 + 223), .ref (N0 + 224), .ref (N0 + 225), .ref (N0 + 226), .ref (N0 + 227), .int 0, .int 0, .ref (N0 + 228), .null, .int (-1), .int 0, .int 0, .int 0])))) (fun _ => n)) 0 0 (fA N0) := by
  refine fx_start 2 rfl rfl (Nat.le_of_ble_eq_true rfl) ?_ rfl
  intro p e s m below meth c ls S hr hlocks hin hG hl
  have hl : lv_has ls 2 [(0, .ref (N0 + 164)), (1, .int a1)] := hl
  have lt_h0 := hG.1.lt h0
  refine lv_aload_n S.1 S.2.1 dX10_read_0 rfl (lv_at hl 0 rfl) ?_
  refine lv_iconst (v := 0) S.1 S.2.1 dX10_read_1 (by decide) ?_
  refine gx_put (C := RX10) (T := TX10) (N := 31) (ty := .int) (v := .int 0) (fs' := [.ref (N0 + 165), .int 0, .ref (N0 + 181), .int 0, .int 0, .int 0, .int (-1), .ref (ql 24), .ref (N0 + 182), .ref (N0 + 187), .ref (N0 + 208), .ref (N0 + 209), .ref (N0 + 210), .ref (N0 + 211), .ref (N0 + 212), .int 0, .ref (N0 + 213), .ref (N0 + 218), .ref (N0 + 223), .ref (N0 + 224), .ref (N0 + 225), .ref (N0 + 226), .ref (N0 + 227), .int 0, .int 0, .ref (N0 + 228), .null, .int (-1), .int 0, .int 0, .int 0]) S hG h0 i_X10_read_X10 rfl 1 (by decide) tyX10 tyX10_ok nmX10 (by decide +kernel) rfl (by decide +kernel) rfl rfl (Nat.le_of_ble_eq_true rfl) rfl dX10_read_2 (fun H locs hG => ?_)
  refine lv_iload_n S.1 S.2.1 dX10_read_5 rfl (lv_at hl 1 rfl) ?_
  refine fx_cSi (As := [.int a1]) (rest := []) S hG (k58_X10_isTree g_a1_ge_3 (by omega)) (cwS 1 S.2.2.2.2 gX10_read_X10_isTree rfl rfl rfl (by decide +kernel) ⟨Nat.le_of_ble_eq_true rfl, Nat.le_of_ble_eq_true rfl⟩) rfl hl.1 rfl (Nat.le_of_ble_eq_true rfl) dX10_read_6 ⟨Nat.le_of_ble_eq_true rfl, Nat.le_of_ble_eq_true rfl⟩ (fun rv_1 _ H locs hp hG => ?_)
  subst rv_1
  refine lv_if_ne (tgt := 18) S.1 S.2.1 dX10_read_9 (by decide) (fun c => absurd (by decide) c) (fun _ => ?_)
  refine lv_aload_n S.1 S.2.1 dX10_read_12 rfl (lv_at hl 0 rfl) ?_
  refine lv_iconst (v := 1) S.1 S.2.1 dX10_read_13 (by decide) ?_
  refine fx_cVi (As := [.int 1]) (rest := []) S hG (k23_X10_fails (by omega) fu_s) fu_s rfl (cwV 1 S.2.2.2.2 gX10_read_X10_fails rfl rfl rfl (by decide +kernel) ⟨Nat.le_of_ble_eq_true rfl, Nat.le_of_ble_eq_true rfl⟩) rfl hl.1 rfl (Nat.le_of_ble_eq_true rfl) dX10_read_14 ⟨Nat.le_of_ble_eq_true rfl, Nat.le_of_ble_eq_true rfl⟩ (fun rv_2 _ H locs hp hG => ?_)
  subst rv_2
  have hG : fG N0 D vwCl (fty cI cC cL cD cII cTr cTm cIt cB) (fen ql) s (fu F (N0 + 164) (.inr (12, [.ref (N0 + 165), .int 1, .ref (N0 + 181), .int 0, .int 0, .int 0, .int (-1), .ref (ql 24), .ref (N0 + 182), .ref (N0 + 187), .ref (N0 + 208), .ref (N0 + 209), .ref (N0 + 210), .ref (N0 + 211), .ref (N0 + 212), .int 0, .ref (N0 + 213), .ref (N0 + 218), .ref (N0 + 223), .ref (N0 + 224), .ref (N0 + 225), .ref (N0 + 226), .ref (N0 + 227), .int 0, .int 0, .ref (N0 + 228), .null, .int (-1), .int 0, .int 0, .int 0]))) n H locs := hG.weak (fun a e h => by
    rcases fu_cases h with ⟨rfl, he⟩ | ⟨hne0, h⟩
    · cases he; exact fu_s
    · exact (fu_at (by omega) (fu_at (by omega) h)))
  exact fx_iret S hr hlocks () hG (rfl) dX10_read_17
theorem l1_0 {p : Program} {e : Env} {s : State} {m : MethodId} {below : List Frame} {meth : Method} {c : Code} {b : Nat} {xs : Nat → Int32} {H : Heap} {locs : List Loc} {ls : Array Slot} {n : Nat} {a1 a2 a3 a4 : Int32} (g_a1_le_m1 : a1 ≤ (-1)) (S : CallFix p m c cL_law 9 s #[.ref b] wsL_law "TreeDifferLaw") (hr : meth.sig.returnType = ret) (hlocks : meth.locks = false) (hst : l.stackTraces = false) (hX : va_X b 5 xs s s.heap) (hbl : b < s.heap.size ∧ b < N0) (hN : s.heap.size = N0) (hn : N0 + 231 ≤ n) (hx1 : xs 1 = a1) (hx2 : xs 2 = a2) (hx3 : xs 3 = a3) (hx4 : xs 4 = a4) (h0 : F N0 = some (.inr (9, [.ref (N0 + 1), .ref (N0 + 2), .ref (N0 + 11), .ref (N0 + 13), .ref (N0 + 63), .ref (N0 + 65), .ref (N0 + 85), .int (-1), .int (-1), .int 32]))) (h1 : F (N0 + 164) = some (.inr (12, [.ref (N0 + 165), .int 0, .ref (N0 + 181), .int 0, .int 0, .int 0, .int (-1), .ref (ql 24), .ref (N0 + 182), .ref (N0 + 187), .ref (N0 + 208), .ref (N0 + 209), .ref (N0 + 210), .ref (N0 + 211), .ref (N0 + 212), .int 0, .ref (N0 + 213), .ref (N0 + 218), .ref (N0 + 223), .ref (N0 + 224), .ref (N0 + 225), .ref (N0 + 226), .ref (N0 + 227), .int 0, .int 0, .ref (N0 + 228), .null, .int (-1), .int 0, .int 0, .int 0]))) (hG : fG N0 D vwCl (fty cI cC cL cD cII cTr cTm cIt cB) (fen ql) s F n H locs) (hl : lv_has ls 9 [(0, .ref b), (1, .ref N0), (2, .ref (N0 + 164)), (3, .ref (N0 + 229)), (4, .ref (N0 + 230)), (5, .int 0)]) : W p l e { frames := 2048, cells := 600002, slots := 7302232, locals := 84000 } s m #[.ref b] below meth c H locs 231 4980 (lw_Z below #[.ref b] s) (F0 m 274 ls []) := by
  have lt_h0 := hG.1.lt h0
  have lt_h1 := hG.1.lt h1
  refine lv_aload_n S.1 S.2.1 dL_law_274 rfl (lv_at hl 1 rfl) ?_
  refine lv_aload_n S.1 S.2.1 dL_law_275 rfl (lv_at hl 0 rfl) ?_
  refine lv_iload S.1 S.2.1 dL_law_276 (lv_at hl 5 rfl) ?_
  refine lv_iconst (v := 1) S.1 S.2.1 dL_law_278 (by decide) ?_
  refine lv_iadd S.1 S.2.1 dL_law_279 ?_
  refine fx_topi (y := 1) (by decide) ?_
  refine gx_sld (v := a1) S hG hX hbl (fin_l (by decide)) hx1 dL_law_280 ?_
  refine lv_aload_n S.1 S.2.1 dL_law_281 rfl (lv_at hl 3 rfl) ?_
  refine fx_cTi (As := [.ref N0, .int a1, .ref (N0 + 229)]) (rest := []) S hG (k20_L_read g_a1_le_m1 hst (by omega) h0) (vx_cwSW 3 S.2.2.2.2 gL_law_L_read rfl rfl rfl (by decide +kernel) ⟨Nat.le_of_ble_eq_true rfl, Nat.le_of_ble_eq_true rfl⟩) rfl hl.1 rfl (Nat.le_of_ble_eq_true rfl) dL_law_282 ⟨Nat.le_of_ble_eq_true rfl, Nat.le_of_ble_eq_true rfl⟩ (fun rv_u_1 u_1 H locs hp hG => ?_)
  obtain ⟨rfl, hu_1⟩ := hp
  refine W.widen (k := 232) (n := 4986) (by decide) (by decide) ?_
  refine lv_istore (lv' := [(6, .int 1), (0, .ref b), (1, .ref N0), (2, .ref (N0 + 164)), (3, .ref (N0 + 229)), (4, .ref (N0 + 230)), (5, .int 0)]) S.1 S.2.1 dL_law_285 hl (by decide) rfl (fun ls hl => ?_)
  refine lv_aload_n S.1 S.2.1 dL_law_287 rfl (lv_at hl 3 rfl) ?_
  refine lv_aload_n S.1 S.2.1 dL_law_288 rfl (lv_at hl 1 rfl) ?_
  refine lv_iload S.1 S.2.1 dL_law_289 (lv_at hl 6 rfl) ?_
  refine lv_iconst (v := 1) S.1 S.2.1 dL_law_291 (by decide) ?_
  refine lv_iadd S.1 S.2.1 dL_law_292 ?_
  refine fx_topi (y := 1) (by decide) ?_
  refine gx_sld (v := a1) S hG hX hbl (fin_l (by decide)) hx1 dL_law_293 ?_
  refine fx_cVi (As := [.int a1]) (rest := []) S hG (k24_X10_read g_a1_le_m1 (by omega) h1) h1 rfl (cwV 1 S.2.2.2.2 gL_law_X10_read rfl rfl rfl (by decide +kernel) ⟨Nat.le_of_ble_eq_true rfl, Nat.le_of_ble_eq_true rfl⟩) rfl hl.1 rfl (Nat.le_of_ble_eq_true rfl) dL_law_294 ⟨Nat.le_of_ble_eq_true rfl, Nat.le_of_ble_eq_true rfl⟩ (fun rv_2 _ H locs hp hG => ?_)
  subst rv_2
  refine lv_istore (lv' := [(7, .int 0), (6, .int 1), (0, .ref b), (1, .ref N0), (2, .ref (N0 + 164)), (3, .ref (N0 + 229)), (4, .ref (N0 + 230)), (5, .int 0)]) S.1 S.2.1 dL_law_297 hl (by decide) rfl (fun ls hl => ?_)
  refine lv_aload_n S.1 S.2.1 dL_law_299 rfl (lv_at hl 4 rfl) ?_
  refine fx_cVi (As := []) (rest := []) S hG (k25_X10_thrown (by omega) fu_s) fu_s rfl (cwV 0 S.2.2.2.2 gL_law_X10_thrown rfl rfl rfl (by decide +kernel) ⟨Nat.le_of_ble_eq_true rfl, Nat.le_of_ble_eq_true rfl⟩) rfl hl.1 rfl (Nat.le_of_ble_eq_true rfl) dL_law_300 ⟨Nat.le_of_ble_eq_true rfl, Nat.le_of_ble_eq_true rfl⟩ (fun rv_3 _ H locs hp hG => ?_)
  subst rv_3
  refine lv_iload S.1 S.2.1 dL_law_303 (lv_at hl 1 rfl) ?_
  refine lv_icmp_eq (tgt := 310) S.1 S.2.1 dL_law_305 (by decide) (fun _ => ?_) (fun c => absurd (by decide) c)
  refine lv_iload S.1 S.2.1 dL_law_310 (lv_at hl 1 rfl) ?_
  refine lv_if_ne (tgt := 327) S.1 S.2.1 dL_law_312 (by decide) (fun _ => ?_) (fun c => absurd c (by decide))
  refine lv_goto (tgt := 2650) S.1 S.2.1 dL_law_327 (by decide) ?_
  refine lv_iinc (v := 5) (lv' := [(5, .int 5), (7, .int 0), (6, .int 1), (0, .ref b), (1, .ref N0), (2, .ref (N0 + 164)), (3, .ref (N0 + 229)), (4, .ref (N0 + 230))]) S.1 S.2.1 dL_law_2650 hl (k := 7) rfl (by decide) (by decide) rfl (fun ls hl => ?_)
  refine lv_goto (tgt := 28) S.1 S.2.1 dL_law_2653 (by decide) ?_
  refine lv_iload S.1 S.2.1 dL_law_28 (lv_at hl 0 rfl) ?_
  refine lv_aload_n S.1 S.2.1 dL_law_30 rfl (lv_at hl 3 rfl) ?_
  refine gx_slen (v := 5) S hG hX hbl rfl dL_law_31 ?_
  refine lv_iconst (v := 5) S.1 S.2.1 dL_law_32 (by decide) ?_
  refine lv_isub S.1 S.2.1 dL_law_33 ?_
  refine fx_topi (y := 0) (by decide) ?_
  refine lv_icmp_gt (tgt := 2656) S.1 S.2.1 dL_law_34 (by decide) (fun _ => ?_) (fun c => absurd (by decide) c)
  refine lv_iconst (v := 1) S.1 S.2.1 dL_law_2656 (by decide) ?_
  refine va_forget (fun q hq => by rw [hN]; exact hG.2.1.2.2 q hq) ?_
  refine W.widen (k := 600002) (n := 7302232) (by decide) (by decide) ?_
  exact lw_ret (d0 := s.drawn) (Drawn.sameBut.refl _ _) S.1 S.2.1 hr hlocks dL_law_2657
theorem l1_1 {p : Program} {e : Env} {s : State} {m : MethodId} {below : List Frame} {meth : Method} {c : Code} {b : Nat} {xs : Nat → Int32} {H : Heap} {locs : List Loc} {ls : Array Slot} {n : Nat} {a2 a3 a4 : Int32} (S : CallFix p m c cL_law 9 s #[.ref b] wsL_law "TreeDifferLaw") (hr : meth.sig.returnType = ret) (hlocks : meth.locks = false) (hst : l.stackTraces = false) (hX : va_X b 5 xs s s.heap) (hbl : b < s.heap.size ∧ b < N0) (hN : s.heap.size = N0) (hn : N0 + 231 ≤ n) (hx1 : xs 1 = 0) (hx2 : xs 2 = a2) (hx3 : xs 3 = a3) (hx4 : xs 4 = a4) (h0 : F N0 = some (.inr (9, [.ref (N0 + 1), .ref (N0 + 2), .ref (N0 + 11), .ref (N0 + 13), .ref (N0 + 63), .ref (N0 + 65), .ref (N0 + 85), .int (-1), .int (-1), .int 32]))) (h1 : F (N0 + 1) = some (.inl (cTr, 3, .inr (.inr (.inr (.inr (va_up (va_up (va_up (fun _ => none) 0 (some (N0 + 143))) 1 (some (N0 + 150))) 2 (some (N0 + 157))))))))) (h2 : F (N0 + 2) = some (.inr (6, [.ref (N0 + 3), .int 0, .int 0, .ref (N0 + 4)]))) (h3 : F (N0 + 4) = some (.inr (7, [.ref (N0 + 5), .ref (N0 + 6), .ref (N0 + 7), .ref (N0 + 8), .ref (N0 + 9), .ref (N0 + 10), .int 1]))) (h4 : F (N0 + 164) = some (.inr (12, [.ref (N0 + 165), .int 0, .ref (N0 + 181), .int 0, .int 0, .int 0, .int (-1), .ref (ql 24), .ref (N0 + 182), .ref (N0 + 187), .ref (N0 + 208), .ref (N0 + 209), .ref (N0 + 210), .ref (N0 + 211), .ref (N0 + 212), .int 0, .ref (N0 + 213), .ref (N0 + 218), .ref (N0 + 223), .ref (N0 + 224), .ref (N0 + 225), .ref (N0 + 226), .ref (N0 + 227), .int 0, .int 0, .ref (N0 + 228), .null, .int (-1), .int 0, .int 0, .int 0]))) (h5 : F (N0 + 182) = some (.inr (11, [.ref (N0 + 183), .ref (N0 + 184), .ref (N0 + 185), .ref (N0 + 186), .int 0]))) (hG : fG N0 D vwCl (fty cI cC cL cD cII cTr cTm cIt cB) (fen ql) s F n H locs) (hl : lv_has ls 9 [(0, .ref b), (1, .ref N0), (2, .ref (N0 + 164)), (3, .ref (N0 + 229)), (4, .ref (N0 + 230)), (5, .int 0)]) : W p l e { frames := 2048, cells := 600002, slots := 7302232, locals := 84000 } s m #[.ref b] below meth c H locs 231 4980 (lw_Z below #[.ref b] s) (F0 m 274 ls []) := by
  have lt_h0 := hG.1.lt h0
  have lt_h1 := hG.1.lt h1
  have lt_h2 := hG.1.lt h2
  have lt_h3 := hG.1.lt h3
  have lt_h4 := hG.1.lt h4
  have lt_h5 := hG.1.lt h5
  refine lv_aload_n S.1 S.2.1 dL_law_274 rfl (lv_at hl 1 rfl) ?_
  refine lv_aload_n S.1 S.2.1 dL_law_275 rfl (lv_at hl 0 rfl) ?_
  refine lv_iload S.1 S.2.1 dL_law_276 (lv_at hl 5 rfl) ?_
  refine lv_iconst (v := 1) S.1 S.2.1 dL_law_278 (by decide) ?_
  refine lv_iadd S.1 S.2.1 dL_law_279 ?_
  refine fx_topi (y := 1) (by decide) ?_
  refine gx_sld (v := 0) S hG hX hbl (fin_l (by decide)) hx1 dL_law_280 ?_
  refine lv_aload_n S.1 S.2.1 dL_law_281 rfl (lv_at hl 3 rfl) ?_
  refine fx_cTi (As := [.ref N0, .int 0, .ref (N0 + 229)]) (rest := []) S hG (k32_L_read hst (by omega) h0 h1 h2 h3) (vx_cwSW 3 S.2.2.2.2 gL_law_L_read rfl rfl rfl (by decide +kernel) ⟨Nat.le_of_ble_eq_true rfl, Nat.le_of_ble_eq_true rfl⟩) rfl hl.1 rfl (Nat.le_of_ble_eq_true rfl) dL_law_282 ⟨Nat.le_of_ble_eq_true rfl, Nat.le_of_ble_eq_true rfl⟩ (fun rv_u_1 u_1 H locs hp hG => ?_)
  obtain ⟨rfl, hu_1⟩ := hp
  refine W.widen (k := 232) (n := 4986) (by decide) (by decide) ?_
  refine lv_istore (lv' := [(6, .int 2), (0, .ref b), (1, .ref N0), (2, .ref (N0 + 164)), (3, .ref (N0 + 229)), (4, .ref (N0 + 230)), (5, .int 0)]) S.1 S.2.1 dL_law_285 hl (by decide) rfl (fun ls hl => ?_)
  refine lv_aload_n S.1 S.2.1 dL_law_287 rfl (lv_at hl 3 rfl) ?_
  refine lv_aload_n S.1 S.2.1 dL_law_288 rfl (lv_at hl 1 rfl) ?_
  refine lv_iload S.1 S.2.1 dL_law_289 (lv_at hl 6 rfl) ?_
  refine lv_iconst (v := 1) S.1 S.2.1 dL_law_291 (by decide) ?_
  refine lv_iadd S.1 S.2.1 dL_law_292 ?_
  refine fx_topi (y := 1) (by decide) ?_
  refine gx_sld (v := 0) S hG hX hbl (fin_l (by decide)) hx1 dL_law_293 ?_
  refine fx_cVi (As := [.int 0]) (rest := []) S hG (k40_X10_read (by omega) (fu_at (by omega) (fu_at (by omega) (fu_at (by omega) h4))) (fu_at (by omega) (fu_at (by omega) (fu_at (by omega) h5)))) (fu_at (by omega) (fu_at (by omega) (fu_at (by omega) h4))) rfl (cwV 1 S.2.2.2.2 gL_law_X10_read rfl rfl rfl (by decide +kernel) ⟨Nat.le_of_ble_eq_true rfl, Nat.le_of_ble_eq_true rfl⟩) rfl hl.1 rfl (Nat.le_of_ble_eq_true rfl) dL_law_294 ⟨Nat.le_of_ble_eq_true rfl, Nat.le_of_ble_eq_true rfl⟩ (fun rv_2 _ H locs hp hG => ?_)
  subst rv_2
  refine lv_istore (lv' := [(7, .int 0), (6, .int 2), (0, .ref b), (1, .ref N0), (2, .ref (N0 + 164)), (3, .ref (N0 + 229)), (4, .ref (N0 + 230)), (5, .int 0)]) S.1 S.2.1 dL_law_297 hl (by decide) rfl (fun ls hl => ?_)
  refine lv_aload_n S.1 S.2.1 dL_law_299 rfl (lv_at hl 4 rfl) ?_
  refine fx_cVi (As := []) (rest := []) S hG (k41_X10_thrown (by omega) fu_s) fu_s rfl (cwV 0 S.2.2.2.2 gL_law_X10_thrown rfl rfl rfl (by decide +kernel) ⟨Nat.le_of_ble_eq_true rfl, Nat.le_of_ble_eq_true rfl⟩) rfl hl.1 rfl (Nat.le_of_ble_eq_true rfl) dL_law_300 ⟨Nat.le_of_ble_eq_true rfl, Nat.le_of_ble_eq_true rfl⟩ (fun rv_3 _ H locs hp hG => ?_)
  subst rv_3
  refine lv_iload S.1 S.2.1 dL_law_303 (lv_at hl 1 rfl) ?_
  refine lv_icmp_eq (tgt := 310) S.1 S.2.1 dL_law_305 (by decide) (fun _ => ?_) (fun c => absurd (by decide) c)
  refine lv_iload S.1 S.2.1 dL_law_310 (lv_at hl 1 rfl) ?_
  refine lv_if_ne (tgt := 327) S.1 S.2.1 dL_law_312 (by decide) (fun _ => ?_) (fun c => absurd c (by decide))
  refine lv_goto (tgt := 2650) S.1 S.2.1 dL_law_327 (by decide) ?_
  refine lv_iinc (v := 5) (lv' := [(5, .int 5), (7, .int 0), (6, .int 2), (0, .ref b), (1, .ref N0), (2, .ref (N0 + 164)), (3, .ref (N0 + 229)), (4, .ref (N0 + 230))]) S.1 S.2.1 dL_law_2650 hl (k := 7) rfl (by decide) (by decide) rfl (fun ls hl => ?_)
  refine lv_goto (tgt := 28) S.1 S.2.1 dL_law_2653 (by decide) ?_
  refine lv_iload S.1 S.2.1 dL_law_28 (lv_at hl 0 rfl) ?_
  refine lv_aload_n S.1 S.2.1 dL_law_30 rfl (lv_at hl 3 rfl) ?_
  refine gx_slen (v := 5) S hG hX hbl rfl dL_law_31 ?_
  refine lv_iconst (v := 5) S.1 S.2.1 dL_law_32 (by decide) ?_
  refine lv_isub S.1 S.2.1 dL_law_33 ?_
  refine fx_topi (y := 0) (by decide) ?_
  refine lv_icmp_gt (tgt := 2656) S.1 S.2.1 dL_law_34 (by decide) (fun _ => ?_) (fun c => absurd (by decide) c)
  refine lv_iconst (v := 1) S.1 S.2.1 dL_law_2656 (by decide) ?_
  refine va_forget (fun q hq => by rw [hN]; exact hG.2.1.2.2 q hq) ?_
  refine W.widen (k := 600002) (n := 7302232) (by decide) (by decide) ?_
  exact lw_ret (d0 := s.drawn) (Drawn.sameBut.refl _ _) S.1 S.2.1 hr hlocks dL_law_2657
theorem l1_2 {p : Program} {e : Env} {s : State} {m : MethodId} {below : List Frame} {meth : Method} {c : Code} {b : Nat} {xs : Nat → Int32} {H : Heap} {locs : List Loc} {ls : Array Slot} {n : Nat} {a2 a3 a4 : Int32} (S : CallFix p m c cL_law 9 s #[.ref b] wsL_law "TreeDifferLaw") (hr : meth.sig.returnType = ret) (hlocks : meth.locks = false) (hst : l.stackTraces = false) (hX : va_X b 5 xs s s.heap) (hbl : b < s.heap.size ∧ b < N0) (hN : s.heap.size = N0) (hn : N0 + 231 ≤ n) (hx1 : xs 1 = 1) (hx2 : xs 2 = a2) (hx3 : xs 3 = a3) (hx4 : xs 4 = a4) (h0 : F N0 = some (.inr (9, [.ref (N0 + 1), .ref (N0 + 2), .ref (N0 + 11), .ref (N0 + 13), .ref (N0 + 63), .ref (N0 + 65), .ref (N0 + 85), .int (-1), .int (-1), .int 32]))) (h1 : F (N0 + 1) = some (.inl (cTr, 3, .inr (.inr (.inr (.inr (va_up (va_up (va_up (fun _ => none) 0 (some (N0 + 143))) 1 (some (N0 + 150))) 2 (some (N0 + 157))))))))) (h2 : F (N0 + 2) = some (.inr (6, [.ref (N0 + 3), .int 0, .int 0, .ref (N0 + 4)]))) (h3 : F (N0 + 4) = some (.inr (7, [.ref (N0 + 5), .ref (N0 + 6), .ref (N0 + 7), .ref (N0 + 8), .ref (N0 + 9), .ref (N0 + 10), .int 1]))) (h4 : F (N0 + 164) = some (.inr (12, [.ref (N0 + 165), .int 0, .ref (N0 + 181), .int 0, .int 0, .int 0, .int (-1), .ref (ql 24), .ref (N0 + 182), .ref (N0 + 187), .ref (N0 + 208), .ref (N0 + 209), .ref (N0 + 210), .ref (N0 + 211), .ref (N0 + 212), .int 0, .ref (N0 + 213), .ref (N0 + 218), .ref (N0 + 223), .ref (N0 + 224), .ref (N0 + 225), .ref (N0 + 226), .ref (N0 + 227), .int 0, .int 0, .ref (N0 + 228), .null, .int (-1), .int 0, .int 0, .int 0]))) (h5 : F (N0 + 182) = some (.inr (11, [.ref (N0 + 183), .ref (N0 + 184), .ref (N0 + 185), .ref (N0 + 186), .int 0]))) (hG : fG N0 D vwCl (fty cI cC cL cD cII cTr cTm cIt cB) (fen ql) s F n H locs) (hl : lv_has ls 9 [(0, .ref b), (1, .ref N0), (2, .ref (N0 + 164)), (3, .ref (N0 + 229)), (4, .ref (N0 + 230)), (5, .int 0)]) : W p l e { frames := 2048, cells := 600002, slots := 7302232, locals := 84000 } s m #[.ref b] below meth c H locs 231 4980 (lw_Z below #[.ref b] s) (F0 m 274 ls []) := by
  have lt_h0 := hG.1.lt h0
  have lt_h1 := hG.1.lt h1
  have lt_h2 := hG.1.lt h2
  have lt_h3 := hG.1.lt h3
  have lt_h4 := hG.1.lt h4
  have lt_h5 := hG.1.lt h5
  refine lv_aload_n S.1 S.2.1 dL_law_274 rfl (lv_at hl 1 rfl) ?_
  refine lv_aload_n S.1 S.2.1 dL_law_275 rfl (lv_at hl 0 rfl) ?_
  refine lv_iload S.1 S.2.1 dL_law_276 (lv_at hl 5 rfl) ?_
  refine lv_iconst (v := 1) S.1 S.2.1 dL_law_278 (by decide) ?_
  refine lv_iadd S.1 S.2.1 dL_law_279 ?_
  refine fx_topi (y := 1) (by decide) ?_
  refine gx_sld (v := 1) S hG hX hbl (fin_l (by decide)) hx1 dL_law_280 ?_
  refine lv_aload_n S.1 S.2.1 dL_law_281 rfl (lv_at hl 3 rfl) ?_
  refine fx_cTi (As := [.ref N0, .int 1, .ref (N0 + 229)]) (rest := []) S hG (k44_L_read hst (by omega) h0 h1 h2 h3) (vx_cwSW 3 S.2.2.2.2 gL_law_L_read rfl rfl rfl (by decide +kernel) ⟨Nat.le_of_ble_eq_true rfl, Nat.le_of_ble_eq_true rfl⟩) rfl hl.1 rfl (Nat.le_of_ble_eq_true rfl) dL_law_282 ⟨Nat.le_of_ble_eq_true rfl, Nat.le_of_ble_eq_true rfl⟩ (fun rv_u_1 u_1 H locs hp hG => ?_)
  obtain ⟨rfl, hu_1⟩ := hp
  refine W.widen (k := 232) (n := 4986) (by decide) (by decide) ?_
  refine lv_istore (lv' := [(6, .int 2), (0, .ref b), (1, .ref N0), (2, .ref (N0 + 164)), (3, .ref (N0 + 229)), (4, .ref (N0 + 230)), (5, .int 0)]) S.1 S.2.1 dL_law_285 hl (by decide) rfl (fun ls hl => ?_)
  refine lv_aload_n S.1 S.2.1 dL_law_287 rfl (lv_at hl 3 rfl) ?_
  refine lv_aload_n S.1 S.2.1 dL_law_288 rfl (lv_at hl 1 rfl) ?_
  refine lv_iload S.1 S.2.1 dL_law_289 (lv_at hl 6 rfl) ?_
  refine lv_iconst (v := 1) S.1 S.2.1 dL_law_291 (by decide) ?_
  refine lv_iadd S.1 S.2.1 dL_law_292 ?_
  refine fx_topi (y := 1) (by decide) ?_
  refine gx_sld (v := 1) S hG hX hbl (fin_l (by decide)) hx1 dL_law_293 ?_
  refine fx_cVi (As := [.int 1]) (rest := []) S hG (k47_X10_read (by omega) (fu_at (by omega) (fu_at (by omega) (fu_at (by omega) h4))) (fu_at (by omega) (fu_at (by omega) (fu_at (by omega) h5)))) (fu_at (by omega) (fu_at (by omega) (fu_at (by omega) h4))) rfl (cwV 1 S.2.2.2.2 gL_law_X10_read rfl rfl rfl (by decide +kernel) ⟨Nat.le_of_ble_eq_true rfl, Nat.le_of_ble_eq_true rfl⟩) rfl hl.1 rfl (Nat.le_of_ble_eq_true rfl) dL_law_294 ⟨Nat.le_of_ble_eq_true rfl, Nat.le_of_ble_eq_true rfl⟩ (fun rv_2 _ H locs hp hG => ?_)
  subst rv_2
  refine lv_istore (lv' := [(7, .int 0), (6, .int 2), (0, .ref b), (1, .ref N0), (2, .ref (N0 + 164)), (3, .ref (N0 + 229)), (4, .ref (N0 + 230)), (5, .int 0)]) S.1 S.2.1 dL_law_297 hl (by decide) rfl (fun ls hl => ?_)
  refine lv_aload_n S.1 S.2.1 dL_law_299 rfl (lv_at hl 4 rfl) ?_
  refine fx_cVi (As := []) (rest := []) S hG (k41_X10_thrown (by omega) fu_s) fu_s rfl (cwV 0 S.2.2.2.2 gL_law_X10_thrown rfl rfl rfl (by decide +kernel) ⟨Nat.le_of_ble_eq_true rfl, Nat.le_of_ble_eq_true rfl⟩) rfl hl.1 rfl (Nat.le_of_ble_eq_true rfl) dL_law_300 ⟨Nat.le_of_ble_eq_true rfl, Nat.le_of_ble_eq_true rfl⟩ (fun rv_3 _ H locs hp hG => ?_)
  subst rv_3
  refine lv_iload S.1 S.2.1 dL_law_303 (lv_at hl 1 rfl) ?_
  refine lv_icmp_eq (tgt := 310) S.1 S.2.1 dL_law_305 (by decide) (fun _ => ?_) (fun c => absurd (by decide) c)
  refine lv_iload S.1 S.2.1 dL_law_310 (lv_at hl 1 rfl) ?_
  refine lv_if_ne (tgt := 327) S.1 S.2.1 dL_law_312 (by decide) (fun _ => ?_) (fun c => absurd c (by decide))
  refine lv_goto (tgt := 2650) S.1 S.2.1 dL_law_327 (by decide) ?_
  refine lv_iinc (v := 5) (lv' := [(5, .int 5), (7, .int 0), (6, .int 2), (0, .ref b), (1, .ref N0), (2, .ref (N0 + 164)), (3, .ref (N0 + 229)), (4, .ref (N0 + 230))]) S.1 S.2.1 dL_law_2650 hl (k := 7) rfl (by decide) (by decide) rfl (fun ls hl => ?_)
  refine lv_goto (tgt := 28) S.1 S.2.1 dL_law_2653 (by decide) ?_
  refine lv_iload S.1 S.2.1 dL_law_28 (lv_at hl 0 rfl) ?_
  refine lv_aload_n S.1 S.2.1 dL_law_30 rfl (lv_at hl 3 rfl) ?_
  refine gx_slen (v := 5) S hG hX hbl rfl dL_law_31 ?_
  refine lv_iconst (v := 5) S.1 S.2.1 dL_law_32 (by decide) ?_
  refine lv_isub S.1 S.2.1 dL_law_33 ?_
  refine fx_topi (y := 0) (by decide) ?_
  refine lv_icmp_gt (tgt := 2656) S.1 S.2.1 dL_law_34 (by decide) (fun _ => ?_) (fun c => absurd (by decide) c)
  refine lv_iconst (v := 1) S.1 S.2.1 dL_law_2656 (by decide) ?_
  refine va_forget (fun q hq => by rw [hN]; exact hG.2.1.2.2 q hq) ?_
  refine W.widen (k := 600002) (n := 7302232) (by decide) (by decide) ?_
  exact lw_ret (d0 := s.drawn) (Drawn.sameBut.refl _ _) S.1 S.2.1 hr hlocks dL_law_2657
theorem l1_3 {p : Program} {e : Env} {s : State} {m : MethodId} {below : List Frame} {meth : Method} {c : Code} {b : Nat} {xs : Nat → Int32} {H : Heap} {locs : List Loc} {ls : Array Slot} {n : Nat} {a2 a3 a4 : Int32} (S : CallFix p m c cL_law 9 s #[.ref b] wsL_law "TreeDifferLaw") (hr : meth.sig.returnType = ret) (hlocks : meth.locks = false) (hst : l.stackTraces = false) (hX : va_X b 5 xs s s.heap) (hbl : b < s.heap.size ∧ b < N0) (hN : s.heap.size = N0) (hn : N0 + 231 ≤ n) (hx1 : xs 1 = 2) (hx2 : xs 2 = a2) (hx3 : xs 3 = a3) (hx4 : xs 4 = a4) (h0 : F N0 = some (.inr (9, [.ref (N0 + 1), .ref (N0 + 2), .ref (N0 + 11), .ref (N0 + 13), .ref (N0 + 63), .ref (N0 + 65), .ref (N0 + 85), .int (-1), .int (-1), .int 32]))) (h1 : F (N0 + 1) = some (.inl (cTr, 3, .inr (.inr (.inr (.inr (va_up (va_up (va_up (fun _ => none) 0 (some (N0 + 143))) 1 (some (N0 + 150))) 2 (some (N0 + 157))))))))) (h2 : F (N0 + 2) = some (.inr (6, [.ref (N0 + 3), .int 0, .int 0, .ref (N0 + 4)]))) (h3 : F (N0 + 4) = some (.inr (7, [.ref (N0 + 5), .ref (N0 + 6), .ref (N0 + 7), .ref (N0 + 8), .ref (N0 + 9), .ref (N0 + 10), .int 1]))) (h4 : F (N0 + 164) = some (.inr (12, [.ref (N0 + 165), .int 0, .ref (N0 + 181), .int 0, .int 0, .int 0, .int (-1), .ref (ql 24), .ref (N0 + 182), .ref (N0 + 187), .ref (N0 + 208), .ref (N0 + 209), .ref (N0 + 210), .ref (N0 + 211), .ref (N0 + 212), .int 0, .ref (N0 + 213), .ref (N0 + 218), .ref (N0 + 223), .ref (N0 + 224), .ref (N0 + 225), .ref (N0 + 226), .ref (N0 + 227), .int 0, .int 0, .ref (N0 + 228), .null, .int (-1), .int 0, .int 0, .int 0]))) (h5 : F (N0 + 182) = some (.inr (11, [.ref (N0 + 183), .ref (N0 + 184), .ref (N0 + 185), .ref (N0 + 186), .int 0]))) (hG : fG N0 D vwCl (fty cI cC cL cD cII cTr cTm cIt cB) (fen ql) s F n H locs) (hl : lv_has ls 9 [(0, .ref b), (1, .ref N0), (2, .ref (N0 + 164)), (3, .ref (N0 + 229)), (4, .ref (N0 + 230)), (5, .int 0)]) : W p l e { frames := 2048, cells := 600002, slots := 7302232, locals := 84000 } s m #[.ref b] below meth c H locs 231 4980 (lw_Z below #[.ref b] s) (F0 m 274 ls []) := by
  have lt_h0 := hG.1.lt h0
  have lt_h1 := hG.1.lt h1
  have lt_h2 := hG.1.lt h2
  have lt_h3 := hG.1.lt h3
  have lt_h4 := hG.1.lt h4
  have lt_h5 := hG.1.lt h5
  refine lv_aload_n S.1 S.2.1 dL_law_274 rfl (lv_at hl 1 rfl) ?_
  refine lv_aload_n S.1 S.2.1 dL_law_275 rfl (lv_at hl 0 rfl) ?_
  refine lv_iload S.1 S.2.1 dL_law_276 (lv_at hl 5 rfl) ?_
  refine lv_iconst (v := 1) S.1 S.2.1 dL_law_278 (by decide) ?_
  refine lv_iadd S.1 S.2.1 dL_law_279 ?_
  refine fx_topi (y := 1) (by decide) ?_
  refine gx_sld (v := 2) S hG hX hbl (fin_l (by decide)) hx1 dL_law_280 ?_
  refine lv_aload_n S.1 S.2.1 dL_law_281 rfl (lv_at hl 3 rfl) ?_
  refine fx_cTi (As := [.ref N0, .int 2, .ref (N0 + 229)]) (rest := []) S hG (k50_L_read hst (by omega) h0 h1 h2 h3) (vx_cwSW 3 S.2.2.2.2 gL_law_L_read rfl rfl rfl (by decide +kernel) ⟨Nat.le_of_ble_eq_true rfl, Nat.le_of_ble_eq_true rfl⟩) rfl hl.1 rfl (Nat.le_of_ble_eq_true rfl) dL_law_282 ⟨Nat.le_of_ble_eq_true rfl, Nat.le_of_ble_eq_true rfl⟩ (fun rv_u_1 u_1 H locs hp hG => ?_)
  obtain ⟨rfl, hu_1⟩ := hp
  refine W.widen (k := 232) (n := 4986) (by decide) (by decide) ?_
  refine lv_istore (lv' := [(6, .int 2), (0, .ref b), (1, .ref N0), (2, .ref (N0 + 164)), (3, .ref (N0 + 229)), (4, .ref (N0 + 230)), (5, .int 0)]) S.1 S.2.1 dL_law_285 hl (by decide) rfl (fun ls hl => ?_)
  refine lv_aload_n S.1 S.2.1 dL_law_287 rfl (lv_at hl 3 rfl) ?_
  refine lv_aload_n S.1 S.2.1 dL_law_288 rfl (lv_at hl 1 rfl) ?_
  refine lv_iload S.1 S.2.1 dL_law_289 (lv_at hl 6 rfl) ?_
  refine lv_iconst (v := 1) S.1 S.2.1 dL_law_291 (by decide) ?_
  refine lv_iadd S.1 S.2.1 dL_law_292 ?_
  refine fx_topi (y := 1) (by decide) ?_
  refine gx_sld (v := 2) S hG hX hbl (fin_l (by decide)) hx1 dL_law_293 ?_
  refine fx_cVi (As := [.int 2]) (rest := []) S hG (k53_X10_read (by omega) (fu_at (by omega) (fu_at (by omega) (fu_at (by omega) h4))) (fu_at (by omega) (fu_at (by omega) (fu_at (by omega) h5)))) (fu_at (by omega) (fu_at (by omega) (fu_at (by omega) h4))) rfl (cwV 1 S.2.2.2.2 gL_law_X10_read rfl rfl rfl (by decide +kernel) ⟨Nat.le_of_ble_eq_true rfl, Nat.le_of_ble_eq_true rfl⟩) rfl hl.1 rfl (Nat.le_of_ble_eq_true rfl) dL_law_294 ⟨Nat.le_of_ble_eq_true rfl, Nat.le_of_ble_eq_true rfl⟩ (fun rv_2 _ H locs hp hG => ?_)
  subst rv_2
  refine lv_istore (lv' := [(7, .int 0), (6, .int 2), (0, .ref b), (1, .ref N0), (2, .ref (N0 + 164)), (3, .ref (N0 + 229)), (4, .ref (N0 + 230)), (5, .int 0)]) S.1 S.2.1 dL_law_297 hl (by decide) rfl (fun ls hl => ?_)
  refine lv_aload_n S.1 S.2.1 dL_law_299 rfl (lv_at hl 4 rfl) ?_
  refine fx_cVi (As := []) (rest := []) S hG (k41_X10_thrown (by omega) fu_s) fu_s rfl (cwV 0 S.2.2.2.2 gL_law_X10_thrown rfl rfl rfl (by decide +kernel) ⟨Nat.le_of_ble_eq_true rfl, Nat.le_of_ble_eq_true rfl⟩) rfl hl.1 rfl (Nat.le_of_ble_eq_true rfl) dL_law_300 ⟨Nat.le_of_ble_eq_true rfl, Nat.le_of_ble_eq_true rfl⟩ (fun rv_3 _ H locs hp hG => ?_)
  subst rv_3
  refine lv_iload S.1 S.2.1 dL_law_303 (lv_at hl 1 rfl) ?_
  refine lv_icmp_eq (tgt := 310) S.1 S.2.1 dL_law_305 (by decide) (fun _ => ?_) (fun c => absurd (by decide) c)
  refine lv_iload S.1 S.2.1 dL_law_310 (lv_at hl 1 rfl) ?_
  refine lv_if_ne (tgt := 327) S.1 S.2.1 dL_law_312 (by decide) (fun _ => ?_) (fun c => absurd c (by decide))
  refine lv_goto (tgt := 2650) S.1 S.2.1 dL_law_327 (by decide) ?_
  refine lv_iinc (v := 5) (lv' := [(5, .int 5), (7, .int 0), (6, .int 2), (0, .ref b), (1, .ref N0), (2, .ref (N0 + 164)), (3, .ref (N0 + 229)), (4, .ref (N0 + 230))]) S.1 S.2.1 dL_law_2650 hl (k := 7) rfl (by decide) (by decide) rfl (fun ls hl => ?_)
  refine lv_goto (tgt := 28) S.1 S.2.1 dL_law_2653 (by decide) ?_
  refine lv_iload S.1 S.2.1 dL_law_28 (lv_at hl 0 rfl) ?_
  refine lv_aload_n S.1 S.2.1 dL_law_30 rfl (lv_at hl 3 rfl) ?_
  refine gx_slen (v := 5) S hG hX hbl rfl dL_law_31 ?_
  refine lv_iconst (v := 5) S.1 S.2.1 dL_law_32 (by decide) ?_
  refine lv_isub S.1 S.2.1 dL_law_33 ?_
  refine fx_topi (y := 0) (by decide) ?_
  refine lv_icmp_gt (tgt := 2656) S.1 S.2.1 dL_law_34 (by decide) (fun _ => ?_) (fun c => absurd (by decide) c)
  refine lv_iconst (v := 1) S.1 S.2.1 dL_law_2656 (by decide) ?_
  refine va_forget (fun q hq => by rw [hN]; exact hG.2.1.2.2 q hq) ?_
  refine W.widen (k := 600002) (n := 7302232) (by decide) (by decide) ?_
  exact lw_ret (d0 := s.drawn) (Drawn.sameBut.refl _ _) S.1 S.2.1 hr hlocks dL_law_2657
theorem l1_4 {p : Program} {e : Env} {s : State} {m : MethodId} {below : List Frame} {meth : Method} {c : Code} {b : Nat} {xs : Nat → Int32} {H : Heap} {locs : List Loc} {ls : Array Slot} {n : Nat} {a1 a2 a3 a4 : Int32} (g_a1_ge_3 : 3 ≤ a1) (S : CallFix p m c cL_law 9 s #[.ref b] wsL_law "TreeDifferLaw") (hr : meth.sig.returnType = ret) (hlocks : meth.locks = false) (hst : l.stackTraces = false) (hX : va_X b 5 xs s s.heap) (hbl : b < s.heap.size ∧ b < N0) (hN : s.heap.size = N0) (hn : N0 + 231 ≤ n) (hx1 : xs 1 = a1) (hx2 : xs 2 = a2) (hx3 : xs 3 = a3) (hx4 : xs 4 = a4) (h0 : F N0 = some (.inr (9, [.ref (N0 + 1), .ref (N0 + 2), .ref (N0 + 11), .ref (N0 + 13), .ref (N0 + 63), .ref (N0 + 65), .ref (N0 + 85), .int (-1), .int (-1), .int 32]))) (h1 : F (N0 + 164) = some (.inr (12, [.ref (N0 + 165), .int 0, .ref (N0 + 181), .int 0, .int 0, .int 0, .int (-1), .ref (ql 24), .ref (N0 + 182), .ref (N0 + 187), .ref (N0 + 208), .ref (N0 + 209), .ref (N0 + 210), .ref (N0 + 211), .ref (N0 + 212), .int 0, .ref (N0 + 213), .ref (N0 + 218), .ref (N0 + 223), .ref (N0 + 224), .ref (N0 + 225), .ref (N0 + 226), .ref (N0 + 227), .int 0, .int 0, .ref (N0 + 228), .null, .int (-1), .int 0, .int 0, .int 0]))) (hG : fG N0 D vwCl (fty cI cC cL cD cII cTr cTm cIt cB) (fen ql) s F n H locs) (hl : lv_has ls 9 [(0, .ref b), (1, .ref N0), (2, .ref (N0 + 164)), (3, .ref (N0 + 229)), (4, .ref (N0 + 230)), (5, .int 0)]) : W p l e { frames := 2048, cells := 600002, slots := 7302232, locals := 84000 } s m #[.ref b] below meth c H locs 231 4980 (lw_Z below #[.ref b] s) (F0 m 274 ls []) := by
  have lt_h0 := hG.1.lt h0
  have lt_h1 := hG.1.lt h1
  refine lv_aload_n S.1 S.2.1 dL_law_274 rfl (lv_at hl 1 rfl) ?_
  refine lv_aload_n S.1 S.2.1 dL_law_275 rfl (lv_at hl 0 rfl) ?_
  refine lv_iload S.1 S.2.1 dL_law_276 (lv_at hl 5 rfl) ?_
  refine lv_iconst (v := 1) S.1 S.2.1 dL_law_278 (by decide) ?_
  refine lv_iadd S.1 S.2.1 dL_law_279 ?_
  refine fx_topi (y := 1) (by decide) ?_
  refine gx_sld (v := a1) S hG hX hbl (fin_l (by decide)) hx1 dL_law_280 ?_
  refine lv_aload_n S.1 S.2.1 dL_law_281 rfl (lv_at hl 3 rfl) ?_
  refine fx_cTi (As := [.ref N0, .int a1, .ref (N0 + 229)]) (rest := []) S hG (k56_L_read g_a1_ge_3 hst (by omega) h0) (vx_cwSW 3 S.2.2.2.2 gL_law_L_read rfl rfl rfl (by decide +kernel) ⟨Nat.le_of_ble_eq_true rfl, Nat.le_of_ble_eq_true rfl⟩) rfl hl.1 rfl (Nat.le_of_ble_eq_true rfl) dL_law_282 ⟨Nat.le_of_ble_eq_true rfl, Nat.le_of_ble_eq_true rfl⟩ (fun rv_u_1 u_1 H locs hp hG => ?_)
  obtain ⟨rfl, hu_1⟩ := hp
  refine W.widen (k := 232) (n := 4986) (by decide) (by decide) ?_
  refine lv_istore (lv' := [(6, .int 1), (0, .ref b), (1, .ref N0), (2, .ref (N0 + 164)), (3, .ref (N0 + 229)), (4, .ref (N0 + 230)), (5, .int 0)]) S.1 S.2.1 dL_law_285 hl (by decide) rfl (fun ls hl => ?_)
  refine lv_aload_n S.1 S.2.1 dL_law_287 rfl (lv_at hl 3 rfl) ?_
  refine lv_aload_n S.1 S.2.1 dL_law_288 rfl (lv_at hl 1 rfl) ?_
  refine lv_iload S.1 S.2.1 dL_law_289 (lv_at hl 6 rfl) ?_
  refine lv_iconst (v := 1) S.1 S.2.1 dL_law_291 (by decide) ?_
  refine lv_iadd S.1 S.2.1 dL_law_292 ?_
  refine fx_topi (y := 1) (by decide) ?_
  refine gx_sld (v := a1) S hG hX hbl (fin_l (by decide)) hx1 dL_law_293 ?_
  refine fx_cVi (As := [.int a1]) (rest := []) S hG (k59_X10_read g_a1_ge_3 (by omega) h1) h1 rfl (cwV 1 S.2.2.2.2 gL_law_X10_read rfl rfl rfl (by decide +kernel) ⟨Nat.le_of_ble_eq_true rfl, Nat.le_of_ble_eq_true rfl⟩) rfl hl.1 rfl (Nat.le_of_ble_eq_true rfl) dL_law_294 ⟨Nat.le_of_ble_eq_true rfl, Nat.le_of_ble_eq_true rfl⟩ (fun rv_2 _ H locs hp hG => ?_)
  subst rv_2
  refine lv_istore (lv' := [(7, .int 0), (6, .int 1), (0, .ref b), (1, .ref N0), (2, .ref (N0 + 164)), (3, .ref (N0 + 229)), (4, .ref (N0 + 230)), (5, .int 0)]) S.1 S.2.1 dL_law_297 hl (by decide) rfl (fun ls hl => ?_)
  refine lv_aload_n S.1 S.2.1 dL_law_299 rfl (lv_at hl 4 rfl) ?_
  refine fx_cVi (As := []) (rest := []) S hG (k25_X10_thrown (by omega) fu_s) fu_s rfl (cwV 0 S.2.2.2.2 gL_law_X10_thrown rfl rfl rfl (by decide +kernel) ⟨Nat.le_of_ble_eq_true rfl, Nat.le_of_ble_eq_true rfl⟩) rfl hl.1 rfl (Nat.le_of_ble_eq_true rfl) dL_law_300 ⟨Nat.le_of_ble_eq_true rfl, Nat.le_of_ble_eq_true rfl⟩ (fun rv_3 _ H locs hp hG => ?_)
  subst rv_3
  refine lv_iload S.1 S.2.1 dL_law_303 (lv_at hl 1 rfl) ?_
  refine lv_icmp_eq (tgt := 310) S.1 S.2.1 dL_law_305 (by decide) (fun _ => ?_) (fun c => absurd (by decide) c)
  refine lv_iload S.1 S.2.1 dL_law_310 (lv_at hl 1 rfl) ?_
  refine lv_if_ne (tgt := 327) S.1 S.2.1 dL_law_312 (by decide) (fun _ => ?_) (fun c => absurd c (by decide))
  refine lv_goto (tgt := 2650) S.1 S.2.1 dL_law_327 (by decide) ?_
  refine lv_iinc (v := 5) (lv' := [(5, .int 5), (7, .int 0), (6, .int 1), (0, .ref b), (1, .ref N0), (2, .ref (N0 + 164)), (3, .ref (N0 + 229)), (4, .ref (N0 + 230))]) S.1 S.2.1 dL_law_2650 hl (k := 7) rfl (by decide) (by decide) rfl (fun ls hl => ?_)
  refine lv_goto (tgt := 28) S.1 S.2.1 dL_law_2653 (by decide) ?_
  refine lv_iload S.1 S.2.1 dL_law_28 (lv_at hl 0 rfl) ?_
  refine lv_aload_n S.1 S.2.1 dL_law_30 rfl (lv_at hl 3 rfl) ?_
  refine gx_slen (v := 5) S hG hX hbl rfl dL_law_31 ?_
  refine lv_iconst (v := 5) S.1 S.2.1 dL_law_32 (by decide) ?_
  refine lv_isub S.1 S.2.1 dL_law_33 ?_
  refine fx_topi (y := 0) (by decide) ?_
  refine lv_icmp_gt (tgt := 2656) S.1 S.2.1 dL_law_34 (by decide) (fun _ => ?_) (fun c => absurd (by decide) c)
  refine lv_iconst (v := 1) S.1 S.2.1 dL_law_2656 (by decide) ?_
  refine va_forget (fun q hq => by rw [hN]; exact hG.2.1.2.2 q hq) ?_
  refine W.widen (k := 600002) (n := 7302232) (by decide) (by decide) ?_
  exact lw_ret (d0 := s.drawn) (Drawn.sameBut.refl _ _) S.1 S.2.1 hr hlocks dL_law_2657
theorem case_1 {p : Program} {e : Env} {s : State} {m : MethodId} {below : List Frame} {meth : Method} {c : Code} {b : Nat} {xs : Nat → Int32} {H : Heap} {locs : List Loc} {ls : Array Slot} {n : Nat} {a1 a2 a3 a4 : Int32} (S : CallFix p m c cL_law 9 s #[.ref b] wsL_law "TreeDifferLaw") (hr : meth.sig.returnType = ret) (hlocks : meth.locks = false) (hst : l.stackTraces = false) (hX : va_X b 5 xs s s.heap) (hbl : b < s.heap.size ∧ b < N0) (hN : s.heap.size = N0) (hn : N0 + 231 ≤ n) (hx1 : xs 1 = a1) (hx2 : xs 2 = a2) (hx3 : xs 3 = a3) (hx4 : xs 4 = a4) (hL : ∀ (i : Nat) (q : Nat × va_E), (lneed N0 cI cC cL cD cII cTr cTm cIt cB ql)[i]? = some q → F (N0 + q.1) = some q.2) (hG : fG N0 D vwCl (fty cI cC cL cD cII cTr cTm cIt cB) (fen ql) s F n H locs) (hl : lv_has ls 9 [(0, .ref b), (1, .ref N0), (2, .ref (N0 + 164)), (3, .ref (N0 + 229)), (4, .ref (N0 + 230)), (5, .int 0)]) : W p l e { frames := 2048, cells := 600002, slots := 7302232, locals := 84000 } s m #[.ref b] below meth c H locs 231 4980 (lw_Z below #[.ref b] s) (F0 m 274 ls []) := by
  have hn1 := pk_nc a1
  have hf1 := pk_fc a1
  have hv1 := pk_vc a1
  obtain ⟨g_c1_ge_0, g_c1_le_65535⟩ := fl_c0 a1
  generalize hc1 : (a1.toUInt32 % 65536).toInt32 = c1 at *
  have hn2 := pk_nc a2
  have hf2 := pk_fc a2
  have hv2 := pk_vc a2
  obtain ⟨g_c2_ge_0, g_c2_le_65535⟩ := fl_c0 a2
  generalize hc2 : (a2.toUInt32 % 65536).toInt32 = c2 at *
  have hn3 := pk_nc a3
  have hf3 := pk_fc a3
  have hv3 := pk_vc a3
  obtain ⟨g_c3_ge_0, g_c3_le_65535⟩ := fl_c0 a3
  generalize hc3 : (a3.toUInt32 % 65536).toInt32 = c3 at *
  have hn4 := pk_nc a4
  have hf4 := pk_fc a4
  have hv4 := pk_vc a4
  obtain ⟨g_c4_ge_0, g_c4_le_65535⟩ := fl_c0 a4
  generalize hc4 : (a4.toUInt32 % 65536).toInt32 = c4 at *
  rcases fl_cut a1 0 (-1) (by decide) with g_a1_le_m1 | g_a1_ge_0
  · skip
    exact l1_0 g_a1_le_m1 S hr hlocks hst hX hbl hN hn hx1 hx2 hx3 hx4 (hL 0 _ rfl) (hL 4 _ rfl) hG hl
  · skip
    rcases fl_cut a1 3 2 (by decide) with g_a1_le_2 | g_a1_ge_3
    · skip
      rcases fl_cut a1 1 0 (by decide) with g_a1_le_0 | g_a1_ge_1
      · skip
        obtain rfl : a1 = 0 := Int32.le_antisymm g_a1_le_0 g_a1_ge_0
        exact l1_1 S hr hlocks hst hX hbl hN hn hx1 hx2 hx3 hx4 (hL 0 _ rfl) (hL 6 _ rfl) (hL 1 _ rfl) (hL 7 _ rfl) (hL 4 _ rfl) (hL 8 _ rfl) hG hl
      · skip
        rcases fl_cut a1 2 1 (by decide) with g_a1_le_1 | g_a1_ge_2
        · skip
          obtain rfl : a1 = 1 := Int32.le_antisymm g_a1_le_1 g_a1_ge_1
          exact l1_2 S hr hlocks hst hX hbl hN hn hx1 hx2 hx3 hx4 (hL 0 _ rfl) (hL 6 _ rfl) (hL 1 _ rfl) (hL 7 _ rfl) (hL 4 _ rfl) (hL 8 _ rfl) hG hl
        · skip
          obtain rfl : a1 = 2 := Int32.le_antisymm g_a1_le_2 g_a1_ge_2
          exact l1_3 S hr hlocks hst hX hbl hN hn hx1 hx2 hx3 hx4 (hL 0 _ rfl) (hL 6 _ rfl) (hL 1 _ rfl) (hL 7 _ rfl) (hL 4 _ rfl) (hL 8 _ rfl) hG hl
    · skip
      exact l1_4 g_a1_ge_3 S hr hlocks hst hX hbl hN hn hx1 hx2 hx3 hx4 (hL 0 _ rfl) (hL 4 _ rfl) hG hl
