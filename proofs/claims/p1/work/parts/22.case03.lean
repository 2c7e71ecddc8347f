theorem dX7_writeTree_0 : decode cX7_writeTree 0 = .ok (.aload_n 0, 1) := by decide +kernel
theorem dX7_writeTree_1 : decode cX7_writeTree 1 = .ok (.iload_n 1, 1) := by decide +kernel
set_option maxRecDepth 20000 in
theorem ggX7_writeTree_X7_treeAt : GoodIn wsX7_writeTree wsX7_treeAt := goodIn_ca (goodIn_r _ [7, 8, 9, 10, 44, 45, 46, 47, 48, 49, 50, 51, 52, 53] (by decide +kernel) (by decide +kernel)) (goodIn_sub (fun _ h => List.mem_cons_of_mem _ (List.mem_append_right _ h)) (by decide +kernel))
set_option maxRecDepth 20000 in
theorem gX7_writeTree_X7_treeAt : GoodIn wsX7_writeTree (wsV RX7 83 RX7 yX7_treeAt wsX7_treeAt) := goodIn_app (goodIn_of _ (by decide +kernel)) ggX7_writeTree_X7_treeAt
theorem dX7_writeTree_2 : decode cX7_writeTree 2 = .ok (.invokevirtual 83, 3) := by decide +kernel
theorem dL_writeTree_0 : decode cL_writeTree 0 = .ok (.aload_n 2, 1) := by decide +kernel
theorem dL_writeTree_1 : decode cL_writeTree 1 = .ok (.iconst 0, 1) := by decide +kernel
theorem dL_writeTree_2 : decode cL_writeTree 2 = .ok (.aload_n 0, 1) := by decide +kernel
theorem dL_writeTree_3 : decode cL_writeTree 3 = .ok (.iload_n 1, 1) := by decide +kernel
set_option maxRecDepth 20000 in
theorem ggL_writeTree_X7_writeTree : GoodIn wsL_writeTree wsX7_writeTree := goodIn_ca (goodIn_r _ [6, 7, 8, 9, 10, 11, 5, 12, 13, 14, 15, 16, 17, 18, 19, 20, 21, 22, 23, 24, 25, 26, 27, 28, 29, 30, 31, 32, 33, 34, 35, 36, 37, 38, 39, 40, 41, 42, 43, 44, 45, 46, 47, 48, 49, 50, 51, 52, 53, 54, 55, 56, 57, 58, 59, 60, 61, 62, 63, 64, 65, 66, 67] (by decide +kernel) (by decide +kernel)) (goodIn_sub (fun _ h => List.mem_cons_of_mem _ (List.mem_append_right _ h)) (by decide +kernel))
set_option maxRecDepth 20000 in
theorem gL_writeTree_X7_writeTree : GoodIn wsL_writeTree (wsV RL 29 RX7 yX7_writeTree wsX7_writeTree) := goodIn_app (goodIn_of _ (by decide +kernel)) ggL_writeTree_X7_writeTree
theorem dL_writeTree_4 : decode cL_writeTree 4 = .ok (.invokevirtual 29, 3) := by decide +kernel
theorem dL_writeTree_12 : decode cL_writeTree 12 = .ok (.astore_n 3, 1) := by decide +kernel
theorem dL_writeTree_13 : decode cL_writeTree 13 = .ok (.iconst 1, 1) := by decide +kernel
theorem dL_writeTree_14 : decode cL_writeTree 14 = .ok (.ireturn, 1) := by decide +kernel
theorem dX10_writeTree_0 : decode cX10_writeTree 0 = .ok (.aload_n 0, 1) := by decide +kernel
theorem dX10_writeTree_1 : decode cX10_writeTree 1 = .ok (.iconst 0, 1) := by decide +kernel
theorem dX10_writeTree_2 : decode cX10_writeTree 2 = .ok (.putfield 105, 3) := by decide +kernel
theorem dX10_writeTree_5 : decode cX10_writeTree 5 = .ok (.iload_n 1, 1) := by decide +kernel
set_option maxRecDepth 20000 in
theorem ggX10_writeTree_X10_isTree : GoodIn wsX10_writeTree wsX10_isTree := goodIn_r _ [10, 11, 12, 9, 13] (by decide +kernel) (by decide +kernel)
set_option maxRecDepth 20000 in
theorem gX10_writeTree_X10_isTree : GoodIn wsX10_writeTree (va_wsS RX10 112 yX10_isTree wsX10_isTree) := goodIn_app (goodIn_of _ (by decide +kernel)) ggX10_writeTree_X10_isTree
theorem dX10_writeTree_6 : decode cX10_writeTree 6 = .ok (.invokestatic 112, 3) := by decide +kernel
theorem dX10_writeTree_9 : decode cX10_writeTree 9 = .ok (.ifCond .ne 9, 3) := by decide +kernel
theorem dX10_writeTree_12 : decode cX10_writeTree 12 = .ok (.aload_n 0, 1) := by decide +kernel
theorem dX10_writeTree_13 : decode cX10_writeTree 13 = .ok (.iconst 1, 1) := by decide +kernel
set_option maxRecDepth 20000 in
theorem ggX10_writeTree_X10_fails : GoodIn wsX10_writeTree wsX10_fails := goodIn_r _ [17, 1, 255, 256, 257, 258, 259, 260, 261, 262, 263, 264, 265, 266, 267, 268, 269, 270, 271, 272, 273, 274, 275, 276, 277, 278, 279, 280, 281, 282, 283, 284, 285] (by decide +kernel) (by decide +kernel)
set_option maxRecDepth 20000 in
theorem gX10_writeTree_X10_fails : GoodIn wsX10_writeTree (wsV RX10 126 RX10 yX10_fails wsX10_fails) := goodIn_app (goodIn_of _ (by decide +kernel)) ggX10_writeTree_X10_fails
theorem dX10_writeTree_14 : decode cX10_writeTree 14 = .ok (.invokevirtual 126, 3) := by decide +kernel
theorem dX10_writeTree_17 : decode cX10_writeTree 17 = .ok (.ireturn, 1) := by decide +kernel
theorem dX5_depthOf_0 : decode cX5_depthOf 0 = .ok (.iconst 0, 1) := by decide +kernel
theorem dX5_depthOf_1 : decode cX5_depthOf 1 = .ok (.istore_n 2, 1) := by decide +kernel
theorem dX5_depthOf_2 : decode cX5_depthOf 2 = .ok (.iload_n 1, 1) := by decide +kernel
theorem dX5_depthOf_3 : decode cX5_depthOf 3 = .ok (.istore_n 3, 1) := by decide +kernel
theorem dX5_depthOf_4 : decode cX5_depthOf 4 = .ok (.iload_n 3, 1) := by decide +kernel
theorem dX5_depthOf_5 : decode cX5_depthOf 5 = .ok (.ifCond .le 22, 3) := by decide +kernel
theorem dX5_depthOf_27 : decode cX5_depthOf 27 = .ok (.iload_n 2, 1) := by decide +kernel
theorem dX5_depthOf_28 : decode cX5_depthOf 28 = .ok (.ireturn, 1) := by decide +kernel
theorem dX0_appendClosings_0 : decode cX0_appendClosings 0 = .ok (.iconst 0, 1) := by decide +kernel
theorem dX0_appendClosings_1 : decode cX0_appendClosings 1 = .ok (.istore_n 2, 1) := by decide +kernel
theorem dX0_appendClosings_2 : decode cX0_appendClosings 2 = .ok (.iload_n 2, 1) := by decide +kernel
theorem dX0_appendClosings_3 : decode cX0_appendClosings 3 = .ok (.iload_n 1, 1) := by decide +kernel
theorem dX0_appendClosings_4 : decode cX0_appendClosings 4 = .ok (.if_icmp .ge 15, 3) := by decide +kernel
theorem dX0_appendClosings_19 : decode cX0_appendClosings 19 = .ok (.return_, 1) := by decide +kernel
theorem dX0_append_0 : decode cX0_append 0 = .ok (.aload_n 0, 1) := by decide +kernel
theorem dX0_append_1 : decode cX0_append 1 = .ok (.getfield 15, 3) := by decide +kernel
theorem dX0_append_4 : decode cX0_append 4 = .ok (.ifCond .lt 33, 3) := by decide +kernel
theorem dX0_append_7 : decode cX0_append 7 = .ok (.aload_n 0, 1) := by decide +kernel
theorem dX0_append_8 : decode cX0_append 8 = .ok (.getfield 15, 3) := by decide +kernel
theorem dX0_append_11 : decode cX0_append 11 = .ok (.sipush 160, 3) := by decide +kernel
theorem dX0_append_14 : decode cX0_append 14 = .ok (.if_icmp .ge 23, 3) := by decide +kernel
theorem dX0_append_17 : decode cX0_append 17 = .ok (.aload_n 0, 1) := by decide +kernel
theorem dX0_append_18 : decode cX0_append 18 = .ok (.getfield 9, 3) := by decide +kernel
theorem dX0_append_21 : decode cX0_append 21 = .ok (.aload_n 0, 1) := by decide +kernel
theorem dX0_append_22 : decode cX0_append 22 = .ok (.getfield 15, 3) := by decide +kernel
theorem dX0_append_25 : decode cX0_append 25 = .ok (.iload_n 1, 1) := by decide +kernel
theorem dX0_append_26 : decode cX0_append 26 = .ok (.castore, 1) := by decide +kernel
theorem dX0_append_27 : decode cX0_append 27 = .ok (.aload_n 0, 1) := by decide +kernel
theorem dX0_append_28 : decode cX0_append 28 = .ok (.dup, 1) := by decide +kernel
theorem dX0_append_29 : decode cX0_append 29 = .ok (.getfield 15, 3) := by decide +kernel
theorem dX0_append_32 : decode cX0_append 32 = .ok (.iconst 1, 1) := by decide +kernel
theorem dX0_append_33 : decode cX0_append 33 = .ok (.iadd, 1) := by decide +kernel
theorem dX0_append_34 : decode cX0_append 34 = .ok (.putfield 15, 3) := by decide +kernel
theorem dX0_append_37 : decode cX0_append 37 = .ok (.return_, 1) := by decide +kernel
theorem dX0_appendHead_0 : decode cX0_appendHead 0 = .ok (.aload_n 0, 1) := by decide +kernel
theorem dX0_appendHead_1 : decode cX0_appendHead 1 = .ok (.aload_n 1, 1) := by decide +kernel
theorem dX0_appendHead_2 : decode cX0_appendHead 2 = .ok (.getfield 40, 3) := by decide +kernel
theorem dX0_appendHead_5 : decode cX0_appendHead 5 = .ok (.iload_n 2, 1) := by decide +kernel
theorem dX0_appendHead_6 : decode cX0_appendHead 6 = .ok (.caload, 1) := by decide +kernel
set_option maxRecDepth 20000 in
theorem ggX0_appendHead_X0_append : GoodIn wsX0_appendHead wsX0_append := goodIn_r _ [8, 9, 10, 22, 23] (by decide +kernel) (by decide +kernel)
set_option maxRecDepth 20000 in
theorem gX0_appendHead_X0_append : GoodIn wsX0_appendHead (wsV RX0 19 RX0 yX0_append wsX0_append) := goodIn_app (goodIn_of _ (by decide +kernel)) ggX0_appendHead_X0_append
theorem dX0_appendHead_7 : decode cX0_appendHead 7 = .ok (.invokevirtual 19, 3) := by decide +kernel
theorem dX0_appendHead_10 : decode cX0_appendHead 10 = .ok (.aload_n 1, 1) := by decide +kernel
theorem dX0_appendHead_11 : decode cX0_appendHead 11 = .ok (.getfield 43, 3) := by decide +kernel
theorem dX0_appendHead_14 : decode cX0_appendHead 14 = .ok (.iload_n 2, 1) := by decide +kernel
theorem dX0_appendHead_15 : decode cX0_appendHead 15 = .ok (.iaload, 1) := by decide +kernel
theorem dX0_appendHead_16 : decode cX0_appendHead 16 = .ok (.ifCond .eq 19, 3) := by decide +kernel
theorem dX0_appendHead_35 : decode cX0_appendHead 35 = .ok (.aload_n 1, 1) := by decide +kernel
theorem dX0_appendHead_36 : decode cX0_appendHead 36 = .ok (.getfield 50, 3) := by decide +kernel
theorem dX0_appendHead_39 : decode cX0_appendHead 39 = .ok (.iload_n 2, 1) := by decide +kernel
theorem dX0_appendHead_40 : decode cX0_appendHead 40 = .ok (.iaload, 1) := by decide +kernel
theorem dX0_appendHead_41 : decode cX0_appendHead 41 = .ok (.ifCond .eq 19, 3) := by decide +kernel
theorem dX0_appendHead_60 : decode cX0_appendHead 60 = .ok (.return_, 1) := by decide +kernel
theorem dX0_appendTree_0 : decode cX0_appendTree 0 = .ok (.iconst 0, 1) := by decide +kernel
theorem dX0_appendTree_1 : decode cX0_appendTree 1 = .ok (.istore_n 2, 1) := by decide +kernel
theorem dX0_appendTree_2 : decode cX0_appendTree 2 = .ok (.iconst 0, 1) := by decide +kernel
theorem dX0_appendTree_3 : decode cX0_appendTree 3 = .ok (.istore_n 3, 1) := by decide +kernel
theorem dX0_appendTree_4 : decode cX0_appendTree 4 = .ok (.iload_n 3, 1) := by decide +kernel
theorem dX0_appendTree_5 : decode cX0_appendTree 5 = .ok (.aload_n 1, 1) := by decide +kernel
theorem dX0_appendTree_6 : decode cX0_appendTree 6 = .ok (.getfield 23, 3) := by decide +kernel
theorem dX0_appendTree_9 : decode cX0_appendTree 9 = .ok (.if_icmp .ge 45, 3) := by decide +kernel
theorem dX0_appendTree_12 : decode cX0_appendTree 12 = .ok (.aload_n 1, 1) := by decide +kernel
theorem dX0_appendTree_13 : decode cX0_appendTree 13 = .ok (.iload_n 3, 1) := by decide +kernel
set_option maxRecDepth 20000 in
theorem ggX0_appendTree_X5_depthOf : GoodIn wsX0_appendTree wsX5_depthOf := goodIn_r _ [6, 7, 30, 31, 32, 33, 34, 35, 36] (by decide +kernel) (by decide +kernel)
set_option maxRecDepth 20000 in
theorem gX0_appendTree_X5_depthOf : GoodIn wsX0_appendTree (wsV RX0 28 RX5 yX5_depthOf wsX5_depthOf) := goodIn_app (goodIn_of _ (by decide +kernel)) ggX0_appendTree_X5_depthOf
theorem dX0_appendTree_14 : decode cX0_appendTree 14 = .ok (.invokevirtual 28, 3) := by decide +kernel
theorem dX0_appendTree_17 : decode cX0_appendTree 17 = .ok (.istore 4, 2) := by decide +kernel
theorem dX0_appendTree_19 : decode cX0_appendTree 19 = .ok (.iload 4, 2) := by decide +kernel
theorem dX0_appendTree_21 : decode cX0_appendTree 21 = .ok (.iload_n 2, 1) := by decide +kernel
theorem dX0_appendTree_22 : decode cX0_appendTree 22 = .ok (.if_icmp .le 9, 3) := by decide +kernel
theorem dX0_appendTree_31 : decode cX0_appendTree 31 = .ok (.aload_n 0, 1) := by decide +kernel
theorem dX0_appendTree_32 : decode cX0_appendTree 32 = .ok (.iload_n 2, 1) := by decide +kernel
theorem dX0_appendTree_33 : decode cX0_appendTree 33 = .ok (.iload 4, 2) := by decide +kernel
theorem dX0_appendTree_35 : decode cX0_appendTree 35 = .ok (.isub, 1) := by decide +kernel
set_option maxRecDepth 20000 in
theorem ggX0_appendTree_X0_appendClosings : GoodIn wsX0_appendTree wsX0_appendClosings := goodIn_r _ [18, 8, 9, 10, 11, 12, 13, 14, 37, 38] (by decide +kernel) (by decide +kernel)
set_option maxRecDepth 20000 in
theorem gX0_appendTree_X0_appendClosings : GoodIn wsX0_appendTree (wsV RX0 32 RX0 yX0_appendClosings wsX0_appendClosings) := goodIn_app (goodIn_of _ (by decide +kernel)) ggX0_appendTree_X0_appendClosings
theorem dX0_appendTree_36 : decode cX0_appendTree 36 = .ok (.invokevirtual 32, 3) := by decide +kernel
theorem dX0_appendTree_39 : decode cX0_appendTree 39 = .ok (.aload_n 0, 1) := by decide +kernel
theorem dX0_appendTree_40 : decode cX0_appendTree 40 = .ok (.aload_n 1, 1) := by decide +kernel
theorem dX0_appendTree_41 : decode cX0_appendTree 41 = .ok (.iload_n 3, 1) := by decide +kernel
set_option maxRecDepth 20000 in
theorem ggX0_appendTree_X0_appendHead : GoodIn wsX0_appendTree wsX0_appendHead := goodIn_r _ [22, 23, 24, 25, 8, 9, 10, 11, 12, 13, 14, 26, 27, 28, 29, 30, 31, 32, 33, 34, 35, 36, 37, 38] (by decide +kernel) (by decide +kernel)
set_option maxRecDepth 20000 in
theorem gX0_appendTree_X0_appendHead : GoodIn wsX0_appendTree (wsV RX0 36 RX0 yX0_appendHead wsX0_appendHead) := goodIn_app (goodIn_of _ (by decide +kernel)) ggX0_appendTree_X0_appendHead
theorem dX0_appendTree_42 : decode cX0_appendTree 42 = .ok (.invokevirtual 36, 3) := by decide +kernel
theorem dX0_appendTree_45 : decode cX0_appendTree 45 = .ok (.iload 4, 2) := by decide +kernel
theorem dX0_appendTree_47 : decode cX0_appendTree 47 = .ok (.istore_n 2, 1) := by decide +kernel
theorem dX0_appendTree_48 : decode cX0_appendTree 48 = .ok (.iinc 3 1, 3) := by decide +kernel
theorem dX0_appendTree_51 : decode cX0_appendTree 51 = .ok (.goto (-47), 3) := by decide +kernel
theorem dX0_appendTree_54 : decode cX0_appendTree 54 = .ok (.aload_n 0, 1) := by decide +kernel
theorem dX0_appendTree_55 : decode cX0_appendTree 55 = .ok (.iload_n 2, 1) := by decide +kernel
theorem dX0_appendTree_56 : decode cX0_appendTree 56 = .ok (.invokevirtual 32, 3) := by decide +kernel
theorem dX0_appendTree_59 : decode cX0_appendTree 59 = .ok (.return_, 1) := by decide +kernel
theorem dX7_writeTree_5 : decode cX7_writeTree 5 = .ok (.astore_n 2, 1) := by decide +kernel
theorem dX7_writeTree_6 : decode cX7_writeTree 6 = .ok (.aload_n 0, 1) := by decide +kernel
theorem dX7_writeTree_7 : decode cX7_writeTree 7 = .ok (.getfield 25, 3) := by decide +kernel
theorem dX7_writeTree_10 : decode cX7_writeTree 10 = .ok (.iconst 0, 1) := by decide +kernel
theorem dX7_writeTree_11 : decode cX7_writeTree 11 = .ok (.putfield 115, 3) := by decide +kernel
theorem dX7_writeTree_14 : decode cX7_writeTree 14 = .ok (.aload_n 0, 1) := by decide +kernel
theorem dX7_writeTree_15 : decode cX7_writeTree 15 = .ok (.getfield 25, 3) := by decide +kernel
theorem dX7_writeTree_18 : decode cX7_writeTree 18 = .ok (.aload_n 2, 1) := by decide +kernel
set_option maxRecDepth 20000 in
theorem ggX7_writeTree_X0_appendTree : GoodIn wsX7_writeTree wsX0_appendTree := goodIn_r _ [15, 16, 17, 18, 19, 20, 21, 22, 23, 24, 25, 14, 26, 27, 28, 29, 30, 31, 32, 33, 34, 35, 36, 37, 38, 39, 40, 41, 42, 43, 56, 57, 58, 59, 60, 61, 62, 54, 55] (by decide +kernel) (by decide +kernel)
set_option maxRecDepth 20000 in
theorem gX7_writeTree_X0_appendTree : GoodIn wsX7_writeTree (wsV RX7 116 RX0 yX0_appendTree wsX0_appendTree) := goodIn_app (goodIn_of _ (by decide +kernel)) ggX7_writeTree_X0_appendTree
theorem dX7_writeTree_19 : decode cX7_writeTree 19 = .ok (.invokevirtual 116, 3) := by decide +kernel
theorem dX7_writeTree_22 : decode cX7_writeTree 22 = .ok (.aload_n 0, 1) := by decide +kernel
theorem dX7_writeTree_23 : decode cX7_writeTree 23 = .ok (.getfield 25, 3) := by decide +kernel
theorem dX7_writeTree_26 : decode cX7_writeTree 26 = .ok (.getfield 115, 3) := by decide +kernel
theorem dX7_writeTree_29 : decode cX7_writeTree 29 = .ok (.ireturn, 1) := by decide +kernel
theorem dL_writeTree_7 : decode cL_writeTree 7 = .ok (.i2l, 1) := by decide +kernel
theorem dL_writeTree_8 : decode cL_writeTree 8 = .ok (.lastore, 1) := by decide +kernel
theorem dL_writeTree_9 : decode cL_writeTree 9 = .ok (.goto 6, 3) := by decide +kernel
theorem dL_writeTree_15 : decode cL_writeTree 15 = .ok (.iconst 0, 1) := by decide +kernel
theorem dL_writeTree_16 : decode cL_writeTree 16 = .ok (.ireturn, 1) := by decide +kernel
theorem dJ5_init_d00df_0 : decode cJ5_init_d00df 0 = .ok (.aload_n 0, 1) := by decide +kernel
theorem dJ5_init_d00df_1 : decode cJ5_init_d00df 1 = .ok (.invokespecial 3, 3) := by decide +kernel
theorem dJ5_init_d00df_4 : decode cJ5_init_d00df 4 = .ok (.getstatic 18, 3) := by decide +kernel
theorem dJ5_init_d00df_7 : decode cJ5_init_d00df 7 = .ok (.ifCond .eq 18, 3) := by decide +kernel
theorem dJ5_init_d00df_10 : decode cJ5_init_d00df 10 = .ok (.aload_n 0, 1) := by decide +kernel
theorem dJ5_init_d00df_11 : decode cJ5_init_d00df 11 = .ok (.iload_n 1, 1) := by decide +kernel
theorem dJ5_init_d00df_12 : decode cJ5_init_d00df 12 = .ok (.newarray .byte, 2) := by decide +kernel
theorem dJ5_init_d00df_14 : decode cJ5_init_d00df 14 = .ok (.putfield 15, 3) := by decide +kernel
theorem dJ5_init_d00df_17 : decode cJ5_init_d00df 17 = .ok (.aload_n 0, 1) := by decide +kernel
theorem dJ5_init_d00df_18 : decode cJ5_init_d00df 18 = .ok (.iconst 0, 1) := by decide +kernel
theorem dJ5_init_d00df_19 : decode cJ5_init_d00df 19 = .ok (.putfield 22, 3) := by decide +kernel
theorem dJ5_init_d00df_22 : decode cJ5_init_d00df 22 = .ok (.goto 16, 3) := by decide +kernel
theorem dJ5_init_d00df_38 : decode cJ5_init_d00df 38 = .ok (.return_, 1) := by decide +kernel
theorem dJ4_init_da8c8_0 : decode cJ4_init_da8c8 0 = .ok (.aload_n 0, 1) := by decide +kernel
theorem dJ4_init_da8c8_1 : decode cJ4_init_da8c8 1 = .ok (.bipush 16, 2) := by decide +kernel
set_option maxRecDepth 20000 in
theorem ggJ4_init_da8c8_J5_init_d00df : GoodIn wsJ4_init_da8c8 wsJ5_init_d00df := goodIn_r _ [4, 5, 6, 7, 8, 9, 10, 11, 12, 13, 14, 15, 16, 17, 18, 19, 20, 21, 22, 23] (by decide +kernel) (by decide +kernel)
set_option maxRecDepth 20000 in
theorem gJ4_init_da8c8_J5_init_d00df : GoodIn wsJ4_init_da8c8 (wsJ5_init_d00df) := ggJ4_init_da8c8_J5_init_d00df
theorem dJ4_init_da8c8_3 : decode cJ4_init_da8c8 3 = .ok (.invokespecial 1, 3) := by decide +kernel
theorem dJ4_init_da8c8_6 : decode cJ4_init_da8c8 6 = .ok (.return_, 1) := by decide +kernel
theorem dJ5_ensureCapacityInternal_d00df_0 : decode cJ5_ensureCapacityInternal_d00df 0 = .ok (.aload_n 0, 1) := by decide +kernel
theorem dJ5_ensureCapacityInternal_d00df_1 : decode cJ5_ensureCapacityInternal_d00df 1 = .ok (.getfield 15, 3) := by decide +kernel
theorem dJ5_ensureCapacityInternal_d00df_4 : decode cJ5_ensureCapacityInternal_d00df 4 = .ok (.arraylength, 1) := by decide +kernel
theorem dJ5_ensureCapacityInternal_d00df_5 : decode cJ5_ensureCapacityInternal_d00df 5 = .ok (.aload_n 0, 1) := by decide +kernel
theorem dJ5_ensureCapacityInternal_d00df_6 : decode cJ5_ensureCapacityInternal_d00df 6 = .ok (.getfield 22, 3) := by decide +kernel
theorem dJ5_ensureCapacityInternal_d00df_9 : decode cJ5_ensureCapacityInternal_d00df 9 = .ok (.ishr, 1) := by decide +kernel
theorem dJ5_ensureCapacityInternal_d00df_10 : decode cJ5_ensureCapacityInternal_d00df 10 = .ok (.istore_n 2, 1) := by decide +kernel
theorem dJ5_ensureCapacityInternal_d00df_11 : decode cJ5_ensureCapacityInternal_d00df 11 = .ok (.iload_n 1, 1) := by decide +kernel
theorem dJ5_ensureCapacityInternal_d00df_12 : decode cJ5_ensureCapacityInternal_d00df 12 = .ok (.iload_n 2, 1) := by decide +kernel
theorem dJ5_ensureCapacityInternal_d00df_13 : decode cJ5_ensureCapacityInternal_d00df 13 = .ok (.isub, 1) := by decide +kernel
theorem dJ5_ensureCapacityInternal_d00df_14 : decode cJ5_ensureCapacityInternal_d00df 14 = .ok (.ifCond .le 24, 3) := by decide +kernel
theorem dJ5_ensureCapacityInternal_d00df_38 : decode cJ5_ensureCapacityInternal_d00df 38 = .ok (.return_, 1) := by decide +kernel
theorem dJ5_isLatin1_aae02_0 : decode cJ5_isLatin1_aae02 0 = .ok (.getstatic 18, 3) := by decide +kernel
theorem dJ5_isLatin1_aae02_3 : decode cJ5_isLatin1_aae02 3 = .ok (.ifCond .eq 14, 3) := by decide +kernel
theorem dJ5_isLatin1_aae02_6 : decode cJ5_isLatin1_aae02 6 = .ok (.aload_n 0, 1) := by decide +kernel
theorem dJ5_isLatin1_aae02_7 : decode cJ5_isLatin1_aae02 7 = .ok (.getfield 22, 3) := by decide +kernel
theorem dJ5_isLatin1_aae02_10 : decode cJ5_isLatin1_aae02 10 = .ok (.ifCond .ne 7, 3) := by decide +kernel
theorem dJ5_isLatin1_aae02_13 : decode cJ5_isLatin1_aae02 13 = .ok (.iconst 1, 1) := by decide +kernel
theorem dJ5_isLatin1_aae02_14 : decode cJ5_isLatin1_aae02 14 = .ok (.goto 4, 3) := by decide +kernel
theorem dJ5_isLatin1_aae02_18 : decode cJ5_isLatin1_aae02 18 = .ok (.ireturn, 1) := by decide +kernel
theorem dJ1_canEncode_fc78d_0 : decode cJ1_canEncode_fc78d 0 = .ok (.iload_n 0, 1) := by decide +kernel
theorem dJ1_canEncode_fc78d_1 : decode cJ1_canEncode_fc78d 1 = .ok (.sipush 255, 3) := by decide +kernel
theorem dJ1_canEncode_fc78d_4 : decode cJ1_canEncode_fc78d 4 = .ok (.if_icmp .gt 7, 3) := by decide +kernel
theorem dJ1_canEncode_fc78d_7 : decode cJ1_canEncode_fc78d 7 = .ok (.iconst 1, 1) := by decide +kernel
theorem dJ1_canEncode_fc78d_8 : decode cJ1_canEncode_fc78d 8 = .ok (.goto 4, 3) := by decide +kernel
theorem dJ1_canEncode_fc78d_12 : decode cJ1_canEncode_fc78d 12 = .ok (.ireturn, 1) := by decide +kernel
theorem dJ5_append_3fe6f_0 : decode cJ5_append_3fe6f 0 = .ok (.aload_n 0, 1) := by decide +kernel
theorem dJ5_append_3fe6f_1 : decode cJ5_append_3fe6f 1 = .ok (.aload_n 0, 1) := by decide +kernel
theorem dJ5_append_3fe6f_2 : decode cJ5_append_3fe6f 2 = .ok (.getfield 79, 3) := by decide +kernel
theorem dJ5_append_3fe6f_5 : decode cJ5_append_3fe6f 5 = .ok (.iconst 1, 1) := by decide +kernel
theorem dJ5_append_3fe6f_6 : decode cJ5_append_3fe6f 6 = .ok (.iadd, 1) := by decide +kernel
set_option maxRecDepth 20000 in
theorem ggJ5_append_3fe6f_J5_ensureCapacityInternal_d00df : GoodIn wsJ5_append_3fe6f wsJ5_ensureCapacityInternal_d00df := goodIn_r _ [8, 2, 9, 10, 11, 12, 13, 7, 14, 15, 16, 17, 18, 19, 20, 21, 22, 23, 24, 25, 26, 27, 28, 29, 30, 31, 32, 33, 34, 35, 36, 37, 38, 39, 40, 41, 42, 43, 44, 45, 108, 109, 110, 111] (by decide +kernel) (by decide +kernel)
set_option maxRecDepth 20000 in
theorem gJ5_append_3fe6f_J5_ensureCapacityInternal_d00df_u100J4 : GoodIn wsJ5_append_3fe6f (va_wsU RJ5 100 RJ4 "java/lang/AbstractStringBuilder" ⟨"java/lang/AbstractStringBuilder", "ensureCapacityInternal", "(I)V"⟩ yJ5_ensureCapacityInternal_d00df wsJ5_ensureCapacityInternal_d00df) := goodIn_app (goodIn_of _ (by decide +kernel)) ggJ5_append_3fe6f_J5_ensureCapacityInternal_d00df
theorem dJ5_append_3fe6f_7 : decode cJ5_append_3fe6f 7 = .ok (.invokevirtual 100, 3) := by decide +kernel
theorem dJ5_append_3fe6f_10 : decode cJ5_append_3fe6f 10 = .ok (.aload_n 0, 1) := by decide +kernel
set_option maxRecDepth 20000 in
theorem ggJ5_append_3fe6f_J5_isLatin1_aae02 : GoodIn wsJ5_append_3fe6f wsJ5_isLatin1_aae02 := goodIn_r _ [50, 51, 9, 108, 109, 110, 111] (by decide +kernel) (by decide +kernel)
set_option maxRecDepth 20000 in
theorem gJ5_append_3fe6f_J5_isLatin1_aae02_u83J4 : GoodIn wsJ5_append_3fe6f (va_wsU RJ5 83 RJ4 "java/lang/AbstractStringBuilder" ⟨"java/lang/AbstractStringBuilder", "isLatin1", "()Z"⟩ yJ5_isLatin1_aae02 wsJ5_isLatin1_aae02) := goodIn_app (goodIn_of _ (by decide +kernel)) ggJ5_append_3fe6f_J5_isLatin1_aae02
theorem dJ5_append_3fe6f_11 : decode cJ5_append_3fe6f 11 = .ok (.invokevirtual 83, 3) := by decide +kernel
theorem dJ5_append_3fe6f_14 : decode cJ5_append_3fe6f 14 = .ok (.ifCond .eq 31, 3) := by decide +kernel
theorem dJ5_append_3fe6f_17 : decode cJ5_append_3fe6f 17 = .ok (.iload_n 1, 1) := by decide +kernel
set_option maxRecDepth 20000 in
theorem ggJ5_append_3fe6f_J1_canEncode_fc78d : GoodIn wsJ5_append_3fe6f wsJ1_canEncode_fc78d := goodIn_r _ [55] (by decide +kernel) (by decide +kernel)
set_option maxRecDepth 20000 in
theorem gJ5_append_3fe6f_J1_canEncode_fc78d : GoodIn wsJ5_append_3fe6f (va_wsS RJ5 191 yJ1_canEncode_fc78d wsJ1_canEncode_fc78d) := goodIn_app (goodIn_of _ (by decide +kernel)) ggJ5_append_3fe6f_J1_canEncode_fc78d
theorem dJ5_append_3fe6f_18 : decode cJ5_append_3fe6f 18 = .ok (.invokestatic 191, 3) := by decide +kernel
theorem dJ5_append_3fe6f_21 : decode cJ5_append_3fe6f 21 = .ok (.ifCond .eq 24, 3) := by decide +kernel
theorem dJ5_append_3fe6f_24 : decode cJ5_append_3fe6f 24 = .ok (.aload_n 0, 1) := by decide +kernel
theorem dJ5_append_3fe6f_25 : decode cJ5_append_3fe6f 25 = .ok (.getfield 15, 3) := by decide +kernel
theorem dJ5_append_3fe6f_28 : decode cJ5_append_3fe6f 28 = .ok (.aload_n 0, 1) := by decide +kernel
theorem dJ5_append_3fe6f_29 : decode cJ5_append_3fe6f 29 = .ok (.dup, 1) := by decide +kernel
theorem dJ5_append_3fe6f_30 : decode cJ5_append_3fe6f 30 = .ok (.getfield 79, 3) := by decide +kernel
theorem dJ5_append_3fe6f_33 : decode cJ5_append_3fe6f 33 = .ok (.dup_x1, 1) := by decide +kernel
theorem dJ5_append_3fe6f_34 : decode cJ5_append_3fe6f 34 = .ok (.iconst 1, 1) := by decide +kernel
theorem dJ5_append_3fe6f_35 : decode cJ5_append_3fe6f 35 = .ok (.iadd, 1) := by decide +kernel
theorem dJ5_append_3fe6f_36 : decode cJ5_append_3fe6f 36 = .ok (.putfield 79, 3) := by decide +kernel
theorem dJ5_append_3fe6f_39 : decode cJ5_append_3fe6f 39 = .ok (.iload_n 1, 1) := by decide +kernel
theorem dJ5_append_3fe6f_40 : decode cJ5_append_3fe6f 40 = .ok (.i2b, 1) := by decide +kernel
theorem dJ5_append_3fe6f_41 : decode cJ5_append_3fe6f 41 = .ok (.bastore, 1) := by decide +kernel
theorem dJ5_append_3fe6f_42 : decode cJ5_append_3fe6f 42 = .ok (.goto 33, 3) := by decide +kernel
theorem dJ5_append_3fe6f_75 : decode cJ5_append_3fe6f 75 = .ok (.aload_n 0, 1) := by decide +kernel
theorem dJ5_append_3fe6f_76 : decode cJ5_append_3fe6f 76 = .ok (.areturn, 1) := by decide +kernel
theorem dJ4_append_cf468_0 : decode cJ4_append_cf468 0 = .ok (.aload_n 0, 1) := by decide +kernel
theorem dJ4_append_cf468_1 : decode cJ4_append_cf468 1 = .ok (.iload_n 1, 1) := by decide +kernel
set_option maxRecDepth 20000 in
theorem ggJ4_append_cf468_J5_append_3fe6f : GoodIn wsJ4_append_cf468 wsJ5_append_3fe6f := goodIn_r _ [6, 7, 8, 9, 10, 11, 12, 5, 13, 14, 15, 16, 17, 18, 19, 20, 21, 22, 23, 24, 25, 26, 27, 28, 29, 30, 31, 32, 33, 34, 35, 36, 37, 38, 39, 40, 41, 42, 43, 44, 45, 46, 47, 48, 49, 50, 51, 52, 53, 54, 55, 56, 57, 58, 59, 60, 61, 62, 63, 64, 65, 66, 67, 68, 69, 70, 71, 72, 73, 74, 75, 76, 77, 78, 79, 80, 81, 82, 83, 84, 85, 86, 87, 88, 89, 90, 91, 92, 93, 94, 95, 96, 97, 98, 99, 100, 101, 102, 103, 104, 105, 106, 107, 108, 109, 110, 111, 112, 113, 114, 115, 116] (by decide +kernel) (by decide +kernel)
set_option maxRecDepth 20000 in
theorem gJ4_append_cf468_J5_append_3fe6f_s50 : GoodIn wsJ4_append_cf468 (va_wsSU RJ4 50 yJ5_append_3fe6f wsJ5_append_3fe6f) := goodIn_app (goodIn_of _ (by decide +kernel)) ggJ4_append_cf468_J5_append_3fe6f
theorem dJ4_append_cf468_2 : decode cJ4_append_cf468 2 = .ok (.invokespecial 50, 3) := by decide +kernel
theorem dJ4_append_cf468_5 : decode cJ4_append_cf468 5 = .ok (.pop, 1) := by decide +kernel
theorem dJ4_append_cf468_6 : decode cJ4_append_cf468 6 = .ok (.aload_n 0, 1) := by decide +kernel
theorem dJ4_append_cf468_7 : decode cJ4_append_cf468 7 = .ok (.areturn, 1) := by decide +kernel
theorem dX10_writes_0 : decode cX10_writes 0 = .ok (.aload_n 3, 1) := by decide +kernel
theorem dX10_writes_1 : decode cX10_writes 1 = .ok (.aload_n 1, 1) := by decide +kernel
theorem dX10_writes_2 : decode cX10_writes 2 = .ok (.getfield 11, 3) := by decide +kernel
theorem dX10_writes_5 : decode cX10_writes 5 = .ok (.iload_n 2, 1) := by decide +kernel
theorem dX10_writes_6 : decode cX10_writes 6 = .ok (.iaload, 1) := by decide +kernel
theorem dX10_writes_7 : decode cX10_writes 7 = .ok (.i2c, 1) := by decide +kernel
set_option maxRecDepth 20000 in
theorem ggX10_writes_J4_append_cf468 : GoodIn wsX10_writes wsJ4_append_cf468 := goodIn_r _ [5, 6, 7, 8, 9, 10, 11, 12, 13, 14, 15, 16, 17, 18, 19, 20, 21, 22, 23, 24, 25, 26, 27, 28, 29, 30, 31, 32, 33, 34, 35, 36, 37, 38, 39, 40, 41, 42, 43, 44, 45, 46, 47, 48, 49, 50, 51, 52, 53, 54, 55, 56, 57, 58, 59, 60, 61, 62, 63, 64, 65, 66, 67, 68, 69, 70, 71, 72, 73, 74, 75, 76, 77, 78, 79, 80, 81, 82, 83, 84, 85, 86, 87, 88, 89, 90, 91, 92, 93, 94, 95, 96, 97, 98, 99, 100, 101, 102, 103, 104, 105, 106, 107, 108, 109, 110, 111, 112, 113, 114, 115, 116, 117, 172, 173, 174, 175] (by decide +kernel) (by decide +kernel)
set_option maxRecDepth 20000 in
theorem gX10_writes_J4_append_cf468 : GoodIn wsX10_writes (wsV RX10 161 RJ4 yJ4_append_cf468 wsJ4_append_cf468) := goodIn_app (goodIn_of _ (by decide +kernel)) ggX10_writes_J4_append_cf468
theorem dX10_writes_8 : decode cX10_writes 8 = .ok (.invokevirtual 161, 3) := by decide +kernel
theorem dX10_writes_11 : decode cX10_writes 11 = .ok (.pop, 1) := by decide +kernel
theorem dX10_writes_12 : decode cX10_writes 12 = .ok (.aload_n 1, 1) := by decide +kernel
theorem dX10_writes_13 : decode cX10_writes 13 = .ok (.getfield 14, 3) := by decide +kernel
theorem dX10_writes_16 : decode cX10_writes 16 = .ok (.iload_n 2, 1) := by decide +kernel
theorem dX10_writes_17 : decode cX10_writes 17 = .ok (.iaload, 1) := by decide +kernel
theorem dX10_writes_18 : decode cX10_writes 18 = .ok (.ifCond .le 19, 3) := by decide +kernel
theorem dX10_writes_37 : decode cX10_writes 37 = .ok (.aload_n 1, 1) := by decide +kernel
theorem dX10_writes_38 : decode cX10_writes 38 = .ok (.getfield 17, 3) := by decide +kernel
theorem dX10_writes_41 : decode cX10_writes 41 = .ok (.iload_n 2, 1) := by decide +kernel
theorem dX10_writes_42 : decode cX10_writes 42 = .ok (.iaload, 1) := by decide +kernel
theorem dX10_writes_43 : decode cX10_writes 43 = .ok (.ifCond .le 19, 3) := by decide +kernel
theorem dX10_writes_62 : decode cX10_writes 62 = .ok (.aload_n 1, 1) := by decide +kernel
theorem dX10_writes_63 : decode cX10_writes 63 = .ok (.iload_n 2, 1) := by decide +kernel
set_option maxRecDepth 20000 in
theorem ggX10_writes_X9_many : GoodIn wsX10_writes wsX9_many := goodIn_r _ [155, 156, 157, 167, 168, 169, 170, 171] (by decide +kernel) (by decide +kernel)
set_option maxRecDepth 20000 in
theorem gX10_writes_X9_many_n170 : GoodIn wsX10_writes (wsX9_many) := ggX10_writes_X9_many
theorem dX10_writes_64 : decode cX10_writes 64 = .ok (.invokevirtual 170, 3) := by decide +kernel
theorem dX10_writes_67 : decode cX10_writes 67 = .ok (.ifCond .ne 4, 3) := by decide +kernel
theorem dX10_writes_70 : decode cX10_writes 70 = .ok (.return_, 1) := by decide +kernel
theorem dJ5_getValue_6d5f1_0 : decode cJ5_getValue_6d5f1 0 = .ok (.aload_n 0, 1) := by decide +kernel
theorem dJ5_getValue_6d5f1_1 : decode cJ5_getValue_6d5f1 1 = .ok (.getfield 15, 3) := by decide +kernel
theorem dJ5_getValue_6d5f1_4 : decode cJ5_getValue_6d5f1 4 = .ok (.areturn, 1) := by decide +kernel
theorem dJ5_length_8abf5_0 : decode cJ5_length_8abf5 0 = .ok (.aload_n 0, 1) := by decide +kernel
theorem dJ5_length_8abf5_1 : decode cJ5_length_8abf5 1 = .ok (.getfield 79, 3) := by decide +kernel
theorem dJ5_length_8abf5_4 : decode cJ5_length_8abf5 4 = .ok (.ireturn, 1) := by decide +kernel
theorem dJ4_length_8abf5_0 : decode cJ4_length_8abf5 0 = .ok (.aload_n 0, 1) := by decide +kernel
set_option maxRecDepth 20000 in
theorem ggJ4_length_8abf5_J5_length_8abf5 : GoodIn wsJ4_length_8abf5 wsJ5_length_8abf5 := goodIn_r _ [6, 7, 8, 9, 10, 11] (by decide +kernel) (by decide +kernel)
set_option maxRecDepth 20000 in
theorem gJ4_length_8abf5_J5_length_8abf5_s343 : GoodIn wsJ4_length_8abf5 (va_wsSU RJ4 343 yJ5_length_8abf5 wsJ5_length_8abf5) := goodIn_app (goodIn_of _ (by decide +kernel)) ggJ4_length_8abf5_J5_length_8abf5
theorem dJ4_length_8abf5_1 : decode cJ4_length_8abf5 1 = .ok (.invokespecial 343, 3) := by decide +kernel
theorem dJ4_length_8abf5_4 : decode cJ4_length_8abf5 4 = .ok (.ireturn, 1) := by decide +kernel
theorem dJ7_checkLength_df160_0 : decode cJ7_checkLength_df160 0 = .ok (.iload_n 1, 1) := by decide +kernel
theorem dJ7_checkLength_df160_1 : decode cJ7_checkLength_df160 1 = .ok (.iload_n 0, 1) := by decide +kernel
theorem dJ7_checkLength_df160_2 : decode cJ7_checkLength_df160 2 = .ok (.if_icmp .ge 35, 3) := by decide +kernel
theorem dJ7_checkLength_df160_37 : decode cJ7_checkLength_df160 37 = .ok (.return_, 1) := by decide +kernel
theorem dJ7_copyOfRangeByte_39247_0 : decode cJ7_copyOfRangeByte_39247 0 = .ok (.iload_n 1, 1) := by decide +kernel
theorem dJ7_copyOfRangeByte_39247_1 : decode cJ7_copyOfRangeByte_39247 1 = .ok (.iload_n 2, 1) := by decide +kernel
set_option maxRecDepth 20000 in
theorem ggJ7_copyOfRangeByte_39247_J7_checkLength_df160 : GoodIn wsJ7_copyOfRangeByte_39247 wsJ7_checkLength_df160 := goodIn_r _ [13, 14, 15, 16, 17, 18, 19, 20] (by decide +kernel) (by decide +kernel)
set_option maxRecDepth 20000 in
theorem gJ7_copyOfRangeByte_39247_J7_checkLength_df160 : GoodIn wsJ7_copyOfRangeByte_39247 (va_wsS RJ7 343 yJ7_checkLength_df160 wsJ7_checkLength_df160) := goodIn_app (goodIn_of _ (by decide +kernel)) ggJ7_copyOfRangeByte_39247_J7_checkLength_df160
theorem dJ7_copyOfRangeByte_39247_2 : decode cJ7_copyOfRangeByte_39247 2 = .ok (.invokestatic 343, 3) := by decide +kernel
theorem dJ7_copyOfRangeByte_39247_5 : decode cJ7_copyOfRangeByte_39247 5 = .ok (.iload_n 2, 1) := by decide +kernel
theorem dJ7_copyOfRangeByte_39247_6 : decode cJ7_copyOfRangeByte_39247 6 = .ok (.iload_n 1, 1) := by decide +kernel
theorem dJ7_copyOfRangeByte_39247_7 : decode cJ7_copyOfRangeByte_39247 7 = .ok (.isub, 1) := by decide +kernel
theorem dJ7_copyOfRangeByte_39247_8 : decode cJ7_copyOfRangeByte_39247 8 = .ok (.istore_n 3, 1) := by decide +kernel
theorem dJ7_copyOfRangeByte_39247_9 : decode cJ7_copyOfRangeByte_39247 9 = .ok (.iload_n 3, 1) := by decide +kernel
theorem dJ7_copyOfRangeByte_39247_10 : decode cJ7_copyOfRangeByte_39247 10 = .ok (.newarray .byte, 2) := by decide +kernel
theorem dJ7_copyOfRangeByte_39247_12 : decode cJ7_copyOfRangeByte_39247 12 = .ok (.astore 4, 2) := by decide +kernel
theorem dJ7_copyOfRangeByte_39247_14 : decode cJ7_copyOfRangeByte_39247 14 = .ok (.aload_n 0, 1) := by decide +kernel
theorem dJ7_copyOfRangeByte_39247_15 : decode cJ7_copyOfRangeByte_39247 15 = .ok (.iload_n 1, 1) := by decide +kernel
theorem dJ7_copyOfRangeByte_39247_16 : decode cJ7_copyOfRangeByte_39247 16 = .ok (.aload 4, 2) := by decide +kernel
theorem dJ7_copyOfRangeByte_39247_18 : decode cJ7_copyOfRangeByte_39247 18 = .ok (.iconst 0, 1) := by decide +kernel
theorem dJ7_copyOfRangeByte_39247_19 : decode cJ7_copyOfRangeByte_39247 19 = .ok (.aload_n 0, 1) := by decide +kernel
theorem dJ7_copyOfRangeByte_39247_20 : decode cJ7_copyOfRangeByte_39247 20 = .ok (.arraylength, 1) := by decide +kernel
theorem dJ7_copyOfRangeByte_39247_21 : decode cJ7_copyOfRangeByte_39247 21 = .ok (.iload_n 1, 1) := by decide +kernel
theorem dJ7_copyOfRangeByte_39247_22 : decode cJ7_copyOfRangeByte_39247 22 = .ok (.isub, 1) := by decide +kernel
theorem dJ7_copyOfRangeByte_39247_23 : decode cJ7_copyOfRangeByte_39247 23 = .ok (.iload_n 3, 1) := by decide +kernel
theorem dJ7_copyOfRangeByte_39247_24 : decode cJ7_copyOfRangeByte_39247 24 = .ok (.invokestatic 304, 3) := by decide +kernel
theorem dJ7_copyOfRangeByte_39247_27 : decode cJ7_copyOfRangeByte_39247 27 = .ok (.invokestatic 150, 3) := by decide +kernel
theorem dJ7_copyOfRangeByte_39247_30 : decode cJ7_copyOfRangeByte_39247 30 = .ok (.aload 4, 2) := by decide +kernel
theorem dJ7_copyOfRangeByte_39247_32 : decode cJ7_copyOfRangeByte_39247 32 = .ok (.areturn, 1) := by decide +kernel
theorem dJ7_copyOfRange_39247_0 : decode cJ7_copyOfRange_39247 0 = .ok (.iload_n 1, 1) := by decide +kernel
theorem dJ7_copyOfRange_39247_1 : decode cJ7_copyOfRange_39247 1 = .ok (.ifCond .ne 9, 3) := by decide +kernel
theorem dJ7_copyOfRange_39247_4 : decode cJ7_copyOfRange_39247 4 = .ok (.iload_n 2, 1) := by decide +kernel
theorem dJ7_copyOfRange_39247_5 : decode cJ7_copyOfRange_39247 5 = .ok (.aload_n 0, 1) := by decide +kernel
theorem dJ7_copyOfRange_39247_6 : decode cJ7_copyOfRange_39247 6 = .ok (.arraylength, 1) := by decide +kernel
theorem dJ7_copyOfRange_39247_7 : decode cJ7_copyOfRange_39247 7 = .ok (.if_icmp .eq 10, 3) := by decide +kernel
theorem dJ7_copyOfRange_39247_10 : decode cJ7_copyOfRange_39247 10 = .ok (.aload_n 0, 1) := by decide +kernel
theorem dJ7_copyOfRange_39247_11 : decode cJ7_copyOfRange_39247 11 = .ok (.iload_n 1, 1) := by decide +kernel
theorem dJ7_copyOfRange_39247_12 : decode cJ7_copyOfRange_39247 12 = .ok (.iload_n 2, 1) := by decide +kernel
set_option maxRecDepth 20000 in
theorem ggJ7_copyOfRange_39247_J7_copyOfRangeByte_39247 : GoodIn wsJ7_copyOfRange_39247 wsJ7_copyOfRangeByte_39247 := goodIn_r _ [10, 11, 12, 13, 14, 15, 16, 17, 18, 19, 20, 21, 9, 22, 23, 24, 25, 26, 27, 28, 29] (by decide +kernel) (by decide +kernel)
set_option maxRecDepth 20000 in
theorem gJ7_copyOfRange_39247_J7_copyOfRangeByte_39247 : GoodIn wsJ7_copyOfRange_39247 (va_wsS RJ7 339 yJ7_copyOfRangeByte_39247 wsJ7_copyOfRangeByte_39247) := goodIn_app (goodIn_of _ (by decide +kernel)) ggJ7_copyOfRange_39247_J7_copyOfRangeByte_39247
theorem dJ7_copyOfRange_39247_13 : decode cJ7_copyOfRange_39247 13 = .ok (.invokestatic 339, 3) := by decide +kernel
theorem dJ7_copyOfRange_39247_16 : decode cJ7_copyOfRange_39247 16 = .ok (.areturn, 1) := by decide +kernel
theorem dJ0_init_db425_0 : decode cJ0_init_db425 0 = .ok (.aload_n 0, 1) := by decide +kernel
theorem dJ0_init_db425_1 : decode cJ0_init_db425 1 = .ok (.invokespecial 1, 3) := by decide +kernel
theorem dJ0_init_db425_4 : decode cJ0_init_db425 4 = .ok (.aload_n 1, 1) := by decide +kernel
set_option maxRecDepth 20000 in
theorem ggJ0_init_db425_J5_getValue_6d5f1 : GoodIn wsJ0_init_db425 wsJ5_getValue_6d5f1 := goodIn_r _ [13, 14, 101, 102, 103, 104] (by decide +kernel) (by decide +kernel)
set_option maxRecDepth 20000 in
theorem gJ0_init_db425_J5_getValue_6d5f1_u552J4 : GoodIn wsJ0_init_db425 (va_wsU RJ0 552 RJ4 "java/lang/AbstractStringBuilder" ⟨"java/lang/AbstractStringBuilder", "getValue", "()[B"⟩ yJ5_getValue_6d5f1 wsJ5_getValue_6d5f1) := goodIn_app (goodIn_of _ (by decide +kernel)) ggJ0_init_db425_J5_getValue_6d5f1
theorem dJ0_init_db425_5 : decode cJ0_init_db425 5 = .ok (.invokevirtual 552, 3) := by decide +kernel
theorem dJ0_init_db425_8 : decode cJ0_init_db425 8 = .ok (.astore_n 3, 1) := by decide +kernel
theorem dJ0_init_db425_9 : decode cJ0_init_db425 9 = .ok (.aload_n 1, 1) := by decide +kernel
set_option maxRecDepth 20000 in
theorem ggJ0_init_db425_J4_length_8abf5 : GoodIn wsJ0_init_db425 wsJ4_length_8abf5 := goodIn_r _ [21, 22, 16, 23, 24, 12, 25, 26, 101, 102, 103, 104] (by decide +kernel) (by decide +kernel)
set_option maxRecDepth 20000 in
theorem gJ0_init_db425_J4_length_8abf5_u549J4 : GoodIn wsJ0_init_db425 (va_wsO RJ0 549 RJ4 "java/lang/AbstractStringBuilder" ⟨"java/lang/AbstractStringBuilder", "length", "()I"⟩ yJ4_length_8abf5 wsJ4_length_8abf5) := goodIn_app (goodIn_of _ (by decide +kernel)) ggJ0_init_db425_J4_length_8abf5
theorem dJ0_init_db425_10 : decode cJ0_init_db425 10 = .ok (.invokevirtual 549, 3) := by decide +kernel
theorem dJ0_init_db425_13 : decode cJ0_init_db425 13 = .ok (.istore 4, 2) := by decide +kernel
theorem dJ0_init_db425_15 : decode cJ0_init_db425 15 = .ok (.aload_n 1, 1) := by decide +kernel
set_option maxRecDepth 20000 in
theorem ggJ0_init_db425_J5_isLatin1_aae02 : GoodIn wsJ0_init_db425 wsJ5_isLatin1_aae02 := goodIn_r _ [31, 32, 33, 101, 102, 103, 104] (by decide +kernel) (by decide +kernel)
set_option maxRecDepth 20000 in
theorem gJ0_init_db425_J5_isLatin1_aae02_u1047J4 : GoodIn wsJ0_init_db425 (va_wsU RJ0 1047 RJ4 "java/lang/AbstractStringBuilder" ⟨"java/lang/AbstractStringBuilder", "isLatin1", "()Z"⟩ yJ5_isLatin1_aae02 wsJ5_isLatin1_aae02) := goodIn_app (goodIn_of _ (by decide +kernel)) ggJ0_init_db425_J5_isLatin1_aae02
theorem dJ0_init_db425_16 : decode cJ0_init_db425 16 = .ok (.invokevirtual 1047, 3) := by decide +kernel
theorem dJ0_init_db425_19 : decode cJ0_init_db425 19 = .ok (.ifCond .eq 22, 3) := by decide +kernel
theorem dJ0_init_db425_22 : decode cJ0_init_db425 22 = .ok (.aload_n 0, 1) := by decide +kernel
theorem dJ0_init_db425_23 : decode cJ0_init_db425 23 = .ok (.iconst 0, 1) := by decide +kernel
theorem dJ0_init_db425_24 : decode cJ0_init_db425 24 = .ok (.putfield 15, 3) := by decide +kernel
theorem dJ0_init_db425_27 : decode cJ0_init_db425 27 = .ok (.aload_n 0, 1) := by decide +kernel
theorem dJ0_init_db425_28 : decode cJ0_init_db425 28 = .ok (.aload_n 3, 1) := by decide +kernel
theorem dJ0_init_db425_29 : decode cJ0_init_db425 29 = .ok (.iconst 0, 1) := by decide +kernel
theorem dJ0_init_db425_30 : decode cJ0_init_db425 30 = .ok (.iload 4, 2) := by decide +kernel
set_option maxRecDepth 20000 in
theorem ggJ0_init_db425_J7_copyOfRange_39247 : GoodIn wsJ0_init_db425 wsJ7_copyOfRange_39247 := goodIn_r _ [37, 38, 39, 40, 41, 42, 43, 44, 45, 36, 46, 47, 48, 49, 50, 51, 52, 53, 54, 55, 56, 57, 58, 59, 60, 20, 101, 102, 103, 104] (by decide +kernel) (by decide +kernel)
set_option maxRecDepth 20000 in
theorem gJ0_init_db425_J7_copyOfRange_39247 : GoodIn wsJ0_init_db425 (va_wsS RJ0 54 yJ7_copyOfRange_39247 wsJ7_copyOfRange_39247) := goodIn_app (goodIn_of _ (by decide +kernel)) ggJ0_init_db425_J7_copyOfRange_39247
theorem dJ0_init_db425_32 : decode cJ0_init_db425 32 = .ok (.invokestatic 54, 3) := by decide +kernel
theorem dJ0_init_db425_35 : decode cJ0_init_db425 35 = .ok (.putfield 9, 3) := by decide +kernel
theorem dJ0_init_db425_38 : decode cJ0_init_db425 38 = .ok (.goto 59, 3) := by decide +kernel
theorem dJ0_init_db425_97 : decode cJ0_init_db425 97 = .ok (.return_, 1) := by decide +kernel
theorem dJ0_init_81219_0 : decode cJ0_init_81219 0 = .ok (.aload_n 0, 1) := by decide +kernel
theorem dJ0_init_81219_1 : decode cJ0_init_81219 1 = .ok (.aload_n 1, 1) := by decide +kernel
theorem dJ0_init_81219_2 : decode cJ0_init_81219 2 = .ok (.aconst_null, 1) := by decide +kernel
set_option maxRecDepth 20000 in
theorem ggJ0_init_81219_J0_init_db425 : GoodIn wsJ0_init_81219 wsJ0_init_db425 := goodIn_r _ [4, 5, 6, 7, 8, 9, 10, 11, 12, 13, 14, 15, 16, 17, 18, 19, 20, 21, 22, 23, 24, 25, 26, 27, 28, 29, 30, 31, 32, 33, 34, 35, 36, 37, 38, 39, 40, 41, 42, 43, 44, 45, 46, 47, 48, 49, 50, 51, 52, 53, 54, 55, 56, 57, 58, 59, 60, 61, 62, 63, 64, 65, 66, 67, 68, 69, 70, 71, 72, 73, 74, 75, 76, 77, 78, 79, 3, 80, 81, 82, 83, 84, 85, 86, 87, 88, 89, 90, 91, 92, 93, 94, 95, 96, 97, 98, 99, 100, 101, 102, 103, 104, 105, 106, 107] (by decide +kernel) (by decide +kernel)
set_option maxRecDepth 20000 in
theorem gJ0_init_81219_J0_init_db425 : GoodIn wsJ0_init_81219 (wsJ0_init_db425) := ggJ0_init_81219_J0_init_db425
theorem dJ0_init_81219_3 : decode cJ0_init_81219 3 = .ok (.invokespecial 489, 3) := by decide +kernel
theorem dJ0_init_81219_6 : decode cJ0_init_81219 6 = .ok (.return_, 1) := by decide +kernel
theorem dJ4_toString_0e30d_0 : decode cJ4_toString_0e30d 0 = .ok (.new 18, 3) := by decide +kernel
theorem dJ4_toString_0e30d_3 : decode cJ4_toString_0e30d 3 = .ok (.dup, 1) := by decide +kernel
theorem dJ4_toString_0e30d_4 : decode cJ4_toString_0e30d 4 = .ok (.aload_n 0, 1) := by decide +kernel
set_option maxRecDepth 20000 in
theorem ggJ4_toString_0e30d_J0_init_81219 : GoodIn wsJ4_toString_0e30d wsJ0_init_81219 := goodIn_r _ [6, 7, 8, 3, 9, 10, 11, 12, 13, 14, 15, 16, 17, 18, 19, 20, 21, 22, 23, 24, 25, 26, 27, 28, 29, 30, 31, 32, 33, 34, 35, 36, 37, 38, 39, 40, 41, 42, 43, 44, 45, 46, 47, 48, 49, 50, 51, 52, 53, 54, 55, 56, 57, 58, 59, 60, 61, 62, 63, 64, 65, 66, 67, 68, 69, 70, 71, 72, 73, 74, 75, 76, 77, 78, 79, 80, 81, 82, 83, 84, 85, 86, 87, 88, 89, 90, 91, 92, 93, 94, 95, 96, 97, 98, 99, 100, 101, 102, 103, 104, 105, 106, 107, 108, 109, 110, 111, 112] (by decide +kernel) (by decide +kernel)
set_option maxRecDepth 20000 in
theorem gJ4_toString_0e30d_J0_init_81219 : GoodIn wsJ4_toString_0e30d (wsJ0_init_81219) := ggJ4_toString_0e30d_J0_init_81219
theorem dJ4_toString_0e30d_5 : decode cJ4_toString_0e30d 5 = .ok (.invokespecial 137, 3) := by decide +kernel
theorem dJ4_toString_0e30d_8 : decode cJ4_toString_0e30d 8 = .ok (.areturn, 1) := by decide +kernel
theorem dX10_writeTree_18 : decode cX10_writeTree 18 = .ok (.new 162, 3) := by decide +kernel
theorem dX10_writeTree_21 : decode cX10_writeTree 21 = .ok (.dup, 1) := by decide +kernel
set_option maxRecDepth 20000 in
theorem ggX10_writeTree_J4_init_da8c8 : GoodIn wsX10_writeTree wsJ4_init_da8c8 := goodIn_r _ [20, 21, 22, 23, 24, 25, 26, 27, 28, 29, 30, 31, 32, 33, 34, 35, 36, 37, 38, 39, 286, 287, 288, 289] (by decide +kernel) (by decide +kernel)
set_option maxRecDepth 20000 in
theorem gX10_writeTree_J4_init_da8c8 : GoodIn wsX10_writeTree (wsJ4_init_da8c8) := ggX10_writeTree_J4_init_da8c8
theorem dX10_writeTree_22 : decode cX10_writeTree 22 = .ok (.invokespecial 181, 3) := by decide +kernel
theorem dX10_writeTree_25 : decode cX10_writeTree 25 = .ok (.astore_n 2, 1) := by decide +kernel
theorem dX10_writeTree_26 : decode cX10_writeTree 26 = .ok (.aload_n 0, 1) := by decide +kernel
theorem dX10_writeTree_27 : decode cX10_writeTree 27 = .ok (.aload_n 0, 1) := by decide +kernel
theorem dX10_writeTree_28 : decode cX10_writeTree 28 = .ok (.getfield 27, 3) := by decide +kernel
theorem dX10_writeTree_31 : decode cX10_writeTree 31 = .ok (.iload_n 1, 1) := by decide +kernel
theorem dX10_writeTree_32 : decode cX10_writeTree 32 = .ok (.aaload, 1) := by decide +kernel
theorem dX10_writeTree_33 : decode cX10_writeTree 33 = .ok (.iconst 0, 1) := by decide +kernel
theorem dX10_writeTree_34 : decode cX10_writeTree 34 = .ok (.aload_n 2, 1) := by decide +kernel
set_option maxRecDepth 20000 in
theorem ggX10_writeTree_X10_writes : GoodIn wsX10_writeTree wsX10_writes := goodIn_r _ [43, 44, 45, 46, 4, 47, 48, 49, 50, 51, 23, 52, 53, 30, 54, 55, 56, 57, 58, 31, 59, 60, 61, 62, 63, 64, 65, 66, 67, 68, 69, 70, 71, 72, 73, 74, 75, 76, 77, 78, 79, 80, 81, 82, 83, 84, 85, 86, 29, 87, 88, 89, 90, 91, 92, 93, 94, 95, 96, 97, 98, 28, 99, 100, 101, 102, 103, 104, 105, 106, 107, 32, 33, 34, 35, 36, 37, 38, 39, 108, 109, 110, 111, 112, 113, 114, 115, 116, 117, 118, 119, 120, 121, 122, 123, 124, 125, 126, 127, 128, 129, 130, 131, 132, 133, 134, 135, 136, 137, 138, 139, 140, 141, 142, 143, 144, 145, 146, 147, 148, 149, 150, 151, 152, 153, 154, 155, 156, 157, 158, 159, 160, 161, 162, 163, 164, 165, 166, 167, 168, 169, 170, 171, 172, 173, 174, 175, 176, 177, 178, 179, 180, 181, 182, 183, 184, 185, 186, 187, 188, 189, 190, 191, 40, 41, 42, 9, 290, 291, 292, 293, 294, 286, 287, 288, 289] (by decide +kernel) (by decide +kernel)
set_option maxRecDepth 20000 in
theorem gX10_writeTree_X10_writes : GoodIn wsX10_writeTree (wsV RX10 177 RX10 yX10_writes wsX10_writes) := goodIn_app (goodIn_of _ (by decide +kernel)) ggX10_writeTree_X10_writes
theorem dX10_writeTree_35 : decode cX10_writeTree 35 = .ok (.invokevirtual 177, 3) := by decide +kernel
theorem dX10_writeTree_38 : decode cX10_writeTree 38 = .ok (.aload_n 0, 1) := by decide +kernel
theorem dX10_writeTree_39 : decode cX10_writeTree 39 = .ok (.aload_n 2, 1) := by decide +kernel
set_option maxRecDepth 20000 in
theorem ggX10_writeTree_J4_toString_0e30d : GoodIn wsX10_writeTree wsJ4_toString_0e30d := goodIn_r _ [195, 196, 197, 122, 198, 199, 200, 201, 202, 203, 204, 26, 27, 205, 206, 207, 208, 209, 210, 211, 212, 23, 213, 30, 214, 215, 216, 217, 218, 4, 219, 220, 50, 221, 222, 53, 223, 95, 96, 97, 98, 28, 31, 224, 225, 79, 226, 81, 82, 83, 84, 85, 86, 227, 228, 229, 29, 87, 88, 71, 89, 90, 91, 92, 93, 230, 231, 232, 233, 3, 234, 235, 34, 236, 237, 238, 239, 114, 115, 116, 117, 118, 119, 120, 121, 123, 124, 125, 126, 127, 128, 240, 241, 242, 132, 133, 134, 36, 37, 38, 39, 243, 244, 245, 246, 295, 296, 297, 298, 286, 287, 288, 289] (by decide +kernel) (by decide +kernel)
set_option maxRecDepth 20000 in
theorem gX10_writeTree_J4_toString_0e30d : GoodIn wsX10_writeTree (wsV RX10 182 RJ4 yJ4_toString_0e30d wsJ4_toString_0e30d) := goodIn_app (goodIn_of _ (by decide +kernel)) ggX10_writeTree_J4_toString_0e30d
theorem dX10_writeTree_40 : decode cX10_writeTree 40 = .ok (.invokevirtual 182, 3) := by decide +kernel
theorem dX10_writeTree_43 : decode cX10_writeTree 43 = .ok (.putfield 43, 3) := by decide +kernel
theorem dX10_writeTree_46 : decode cX10_writeTree 46 = .ok (.aload_n 0, 1) := by decide +kernel
theorem dX10_writeTree_47 : decode cX10_writeTree 47 = .ok (.getfield 43, 3) := by decide +kernel
set_option maxRecDepth 20000 in
theorem ggX10_writeTree_J0_length_8abf5 : GoodIn wsX10_writeTree wsJ0_length_8abf5 := goodIn_r _ [250, 206, 251, 252, 253, 122, 254, 207, 205, 295, 296, 297, 298] (by decide +kernel) (by decide +kernel)
set_option maxRecDepth 20000 in
theorem gX10_writeTree_J0_length_8abf5 : GoodIn wsX10_writeTree (wsV RX10 186 RJ0 yJ0_length_8abf5 wsJ0_length_8abf5) := goodIn_app (goodIn_of _ (by decide +kernel)) ggX10_writeTree_J0_length_8abf5
theorem dX10_writeTree_50 : decode cX10_writeTree 50 = .ok (.invokevirtual 186, 3) := by decide +kernel
theorem dX10_writeTree_53 : decode cX10_writeTree 53 = .ok (.ireturn, 1) := by decide +kernel
theorem dL_law_374 : decode cL_law 374 = .ok (.aload_n 1, 1) := by decide +kernel
theorem dL_law_375 : decode cL_law 375 = .ok (.aload_n 0, 1) := by decide +kernel
theorem dL_law_376 : decode cL_law 376 = .ok (.iload 5, 2) := by decide +kernel
theorem dL_law_378 : decode cL_law 378 = .ok (.iconst 1, 1) := by decide +kernel
theorem dL_law_379 : decode cL_law 379 = .ok (.iadd, 1) := by decide +kernel
theorem dL_law_380 : decode cL_law 380 = .ok (.iaload, 1) := by decide +kernel
theorem dL_law_381 : decode cL_law 381 = .ok (.aload_n 3, 1) := by decide +kernel
set_option maxRecDepth 20000 in
theorem ggL_law_L_writeTree : GoodIn wsL_law wsL_writeTree := goodIn_ca (goodIn_r _ [307, 185, 308, 309, 310, 2, 311, 23, 312, 196, 197, 198, 199, 200, 201, 15, 313, 314, 315, 22, 316, 317, 318, 319, 320, 44, 321, 60, 322, 323, 324, 325, 326, 67, 327, 328, 329, 330, 331, 332, 333, 334, 335, 336, 337, 338, 339, 340, 341, 1458, 1459, 1460, 1461, 1462, 1463, 1464, 1465, 1466, 1467, 1503, 1504, 1530, 1531, 1532, 1533, 1534, 1535, 1536] (by decide +kernel) (by decide +kernel)) (goodIn_sub (fun _ h => List.mem_append_left _ (List.mem_append_left _ (List.mem_append_right _ h))) (by decide +kernel))
set_option maxRecDepth 20000 in
theorem gL_law_L_writeTree : GoodIn wsL_law (va_wsS RL 167 yL_writeTree wsL_writeTree) := goodIn_app (goodIn_of _ (by decide +kernel)) ggL_law_L_writeTree
theorem dL_law_382 : decode cL_law 382 = .ok (.invokestatic 167, 3) := by decide +kernel
theorem dL_law_385 : decode cL_law 385 = .ok (.istore 6, 2) := by decide +kernel
theorem dL_law_387 : decode cL_law 387 = .ok (.aload_n 2, 1) := by decide +kernel
theorem dL_law_388 : decode cL_law 388 = .ok (.aload_n 0, 1) := by decide +kernel
theorem dL_law_389 : decode cL_law 389 = .ok (.iload 5, 2) := by decide +kernel
theorem dL_law_391 : decode cL_law 391 = .ok (.iconst 1, 1) := by decide +kernel
theorem dL_law_392 : decode cL_law 392 = .ok (.iadd, 1) := by decide +kernel
theorem dL_law_393 : decode cL_law 393 = .ok (.iaload, 1) := by decide +kernel
set_option maxRecDepth 20000 in
theorem ggL_law_X10_writeTree : GoodIn wsL_law wsX10_writeTree := goodIn_r _ [345, 172, 346, 347, 348, 114, 117, 259, 260, 5, 261, 262, 263, 264, 174, 175, 176, 177, 349, 350, 351, 352, 353, 354, 355, 356, 12, 13, 357, 358, 359, 360, 361, 362, 363, 364, 365, 366, 367, 368, 369, 370, 371, 372, 373, 374, 375, 376, 377, 378, 379, 380, 381, 382, 383, 384, 385, 386, 387, 388, 389, 390, 391, 392, 393, 394, 395, 396, 397, 398, 399, 400, 401, 402, 403, 404, 405, 406, 407, 408, 409, 410, 411, 412, 413, 414, 415, 416, 417, 418, 419, 250, 251, 252, 420, 421, 422, 423, 424, 425, 426, 427, 428, 429, 430, 431, 432, 433, 434, 435, 436, 437, 438, 439, 440, 441, 442, 443, 444, 445, 446, 447, 448, 449, 450, 451, 452, 453, 454, 455, 456, 457, 458, 459, 460, 461, 462, 463, 464, 465, 466, 467, 468, 469, 470, 471, 472, 473, 474, 475, 476, 477, 478, 479, 480, 481, 482, 483, 484, 485, 486, 487, 488, 489, 490, 491, 492, 493, 494, 495, 496, 497, 498, 499, 500, 501, 502, 503, 504, 505, 506, 507, 113, 508, 509, 146, 142, 510, 511, 512, 57, 513, 514, 515, 516, 517, 518, 519, 520, 521, 522, 523, 524, 525, 526, 527, 528, 529, 530, 531, 532, 533, 534, 535, 536, 537, 538, 539, 540, 541, 542, 543, 544, 545, 546, 547, 548, 549, 550, 551, 552, 553, 554, 555, 556, 557, 558, 559, 560, 561, 562, 563, 564, 565, 566, 567, 568, 569, 570, 571, 572, 573, 574, 575, 576, 1468, 1469, 1470, 1471, 1472, 1473, 1474, 1475, 1476, 1477, 1478, 1479, 1480, 1481, 1482, 1483, 1484, 1485, 1486, 1487, 1488, 1489, 1490, 1491, 1492, 1493, 1494, 1495, 1496, 1497, 1498, 1542, 1543, 1544, 1545, 1537, 1538, 1539, 1540, 1541, 1546, 1547, 1548, 1549] (by decide +kernel) (by decide +kernel)
set_option maxRecDepth 20000 in
theorem gL_law_X10_writeTree : GoodIn wsL_law (wsV RL 169 RX10 yX10_writeTree wsX10_writeTree) := goodIn_app (goodIn_of _ (by decide +kernel)) ggL_law_X10_writeTree
theorem dL_law_394 : decode cL_law 394 = .ok (.invokevirtual 169, 3) := by decide +kernel
theorem dL_law_397 : decode cL_law 397 = .ok (.istore 7, 2) := by decide +kernel
theorem dL_law_399 : decode cL_law 399 = .ok (.aload_n 2, 1) := by decide +kernel
theorem dL_law_400 : decode cL_law 400 = .ok (.invokevirtual 156, 3) := by decide +kernel
theorem dL_law_403 : decode cL_law 403 = .ok (.iload 6, 2) := by decide +kernel
theorem dL_law_405 : decode cL_law 405 = .ok (.if_icmp .eq 5, 3) := by decide +kernel
theorem dL_law_410 : decode cL_law 410 = .ok (.iload 6, 2) := by decide +kernel
theorem dL_law_412 : decode cL_law 412 = .ok (.ifCond .ne 15, 3) := by decide +kernel
theorem dL_law_427 : decode cL_law 427 = .ok (.goto 2223, 3) := by decide +kernel
theorem dL_law_415 : decode cL_law 415 = .ok (.aload_n 3, 1) := by decide +kernel
theorem dL_law_416 : decode cL_law 416 = .ok (.iconst 0, 1) := by decide +kernel
theorem dL_law_417 : decode cL_law 417 = .ok (.laload, 1) := by decide +kernel
theorem dL_law_418 : decode cL_law 418 = .ok (.iload 7, 2) := by decide +kernel
theorem dL_law_420 : decode cL_law 420 = .ok (.i2l, 1) := by decide +kernel
theorem dL_law_421 : decode cL_law 421 = .ok (.lcmp, 1) := by decide +kernel
theorem dL_law_422 : decode cL_law 422 = .ok (.ifCond .eq 5, 3) := by decide +kernel
variable {l : Launch} {N0 : Nat} {D : va_G} {cI cC cL cD cII cTr cTm cIt cB : ClassId} {F : Nat → Option va_E} {ql : Nat → Nat}
theorem k1585_X7_writeTree {n : Nat} {a1 : Int32} (g_a1_le_m1 : a1 ≤ (-1)) (hst : l.stackTraces = false) (hn : N0 + 231 ≤ n) (h0 : F N0 = some (.inr (9, [.ref (N0 + 1), .ref (N0 + 2), .ref (N0 + 11), .ref (N0 + 13), .ref (N0 + 63), .ref (N0 + 65), .ref (N0 + 85), .int (-1), .int (-1), .int 32]))) : vx_Met l yX7_writeTree wsX7_writeTree ({ frames := 7, cells := 1, slots := 6, locals := 103 }) (va_Pc [.ref N0, .int a1] (fP N0 D vwCl (fty cI cC cL cD cII cTr cTm cIt cB) (fen ql) F n)) (fNo N0 D vwCl (fty cI cC cL cD cII cTr cTm cIt cB) F n) (fXC N0 D vwCl (fty cI cC cL cD cII cTr cTm cIt cB) "java/lang/IndexOutOfBoundsException" F n) 1 6 (fA N0) := by
  refine fx_startX 3 rfl rfl (Nat.le_of_ble_eq_true rfl) ?_ rfl
  intro p e s m below meth c ls S htab hlocks hG hl
  have hl : lv_has ls 3 [(0, .ref N0), (1, .int a1)] := hl
  have lt_h0 := hG.1.lt h0
  refine lv_aload_n S.1 S.2.1 dX7_writeTree_0 rfl (lv_at hl 0 rfl) ?_
  refine lv_iload_n S.1 S.2.1 dX7_writeTree_1 rfl (lv_at hl 1 rfl) ?_
  refine fx_xV (As := [.int a1]) (rest := []) S hG (k18_X7_treeAt g_a1_le_m1 hst (by omega)) h0 rfl (cwV 1 S.2.2.2.2 gX7_writeTree_X7_treeAt rfl rfl rfl (by decide +kernel) ⟨Nat.le_of_ble_eq_true rfl, Nat.le_of_ble_eq_true rfl⟩) rfl hl.1 rfl (Nat.le_of_ble_eq_true rfl) dX7_writeTree_2 ⟨Nat.le_of_ble_eq_true rfl, Nat.le_of_ble_eq_true rfl⟩ (fun ceq_1 q_1 H locs n_2 hn_2 hG h1q_1 h2q_1 h3q_1 => ?_)
  exact fx_out htab hlocks hG (by omega) h1q_1 h2q_1 h3q_1 (by decide) (by decide)
theorem k1586_L_writeTree {n : Nat} {a1 : Int32} (g_a1_le_m1 : a1 ≤ (-1)) (hst : l.stackTraces = false) (hn : N0 + 231 ≤ n) (h0 : F N0 = some (.inr (9, [.ref (N0 + 1), .ref (N0 + 2), .ref (N0 + 11), .ref (N0 + 13), .ref (N0 + 63), .ref (N0 + 65), .ref (N0 + 85), .int (-1), .int (-1), .int 32]))) : Met l yL_writeTree wsL_writeTree ({ frames := 8, cells := 1, slots := 6, locals := 125 }) (va_Pc [.ref N0, .int a1, .ref (N0 + 229)] (fP N0 D vwCl (fty cI cC cL cD cII cTr cTm cIt cB) (fen ql) F n)) (fQi N0 D vwCl (fty cI cC cL cD cII cTr cTm cIt cB) (fun (r : Int32) (u : Nat) => r = 1 ∧ n ≤ u) (fun _ => F) (fun u => u)) 1 6 (fA N0) := by
  refine fx_startW (hh := [(0, 9, 12, 19)]) 4 rfl rfl (Nat.le_of_ble_eq_true rfl) ?_ rfl
  intro p e s m below meth c ls S htab hr hlocks hG hl
  have hl : lv_has ls 4 [(0, .ref N0), (1, .int a1), (2, .ref (N0 + 229))] := hl
  have lt_h0 := hG.1.lt h0
  refine lv_aload_n S.1 S.2.1 dL_writeTree_0 rfl (lv_at hl 2 rfl) ?_
  refine lv_iconst (v := 0) S.1 S.2.1 dL_writeTree_1 (by decide) ?_
  refine lv_aload_n S.1 S.2.1 dL_writeTree_2 rfl (lv_at hl 0 rfl) ?_
  refine lv_iload_n S.1 S.2.1 dL_writeTree_3 rfl (lv_at hl 1 rfl) ?_
  refine fx_xV (As := [.int a1]) (rest := [.int 0, .ref (N0 + 229)]) S hG (k1585_X7_writeTree g_a1_le_m1 hst (by omega) h0) h0 rfl (cwV 1 S.2.2.2.2 gL_writeTree_X7_writeTree rfl rfl rfl (by decide +kernel) ⟨Nat.le_of_ble_eq_true rfl, Nat.le_of_ble_eq_true rfl⟩) rfl hl.1 rfl (Nat.le_of_ble_eq_true rfl) dL_writeTree_4 ⟨Nat.le_of_ble_eq_true rfl, Nat.le_of_ble_eq_true rfl⟩ (fun ceq_1 q_1 H locs n_2 hn_2 hG h1q_1 h2q_1 h3q_1 => ?_)
  refine fx_catch (hh := [(0, 9, 12, 19)]) S htab hG h1q_1 h2q_1 h3q_1 [] ⟨0, 9, 12, 19⟩ [] rfl [] (fun z hz => absurd hz List.not_mem_nil) (by decide) (by decide) (by decide +kernel) (List.mem_of_getElem? (i := 2) rfl) ?_
  refine lv_astore_n (lv' := [(3, .ref q_1), (0, .ref N0), (1, .int a1), (2, .ref (N0 + 229))]) S.1 S.2.1 dL_writeTree_12 rfl hl (by decide) rfl (fun ls hl => ?_)
  refine lv_iconst (v := 1) S.1 S.2.1 dL_writeTree_13 (by decide) ?_
  exact fx_iret S hr hlocks n_2 hG (⟨rfl, hn_2⟩) dL_writeTree_14
theorem i_X10_writeTree_X10 : ∀ w ∈ u_ws RX10 TX10 31, w ∈ wsX10_writeTree := by decide +kernel
theorem k1587_X10_writeTree {n : Nat} {a1 : Int32} (g_a1_le_m1 : a1 ≤ (-1)) (hn : N0 + 231 ≤ n) (h0 : F (N0 + 164) = some (.inr (12, [.ref (N0 + 165), .int 0, .ref (N0 + 181), .int 0, .int 0, .int 0, .int (-1), .ref (ql 24), .ref (N0 + 182), .ref (N0 + 187), .ref (N0 + 208), .ref (N0 + 209), .ref (N0 + 210), .ref (N0 + 211), .ref (N0 + 212), .int 0, .ref (N0 + 213), .ref (N0 + 218), .ref (N0 + 223), .ref (N0 + 224), .ref (N0 + 225), .ref (N0 + 226), .ref (N0 + 227), .int 0, .int 0, .ref (N0 + 228), .null, .int (-1), .int 0, .int 0, .int 0]))) : Met l yX10_writeTree wsX10_writeTree ({ frames := 2, cells := 0, slots := 0, locals := 42 }) (va_Pc [.ref (N0 + 164), .int a1] (fP N0 D vwCl (fty cI cC cL cD cII cTr cTm cIt cB) (fen ql) F n)) (fQi N0 D vwCl (fty cI cC cL cD cII cTr cTm cIt cB) (fun (r : Int32) (_ : Unit) => r = 0) (fun _ => (fu F (N0 + 164) (.inr (12, [.ref (N0 + 165), .int 1, .ref (N0 + 181), .int 0, .int 0, .int 0, .int (-1), .ref (ql 24), .ref (N0 + 182), .ref (N0 + 187), .ref (N0 + 208), .ref (N0 + 209), .ref (N0 + 210), .ref (N0 + 211), .ref (N0 + 212), .int 0, .ref (N0 + 213), .ref (N0 + 218), .ref (N0 + 223), .ref (N0 + 224), .ref (N0 + 225), .ref (N0 + 226), .ref (N0 + 227), .int 0, .int 0, .ref (N0 + 228), .null, .int (-1), .int 0, .int 0, .int 0])))) (fun _ => n)) 0 0 (fA N0) := by
  refine fx_start 3 rfl rfl (Nat.le_of_ble_eq_true rfl) ?_ rfl
  intro p e s m below meth c ls S hr hlocks hin hG hl
  have hl : lv_has ls 3 [(0, .ref (N0 + 164)), (1, .int a1)] := hl
  have lt_h0 := hG.1.lt h0
  refine lv_aload_n S.1 S.2.1 dX10_writeTree_0 rfl (lv_at hl 0 rfl) ?_
  refine lv_iconst (v := 0) S.1 S.2.1 dX10_writeTree_1 (by decide) ?_
  refine gx_put (C := RX10) (T := TX10) (N := 31) (ty := .int) (v := .int 0) (fs' := [.ref (N0 + 165), .int 0, .ref (N0 + 181), .int 0, .int 0, .int 0, .int (-1), .ref (ql 24), .ref (N0 + 182), .ref (N0 + 187), .ref (N0 + 208), .ref (N0 + 209), .ref (N0 + 210), .ref (N0 + 211), .ref (N0 + 212), .int 0, .ref (N0 + 213), .ref (N0 + 218), .ref (N0 + 223), .ref (N0 + 224), .ref (N0 + 225), .ref (N0 + 226), .ref (N0 + 227), .int 0, .int 0, .ref (N0 + 228), .null, .int (-1), .int 0, .int 0, .int 0]) S hG h0 i_X10_writeTree_X10 rfl 1 (by decide) tyX10 tyX10_ok nmX10 (by decide +kernel) rfl (by decide +kernel) rfl rfl (Nat.le_of_ble_eq_true rfl) rfl dX10_writeTree_2 (fun H locs hG => ?_)
  refine lv_iload_n S.1 S.2.1 dX10_writeTree_5 rfl (lv_at hl 1 rfl) ?_
  refine fx_cSi (As := [.int a1]) (rest := []) S hG (k22_X10_isTree g_a1_le_m1 (by omega)) (cwS 1 S.2.2.2.2 gX10_writeTree_X10_isTree rfl rfl rfl (by decide +kernel) ⟨Nat.le_of_ble_eq_true rfl, Nat.le_of_ble_eq_true rfl⟩) rfl hl.1 rfl (Nat.le_of_ble_eq_true rfl) dX10_writeTree_6 ⟨Nat.le_of_ble_eq_true rfl, Nat.le_of_ble_eq_true rfl⟩ (fun rv_1 _ H locs hp hG => ?_)
  subst rv_1
  refine lv_if_ne (tgt := 18) S.1 S.2.1 dX10_writeTree_9 (by decide) (fun c => absurd (by decide) c) (fun _ => ?_)
  refine lv_aload_n S.1 S.2.1 dX10_writeTree_12 rfl (lv_at hl 0 rfl) ?_
  refine lv_iconst (v := 1) S.1 S.2.1 dX10_writeTree_13 (by decide) ?_
  refine fx_cVi (As := [.int 1]) (rest := []) S hG (k23_X10_fails (by omega) fu_s) fu_s rfl (cwV 1 S.2.2.2.2 gX10_writeTree_X10_fails rfl rfl rfl (by decide +kernel) ⟨Nat.le_of_ble_eq_true rfl, Nat.le_of_ble_eq_true rfl⟩) rfl hl.1 rfl (Nat.le_of_ble_eq_true rfl) dX10_writeTree_14 ⟨Nat.le_of_ble_eq_true rfl, Nat.le_of_ble_eq_true rfl⟩ (fun rv_2 _ H locs hp hG => ?_)
  subst rv_2
  have hG : fG N0 D vwCl (fty cI cC cL cD cII cTr cTm cIt cB) (fen ql) s (fu F (N0 + 164) (.inr (12, [.ref (N0 + 165), .int 1, .ref (N0 + 181), .int 0, .int 0, .int 0, .int (-1), .ref (ql 24), .ref (N0 + 182), .ref (N0 + 187), .ref (N0 + 208), .ref (N0 + 209), .ref (N0 + 210), .ref (N0 + 211), .ref (N0 + 212), .int 0, .ref (N0 + 213), .ref (N0 + 218), .ref (N0 + 223), .ref (N0 + 224), .ref (N0 + 225), .ref (N0 + 226), .ref (N0 + 227), .int 0, .int 0, .ref (N0 + 228), .null, .int (-1), .int 0, .int 0, .int 0]))) n H locs := hG.weak (fun a e h => by
    rcases fu_cases h with ⟨rfl, he⟩ | ⟨hne0, h⟩
    · cases he; exact fu_s
    · exact (fu_at (by omega) (fu_at (by omega) h)))
  exact fx_iret S hr hlocks () hG (rfl) dX10_writeTree_17
theorem k1588_X5_depthOf {n : Nat} (hn : N0 + 231 ≤ n)  : Met l yX5_depthOf wsX5_depthOf ({ frames := 0, cells := 0, slots := 0, locals := 0 }) (va_Pc [.ref (N0 + 143), .int 0] (fP N0 D vwCl (fty cI cC cL cD cII cTr cTm cIt cB) (fen ql) F n)) (fQi N0 D vwCl (fty cI cC cL cD cII cTr cTm cIt cB) (fun (r : Int32) (_ : Unit) => r = 0) (fun _ => F) (fun _ => n)) 0 0 (fA N0) := by
  refine fx_start 4 rfl rfl (Nat.le_of_ble_eq_true rfl) ?_ rfl
  intro p e s m below meth c ls S hr hlocks hin hG hl
  have hl : lv_has ls 4 [(0, .ref (N0 + 143)), (1, .int 0)] := hl
  refine lv_iconst (v := 0) S.1 S.2.1 dX5_depthOf_0 (by decide) ?_
  refine lv_istore_n (lv' := [(2, .int 0), (0, .ref (N0 + 143)), (1, .int 0)]) S.1 S.2.1 dX5_depthOf_1 rfl hl (by decide) rfl (fun ls hl => ?_)
  refine lv_iload_n S.1 S.2.1 dX5_depthOf_2 rfl (lv_at hl 2 rfl) ?_
  refine lv_istore_n (lv' := [(3, .int 0), (2, .int 0), (0, .ref (N0 + 143)), (1, .int 0)]) S.1 S.2.1 dX5_depthOf_3 rfl hl (by decide) rfl (fun ls hl => ?_)
  refine lv_iload_n S.1 S.2.1 dX5_depthOf_4 rfl (lv_at hl 0 rfl) ?_
  refine lv_if_le (tgt := 27) S.1 S.2.1 dX5_depthOf_5 (by decide) (fun _ => ?_) (fun c => absurd (by decide) c)
  refine lv_iload_n S.1 S.2.1 dX5_depthOf_27 rfl (lv_at hl 1 rfl) ?_
  exact fx_iret S hr hlocks () hG (rfl) dX5_depthOf_28
theorem k1589_X0_appendClosings {n : Nat} (hn : N0 + 231 ≤ n)  : Met l yX0_appendClosings wsX0_appendClosings ({ frames := 0, cells := 0, slots := 0, locals := 0 }) (va_Pc [.ref (N0 + 11), .int 0] (fP N0 D vwCl (fty cI cC cL cD cII cTr cTm cIt cB) (fen ql) F n)) (fQv N0 D vwCl (fty cI cC cL cD cII cTr cTm cIt cB) (fun (_ : Unit) => True) (fun _ => F) (fun _ => n)) 0 0 (fA N0) := by
  refine fx_start 3 rfl rfl (Nat.le_of_ble_eq_true rfl) ?_ rfl
  intro p e s m below meth c ls S hr hlocks hin hG hl
  have hl : lv_has ls 3 [(0, .ref (N0 + 11)), (1, .int 0)] := hl
  refine lv_iconst (v := 0) S.1 S.2.1 dX0_appendClosings_0 (by decide) ?_
  refine lv_istore_n (lv' := [(2, .int 0), (0, .ref (N0 + 11)), (1, .int 0)]) S.1 S.2.1 dX0_appendClosings_1 rfl hl (by decide) rfl (fun ls hl => ?_)
  refine lv_iload_n S.1 S.2.1 dX0_appendClosings_2 rfl (lv_at hl 0 rfl) ?_
  refine lv_iload_n S.1 S.2.1 dX0_appendClosings_3 rfl (lv_at hl 2 rfl) ?_
  refine lv_icmp_ge (tgt := 19) S.1 S.2.1 dX0_appendClosings_4 (by decide) (fun _ => ?_) (fun c => absurd (by decide) c)
  exact fx_vret S hr hlocks () hG trivial dX0_appendClosings_19
theorem i_X0_append_X0 : ∀ w ∈ u_ws RX0 TX0 2, w ∈ wsX0_append := by decide +kernel
theorem k1590_X0_append {n : Nat} (hn : N0 + 231 ≤ n) (h0 : F (N0 + 11) = some (.inr (2, [.ref (N0 + 12), .int 0]))) (h1 : F (N0 + 12) = some (.inl (cC, 160, .inl (fun _ => 0)))) : Met l yX0_append wsX0_append ({ frames := 0, cells := 0, slots := 0, locals := 0 }) (va_Pc [.ref (N0 + 11), .int 97] (fP N0 D vwCl (fty cI cC cL cD cII cTr cTm cIt cB) (fen ql) F n)) (fQv N0 D vwCl (fty cI cC cL cD cII cTr cTm cIt cB) (fun (_ : Unit) => True) (fun _ => (fu (fu F (N0 + 12) (.inl (cC, 160, .inl (upd (fun _ => 0) 0 97)))) (N0 + 11) (.inr (2, [.ref (N0 + 12), .int 1])))) (fun _ => n)) 0 0 (fA N0) := by
  refine fx_start 2 rfl rfl (Nat.le_of_ble_eq_true rfl) ?_ rfl
  intro p e s m below meth c ls S hr hlocks hin hG hl
  have hl : lv_has ls 2 [(0, .ref (N0 + 11)), (1, .int 97)] := hl
  have lt_h0 := hG.1.lt h0
  have lt_h1 := hG.1.lt h1
  refine lv_aload_n S.1 S.2.1 dX0_append_0 rfl (lv_at hl 0 rfl) ?_
  refine gx_get (C := RX0) (T := TX0) (N := 2) S hG h0 i_X0_append_X0 rfl 1 (by decide) (by decide +kernel) rfl dX0_append_1 ?_
  refine lv_if_lt (tgt := 37) S.1 S.2.1 dX0_append_4 (by decide) (fun c => absurd c (by decide)) (fun _ => ?_)
  refine lv_aload_n S.1 S.2.1 dX0_append_7 rfl (lv_at hl 0 rfl) ?_
  refine gx_get (C := RX0) (T := TX0) (N := 2) S hG h0 i_X0_append_X0 rfl 1 (by decide) (by decide +kernel) rfl dX0_append_8 ?_
  refine lv_sipush (v := 160) S.1 S.2.1 dX0_append_11 (by decide) ?_
  refine lv_icmp_ge (tgt := 37) S.1 S.2.1 dX0_append_14 (by decide) (fun c => absurd c (by decide)) (fun _ => ?_)
  refine lv_aload_n S.1 S.2.1 dX0_append_17 rfl (lv_at hl 0 rfl) ?_
  refine gx_get (C := RX0) (T := TX0) (N := 2) S hG h0 i_X0_append_X0 rfl 0 (by decide) (by decide +kernel) rfl dX0_append_18 ?_
  refine lv_aload_n S.1 S.2.1 dX0_append_21 rfl (lv_at hl 0 rfl) ?_
  refine gx_get (C := RX0) (T := TX0) (N := 2) S hG h0 i_X0_append_X0 rfl 1 (by decide) (by decide +kernel) rfl dX0_append_22 ?_
  refine lv_iload_n S.1 S.2.1 dX0_append_25 rfl (lv_at hl 1 rfl) ?_
  refine gx_cast (f' := upd (fun _ => 0) 0 97) S hG 1 h1 rfl (fin_l (by decide)) dX0_append_26 (rfl) (fun H locs hG => ?_)
  refine lv_aload_n S.1 S.2.1 dX0_append_27 rfl (lv_at hl 0 rfl) ?_
  refine lv_dup S.1 S.2.1 dX0_append_28 rfl ?_
  refine gx_get (C := RX0) (T := TX0) (N := 2) S hG (fu_at (by omega) h0) i_X0_append_X0 rfl 1 (by decide) (by decide +kernel) rfl dX0_append_29 ?_
  refine lv_iconst (v := 1) S.1 S.2.1 dX0_append_32 (by decide) ?_
  refine lv_iadd S.1 S.2.1 dX0_append_33 ?_
  refine fx_topi (y := 1) (by decide) ?_
  refine gx_put (C := RX0) (T := TX0) (N := 2) (ty := .int) (v := .int 1) (fs' := [.ref (N0 + 12), .int 1]) S hG (fu_at (by omega) h0) i_X0_append_X0 rfl 1 (by decide) tyX0 tyX0_ok nmX0 (by decide +kernel) rfl (by decide +kernel) rfl rfl (Nat.le_of_ble_eq_true rfl) rfl dX0_append_34 (fun H locs hG => ?_)
  exact fx_vret S hr hlocks () hG trivial dX0_append_37
theorem i_X0_appendHead_X5 : ∀ w ∈ u_ws RX5 TX5 7, w ∈ wsX0_appendHead := by decide +kernel
theorem k1591_X0_appendHead {n : Nat} (hn : N0 + 231 ≤ n) (h0 : F (N0 + 143) = some (.inr (7, [.ref (N0 + 144), .ref (N0 + 145), .ref (N0 + 146), .ref (N0 + 147), .ref (N0 + 148), .ref (N0 + 149), .int 1]))) (h1 : F (N0 + 144) = some (.inl (cC, 20, .inl (upd (fun _ => 0) 0 97)))) (h2 : F (N0 + 11) = some (.inr (2, [.ref (N0 + 12), .int 0]))) (h3 : F (N0 + 12) = some (.inl (cC, 160, .inl (fun _ => 0)))) (h4 : F (N0 + 145) = some (.inl (cI, 20, .inl (fun _ => 0)))) (h5 : F (N0 + 146) = some (.inl (cI, 20, .inl (fun _ => 0)))) : Met l yX0_appendHead wsX0_appendHead ({ frames := 1, cells := 0, slots := 0, locals := 21 }) (va_Pc [.ref (N0 + 11), .ref (N0 + 143), .int 0] (fP N0 D vwCl (fty cI cC cL cD cII cTr cTm cIt cB) (fen ql) F n)) (fQv N0 D vwCl (fty cI cC cL cD cII cTr cTm cIt cB) (fun (_ : Unit) => True) (fun _ => (fu (fu F (N0 + 12) (.inl (cC, 160, .inl (upd (fun _ => 0) 0 97)))) (N0 + 11) (.inr (2, [.ref (N0 + 12), .int 1])))) (fun _ => n)) 0 0 (fA N0) := by
  refine fx_start 3 rfl rfl (Nat.le_of_ble_eq_true rfl) ?_ rfl
  intro p e s m below meth c ls S hr hlocks hin hG hl
  have hl : lv_has ls 3 [(0, .ref (N0 + 11)), (1, .ref (N0 + 143)), (2, .int 0)] := hl
  have lt_h0 := hG.1.lt h0
  have lt_h1 := hG.1.lt h1
  have lt_h2 := hG.1.lt h2
  have lt_h3 := hG.1.lt h3
  have lt_h4 := hG.1.lt h4
  have lt_h5 := hG.1.lt h5
  refine lv_aload_n S.1 S.2.1 dX0_appendHead_0 rfl (lv_at hl 0 rfl) ?_
  refine lv_aload_n S.1 S.2.1 dX0_appendHead_1 rfl (lv_at hl 1 rfl) ?_
  refine gx_get (C := RX5) (T := TX5) (N := 7) S hG h0 i_X0_appendHead_X5 rfl 0 (by decide) (by decide +kernel) rfl dX0_appendHead_2 ?_
  refine lv_iload_n S.1 S.2.1 dX0_appendHead_5 rfl (lv_at hl 2 rfl) ?_
  refine gx_cald (v := 97) S hG 1 h1 rfl (fin_l (by decide)) (by decide) dX0_appendHead_6 ?_
  refine fx_cVv (As := [.int 97]) (rest := []) S hG (k1590_X0_append (by omega) h2 h3) h2 rfl (cwV 1 S.2.2.2.2 gX0_appendHead_X0_append rfl rfl rfl (by decide +kernel) ⟨Nat.le_of_ble_eq_true rfl, Nat.le_of_ble_eq_true rfl⟩) rfl hl.1 rfl (Nat.le_of_ble_eq_true rfl) dX0_appendHead_7 ⟨Nat.le_of_ble_eq_true rfl, Nat.le_of_ble_eq_true rfl⟩ (fun _ H locs hp hG => ?_)
  refine lv_aload_n S.1 S.2.1 dX0_appendHead_10 rfl (lv_at hl 1 rfl) ?_
  refine gx_get (C := RX5) (T := TX5) (N := 7) S hG (fu_at (by omega) (fu_at (by omega) h0)) i_X0_appendHead_X5 rfl 1 (by decide) (by decide +kernel) rfl dX0_appendHead_11 ?_
  refine lv_iload_n S.1 S.2.1 dX0_appendHead_14 rfl (lv_at hl 2 rfl) ?_
  refine gx_iald (v := 0) S hG 0 (fu_at (by omega) (fu_at (by omega) h4)) rfl (fin_l (by decide)) (by decide) dX0_appendHead_15 ?_
  refine lv_if_eq (tgt := 35) S.1 S.2.1 dX0_appendHead_16 (by decide) (fun _ => ?_) (fun c => absurd (by decide) c)
  refine lv_aload_n S.1 S.2.1 dX0_appendHead_35 rfl (lv_at hl 1 rfl) ?_
  refine gx_get (C := RX5) (T := TX5) (N := 7) S hG (fu_at (by omega) (fu_at (by omega) h0)) i_X0_appendHead_X5 rfl 2 (by decide) (by decide +kernel) rfl dX0_appendHead_36 ?_
  refine lv_iload_n S.1 S.2.1 dX0_appendHead_39 rfl (lv_at hl 2 rfl) ?_
  refine gx_iald (v := 0) S hG 0 (fu_at (by omega) (fu_at (by omega) h5)) rfl (fin_l (by decide)) (by decide) dX0_appendHead_40 ?_
  refine lv_if_eq (tgt := 60) S.1 S.2.1 dX0_appendHead_41 (by decide) (fun _ => ?_) (fun c => absurd (by decide) c)
  exact fx_vret S hr hlocks () hG trivial dX0_appendHead_60
theorem i_X0_appendTree_X5 : ∀ w ∈ u_ws RX5 TX5 7, w ∈ wsX0_appendTree := by decide +kernel
theorem k1592_X0_appendTree {n : Nat} (hn : N0 + 231 ≤ n) (h0 : F (N0 + 143) = some (.inr (7, [.ref (N0 + 144), .ref (N0 + 145), .ref (N0 + 146), .ref (N0 + 147), .ref (N0 + 148), .ref (N0 + 149), .int 1]))) (h1 : F (N0 + 11) = some (.inr (2, [.ref (N0 + 12), .int 0]))) (h2 : F (N0 + 144) = some (.inl (cC, 20, .inl (upd (fun _ => 0) 0 97)))) (h3 : F (N0 + 12) = some (.inl (cC, 160, .inl (fun _ => 0)))) (h4 : F (N0 + 145) = some (.inl (cI, 20, .inl (fun _ => 0)))) (h5 : F (N0 + 146) = some (.inl (cI, 20, .inl (fun _ => 0)))) : Met l yX0_appendTree wsX0_appendTree ({ frames := 2, cells := 0, slots := 0, locals := 43 }) (va_Pc [.ref (N0 + 11), .ref (N0 + 143)] (fP N0 D vwCl (fty cI cC cL cD cII cTr cTm cIt cB) (fen ql) F n)) (fQv N0 D vwCl (fty cI cC cL cD cII cTr cTm cIt cB) (fun (_ : Unit) => True) (fun _ => (fu (fu F (N0 + 12) (.inl (cC, 160, .inl (upd (fun _ => 0) 0 97)))) (N0 + 11) (.inr (2, [.ref (N0 + 12), .int 1])))) (fun _ => n)) 0 0 (fA N0) := by
  refine fx_start 5 rfl rfl (Nat.le_of_ble_eq_true rfl) ?_ rfl
  intro p e s m below meth c ls S hr hlocks hin hG hl
  have hl : lv_has ls 5 [(0, .ref (N0 + 11)), (1, .ref (N0 + 143))] := hl
  have lt_h0 := hG.1.lt h0
  have lt_h1 := hG.1.lt h1
  have lt_h2 := hG.1.lt h2
  have lt_h3 := hG.1.lt h3
  have lt_h4 := hG.1.lt h4
  have lt_h5 := hG.1.lt h5
  refine lv_iconst (v := 0) S.1 S.2.1 dX0_appendTree_0 (by decide) ?_
  refine lv_istore_n (lv' := [(2, .int 0), (0, .ref (N0 + 11)), (1, .ref (N0 + 143))]) S.1 S.2.1 dX0_appendTree_1 rfl hl (by decide) rfl (fun ls hl => ?_)
  refine lv_iconst (v := 0) S.1 S.2.1 dX0_appendTree_2 (by decide) ?_
  refine lv_istore_n (lv' := [(3, .int 0), (2, .int 0), (0, .ref (N0 + 11)), (1, .ref (N0 + 143))]) S.1 S.2.1 dX0_appendTree_3 rfl hl (by decide) rfl (fun ls hl => ?_)
  refine lv_iload_n S.1 S.2.1 dX0_appendTree_4 rfl (lv_at hl 0 rfl) ?_
  refine lv_aload_n S.1 S.2.1 dX0_appendTree_5 rfl (lv_at hl 3 rfl) ?_
  refine gx_get (C := RX5) (T := TX5) (N := 7) S hG h0 i_X0_appendTree_X5 rfl 6 (by decide) (by decide +kernel) rfl dX0_appendTree_6 ?_
  refine lv_icmp_ge (tgt := 54) S.1 S.2.1 dX0_appendTree_9 (by decide) (fun c => absurd c (by decide)) (fun _ => ?_)
  refine lv_aload_n S.1 S.2.1 dX0_appendTree_12 rfl (lv_at hl 3 rfl) ?_
  refine lv_iload_n S.1 S.2.1 dX0_appendTree_13 rfl (lv_at hl 0 rfl) ?_
  refine fx_cVi (As := [.int 0]) (rest := []) S hG (k1588_X5_depthOf (by omega)) h0 rfl (cwV 1 S.2.2.2.2 gX0_appendTree_X5_depthOf rfl rfl rfl (by decide +kernel) ⟨Nat.le_of_ble_eq_true rfl, Nat.le_of_ble_eq_true rfl⟩) rfl hl.1 rfl (Nat.le_of_ble_eq_true rfl) dX0_appendTree_14 ⟨Nat.le_of_ble_eq_true rfl, Nat.le_of_ble_eq_true rfl⟩ (fun rv_1 _ H locs hp hG => ?_)
  subst rv_1
  refine lv_istore (lv' := [(4, .int 0), (3, .int 0), (2, .int 0), (0, .ref (N0 + 11)), (1, .ref (N0 + 143))]) S.1 S.2.1 dX0_appendTree_17 hl (by decide) rfl (fun ls hl => ?_)
  refine lv_iload S.1 S.2.1 dX0_appendTree_19 (lv_at hl 0 rfl) ?_
  refine lv_iload_n S.1 S.2.1 dX0_appendTree_21 rfl (lv_at hl 2 rfl) ?_
  refine lv_icmp_le (tgt := 31) S.1 S.2.1 dX0_appendTree_22 (by decide) (fun _ => ?_) (fun c => absurd (by decide) c)
  refine lv_aload_n S.1 S.2.1 dX0_appendTree_31 rfl (lv_at hl 3 rfl) ?_
  refine lv_iload_n S.1 S.2.1 dX0_appendTree_32 rfl (lv_at hl 2 rfl) ?_
  refine lv_iload S.1 S.2.1 dX0_appendTree_33 (lv_at hl 0 rfl) ?_
  refine lv_isub S.1 S.2.1 dX0_appendTree_35 ?_
  refine fx_topi (y := 0) (by decide) ?_
  refine fx_cVv (As := [.int 0]) (rest := []) S hG (k1589_X0_appendClosings (by omega)) h1 rfl (cwV 1 S.2.2.2.2 gX0_appendTree_X0_appendClosings rfl rfl rfl (by decide +kernel) ⟨Nat.le_of_ble_eq_true rfl, Nat.le_of_ble_eq_true rfl⟩) rfl hl.1 rfl (Nat.le_of_ble_eq_true rfl) dX0_appendTree_36 ⟨Nat.le_of_ble_eq_true rfl, Nat.le_of_ble_eq_true rfl⟩ (fun _ H locs hp hG => ?_)
  refine lv_aload_n S.1 S.2.1 dX0_appendTree_39 rfl (lv_at hl 3 rfl) ?_
  refine lv_aload_n S.1 S.2.1 dX0_appendTree_40 rfl (lv_at hl 4 rfl) ?_
  refine lv_iload_n S.1 S.2.1 dX0_appendTree_41 rfl (lv_at hl 1 rfl) ?_
  refine fx_cVv (As := [.ref (N0 + 143), .int 0]) (rest := []) S hG (k1591_X0_appendHead (by omega) h0 h2 h1 h3 h4 h5) h1 rfl (cwV 2 S.2.2.2.2 gX0_appendTree_X0_appendHead rfl rfl rfl (by decide +kernel) ⟨Nat.le_of_ble_eq_true rfl, Nat.le_of_ble_eq_true rfl⟩) rfl hl.1 rfl (Nat.le_of_ble_eq_true rfl) dX0_appendTree_42 ⟨Nat.le_of_ble_eq_true rfl, Nat.le_of_ble_eq_true rfl⟩ (fun _ H locs hp hG => ?_)
  refine lv_iload S.1 S.2.1 dX0_appendTree_45 (lv_at hl 0 rfl) ?_
  refine lv_istore_n (lv' := [(2, .int 0), (4, .int 0), (3, .int 0), (0, .ref (N0 + 11)), (1, .ref (N0 + 143))]) S.1 S.2.1 dX0_appendTree_47 rfl hl (by decide) rfl (fun ls hl => ?_)
  refine lv_iinc (v := 1) (lv' := [(3, .int 1), (2, .int 0), (4, .int 0), (0, .ref (N0 + 11)), (1, .ref (N0 + 143))]) S.1 S.2.1 dX0_appendTree_48 hl (k := 2) rfl (by decide) (by decide) rfl (fun ls hl => ?_)
  refine lv_goto (tgt := 4) S.1 S.2.1 dX0_appendTree_51 (by decide) ?_
  refine lv_iload_n S.1 S.2.1 dX0_appendTree_4 rfl (lv_at hl 0 rfl) ?_
  refine lv_aload_n S.1 S.2.1 dX0_appendTree_5 rfl (lv_at hl 4 rfl) ?_
  refine gx_get (C := RX5) (T := TX5) (N := 7) S hG (fu_at (by omega) (fu_at (by omega) h0)) i_X0_appendTree_X5 rfl 6 (by decide) (by decide +kernel) rfl dX0_appendTree_6 ?_
  refine lv_icmp_ge (tgt := 54) S.1 S.2.1 dX0_appendTree_9 (by decide) (fun _ => ?_) (fun c => absurd (by decide) c)
  refine lv_aload_n S.1 S.2.1 dX0_appendTree_54 rfl (lv_at hl 3 rfl) ?_
  refine lv_iload_n S.1 S.2.1 dX0_appendTree_55 rfl (lv_at hl 1 rfl) ?_
  refine fx_cVv (As := [.int 0]) (rest := []) S hG (k1589_X0_appendClosings (by omega)) fu_s rfl (cwV 1 S.2.2.2.2 gX0_appendTree_X0_appendClosings rfl rfl rfl (by decide +kernel) ⟨Nat.le_of_ble_eq_true rfl, Nat.le_of_ble_eq_true rfl⟩) rfl hl.1 rfl (Nat.le_of_ble_eq_true rfl) dX0_appendTree_56 ⟨Nat.le_of_ble_eq_true rfl, Nat.le_of_ble_eq_true rfl⟩ (fun _ H locs hp hG => ?_)
  exact fx_vret S hr hlocks () hG trivial dX0_appendTree_59
theorem i_X7_writeTree_X0 : ∀ w ∈ u_ws RX0 TX0 2, w ∈ wsX7_writeTree := by decide +kernel
theorem i_X7_writeTree_X7 : ∀ w ∈ u_ws RX7 TX7 10, w ∈ wsX7_writeTree := by decide +kernel
theorem k1593_X7_writeTree {n : Nat} (hn : N0 + 231 ≤ n) (h0 : F N0 = some (.inr (9, [.ref (N0 + 1), .ref (N0 + 2), .ref (N0 + 11), .ref (N0 + 13), .ref (N0 + 63), .ref (N0 + 65), .ref (N0 + 85), .int (-1), .int (-1), .int 32]))) (h1 : F (N0 + 1) = some (.inl (cTr, 3, .inr (.inr (.inr (.inr (va_up (va_up (va_up (fun _ => none) 0 (some (N0 + 143))) 1 (some (N0 + 150))) 2 (some (N0 + 157))))))))) (h2 : F (N0 + 11) = some (.inr (2, [.ref (N0 + 12), .int 0]))) (h3 : F (N0 + 143) = some (.inr (7, [.ref (N0 + 144), .ref (N0 + 145), .ref (N0 + 146), .ref (N0 + 147), .ref (N0 + 148), .ref (N0 + 149), .int 1]))) (h4 : F (N0 + 144) = some (.inl (cC, 20, .inl (upd (fun _ => 0) 0 97)))) (h5 : F (N0 + 12) = some (.inl (cC, 160, .inl (fun _ => 0)))) (h6 : F (N0 + 145) = some (.inl (cI, 20, .inl (fun _ => 0)))) (h7 : F (N0 + 146) = some (.inl (cI, 20, .inl (fun _ => 0)))) : Met l yX7_writeTree wsX7_writeTree ({ frames := 3, cells := 0, slots := 0, locals := 67 }) (va_Pc [.ref N0, .int 0] (fP N0 D vwCl (fty cI cC cL cD cII cTr cTm cIt cB) (fen ql) F n)) (fQi N0 D vwCl (fty cI cC cL cD cII cTr cTm cIt cB) (fun (r : Int32) (_ : Unit) => r = 1) (fun _ => (fu (fu F (N0 + 12) (.inl (cC, 160, .inl (upd (fun _ => 0) 0 97)))) (N0 + 11) (.inr (2, [.ref (N0 + 12), .int 1])))) (fun _ => n)) 0 0 (fA N0) := by
  refine fx_start 3 rfl rfl (Nat.le_of_ble_eq_true rfl) ?_ rfl
  intro p e s m below meth c ls S hr hlocks hin hG hl
  have hl : lv_has ls 3 [(0, .ref N0), (1, .int 0)] := hl
  have lt_h0 := hG.1.lt h0
  have lt_h1 := hG.1.lt h1
  have lt_h2 := hG.1.lt h2
  have lt_h3 := hG.1.lt h3
  have lt_h4 := hG.1.lt h4
  have lt_h5 := hG.1.lt h5
  have lt_h6 := hG.1.lt h6
  have lt_h7 := hG.1.lt h7
  refine lv_aload_n S.1 S.2.1 dX7_writeTree_0 rfl (lv_at hl 0 rfl) ?_
  refine lv_iload_n S.1 S.2.1 dX7_writeTree_1 rfl (lv_at hl 1 rfl) ?_
  refine fx_cVr (As := [.int 0]) (rest := []) S hG (k26_X7_treeAt (by omega) h0 h1) h0 rfl (cwV 1 S.2.2.2.2 gX7_writeTree_X7_treeAt rfl rfl rfl (by decide +kernel) ⟨Nat.le_of_ble_eq_true rfl, Nat.le_of_ble_eq_true rfl⟩) rfl hl.1 rfl (Nat.le_of_ble_eq_true rfl) dX7_writeTree_2 ⟨Nat.le_of_ble_eq_true rfl, Nat.le_of_ble_eq_true rfl⟩ (fun rv_1 _ H locs hp hG => ?_)
  subst rv_1
  refine lv_astore_n (lv' := [(2, .ref (N0 + 143)), (0, .ref N0), (1, .int 0)]) S.1 S.2.1 dX7_writeTree_5 rfl hl (by decide) rfl (fun ls hl => ?_)
  refine lv_aload_n S.1 S.2.1 dX7_writeTree_6 rfl (lv_at hl 1 rfl) ?_
  refine gx_get (C := RX7) (T := TX7) (N := 10) S hG h0 i_X7_writeTree_X7 rfl 2 (by decide) (by decide +kernel) rfl dX7_writeTree_7 ?_
  refine lv_iconst (v := 0) S.1 S.2.1 dX7_writeTree_10 (by decide) ?_
  refine gx_put (C := RX0) (T := TX0) (N := 2) (ty := .int) (v := .int 0) (fs' := [.ref (N0 + 12), .int 0]) S hG h2 i_X7_writeTree_X0 rfl 1 (by decide) tyX0 tyX0_ok nmX0 (by decide +kernel) rfl (by decide +kernel) rfl rfl (Nat.le_of_ble_eq_true rfl) rfl dX7_writeTree_11 (fun H locs hG => ?_)
  refine lv_aload_n S.1 S.2.1 dX7_writeTree_14 rfl (lv_at hl 1 rfl) ?_
  refine gx_get (C := RX7) (T := TX7) (N := 10) S hG (fu_at (by omega) h0) i_X7_writeTree_X7 rfl 2 (by decide) (by decide +kernel) rfl dX7_writeTree_15 ?_
  refine lv_aload_n S.1 S.2.1 dX7_writeTree_18 rfl (lv_at hl 0 rfl) ?_
  refine fx_cVv (As := [.ref (N0 + 143)]) (rest := []) S hG (k1592_X0_appendTree (by omega) (fu_at (by omega) h3) fu_s (fu_at (by omega) h4) (fu_at (by omega) h5) (fu_at (by omega) h6) (fu_at (by omega) h7)) fu_s rfl (cwV 1 S.2.2.2.2 gX7_writeTree_X0_appendTree rfl rfl rfl (by decide +kernel) ⟨Nat.le_of_ble_eq_true rfl, Nat.le_of_ble_eq_true rfl⟩) rfl hl.1 rfl (Nat.le_of_ble_eq_true rfl) dX7_writeTree_19 ⟨Nat.le_of_ble_eq_true rfl, Nat.le_of_ble_eq_true rfl⟩ (fun _ H locs hp hG => ?_)
  refine lv_aload_n S.1 S.2.1 dX7_writeTree_22 rfl (lv_at hl 1 rfl) ?_
  refine gx_get (C := RX7) (T := TX7) (N := 10) S hG (fu_at (by omega) (fu_at (by omega) (fu_at (by omega) h0))) i_X7_writeTree_X7 rfl 2 (by decide) (by decide +kernel) rfl dX7_writeTree_23 ?_
  refine gx_get (C := RX0) (T := TX0) (N := 2) S hG fu_s i_X7_writeTree_X0 rfl 1 (by decide) (by decide +kernel) rfl dX7_writeTree_26 ?_
  have hG : fG N0 D vwCl (fty cI cC cL cD cII cTr cTm cIt cB) (fen ql) s (fu (fu F (N0 + 12) (.inl (cC, 160, .inl (upd (fun _ => 0) 0 97)))) (N0 + 11) (.inr (2, [.ref (N0 + 12), .int 1]))) n H locs := hG.weak (fun a e h => by
    rcases fu_cases h with ⟨rfl, he⟩ | ⟨hne0, h⟩
    · cases he; exact fu_s
    · skip
      rcases fu_cases h with ⟨rfl, he⟩ | ⟨hne1, h⟩
      · cases he; exact (fu_at (by omega) fu_s)
      · exact (fu_at (by omega) (fu_at (by omega) (fu_at (by omega) h))))
  exact fx_iret S hr hlocks () hG (rfl) dX7_writeTree_29
theorem k1594_L_writeTree {n : Nat} (hn : N0 + 231 ≤ n) (h0 : F N0 = some (.inr (9, [.ref (N0 + 1), .ref (N0 + 2), .ref (N0 + 11), .ref (N0 + 13), .ref (N0 + 63), .ref (N0 + 65), .ref (N0 + 85), .int (-1), .int (-1), .int 32]))) (h1 : F (N0 + 1) = some (.inl (cTr, 3, .inr (.inr (.inr (.inr (va_up (va_up (va_up (fun _ => none) 0 (some (N0 + 143))) 1 (some (N0 + 150))) 2 (some (N0 + 157))))))))) (h2 : F (N0 + 11) = some (.inr (2, [.ref (N0 + 12), .int 0]))) (h3 : F (N0 + 143) = some (.inr (7, [.ref (N0 + 144), .ref (N0 + 145), .ref (N0 + 146), .ref (N0 + 147), .ref (N0 + 148), .ref (N0 + 149), .int 1]))) (h4 : F (N0 + 144) = some (.inl (cC, 20, .inl (upd (fun _ => 0) 0 97)))) (h5 : F (N0 + 12) = some (.inl (cC, 160, .inl (fun _ => 0)))) (h6 : F (N0 + 145) = some (.inl (cI, 20, .inl (fun _ => 0)))) (h7 : F (N0 + 146) = some (.inl (cI, 20, .inl (fun _ => 0)))) (h8 : F (N0 + 229) = some (.inl (cL, 1, .inr (.inl (fun _ => 0))))) : Met l yL_writeTree wsL_writeTree ({ frames := 4, cells := 0, slots := 0, locals := 89 }) (va_Pc [.ref N0, .int 0, .ref (N0 + 229)] (fP N0 D vwCl (fty cI cC cL cD cII cTr cTm cIt cB) (fen ql) F n)) (fQi N0 D vwCl (fty cI cC cL cD cII cTr cTm cIt cB) (fun (r : Int32) (_ : Unit) => r = 0) (fun _ => (fu (fu (fu F (N0 + 12) (.inl (cC, 160, .inl (upd (fun _ => 0) 0 97)))) (N0 + 11) (.inr (2, [.ref (N0 + 12), .int 1]))) (N0 + 229) (.inl (cL, 1, .inr (.inl (vp_updL (fun _ => 0) 0 1)))))) (fun _ => n)) 0 0 (fA N0) := by
  refine fx_startW (hh := [(0, 9, 12, 19)]) 4 rfl rfl (Nat.le_of_ble_eq_true rfl) ?_ rfl
  intro p e s m below meth c ls S htab hr hlocks hG hl
  have hl : lv_has ls 4 [(0, .ref N0), (1, .int 0), (2, .ref (N0 + 229))] := hl
  have lt_h0 := hG.1.lt h0
  have lt_h1 := hG.1.lt h1
  have lt_h2 := hG.1.lt h2
  have lt_h3 := hG.1.lt h3
  have lt_h4 := hG.1.lt h4
  have lt_h5 := hG.1.lt h5
  have lt_h6 := hG.1.lt h6
  have lt_h7 := hG.1.lt h7
  have lt_h8 := hG.1.lt h8
  refine lv_aload_n S.1 S.2.1 dL_writeTree_0 rfl (lv_at hl 2 rfl) ?_
  refine lv_iconst (v := 0) S.1 S.2.1 dL_writeTree_1 (by decide) ?_
  refine lv_aload_n S.1 S.2.1 dL_writeTree_2 rfl (lv_at hl 0 rfl) ?_
  refine lv_iload_n S.1 S.2.1 dL_writeTree_3 rfl (lv_at hl 1 rfl) ?_
  refine fx_cVi (As := [.int 0]) (rest := [.int 0, .ref (N0 + 229)]) S hG (k1593_X7_writeTree (by omega) h0 h1 h2 h3 h4 h5 h6 h7) h0 rfl (cwV 1 S.2.2.2.2 gL_writeTree_X7_writeTree rfl rfl rfl (by decide +kernel) ⟨Nat.le_of_ble_eq_true rfl, Nat.le_of_ble_eq_true rfl⟩) rfl hl.1 rfl (Nat.le_of_ble_eq_true rfl) dL_writeTree_4 ⟨Nat.le_of_ble_eq_true rfl, Nat.le_of_ble_eq_true rfl⟩ (fun rv_1 _ H locs hp hG => ?_)
  subst rv_1
  refine lv_i2l (v := 1) S.1 S.2.1 dL_writeTree_7 (by decide) ?_
  refine gx_last (f' := vp_updL (fun _ => 0) 0 1) S hG 2 (fu_at (by omega) (fu_at (by omega) h8)) rfl (fin_l (by decide)) dL_writeTree_8 rfl (fun H locs hG => ?_)
  refine lv_goto (tgt := 15) S.1 S.2.1 dL_writeTree_9 (by decide) ?_
  refine lv_iconst (v := 0) S.1 S.2.1 dL_writeTree_15 (by decide) ?_
  exact fx_iret S hr hlocks () hG (rfl) dL_writeTree_16
theorem i_J5_init_d00df_J4 : ∀ w ∈ u_ws RJ4 TJ4 4, w ∈ wsJ5_init_d00df := by decide +kernel
theorem k1595_J5_init_d00df {n b2 : Nat} (hn : N0 + 231 ≤ n) (hb2 : N0 + 231 ≤ b2) (h0 : F b2 = some (.inr (1, [.null, .int 0, .int 0, .int 0]))) : Met l yJ5_init_d00df wsJ5_init_d00df ({ frames := 1, cells := 1, slots := 16, locals := 12 }) (va_Pc [.ref b2, .int 16] (fP N0 D vwCl (fty cI cC cL cD cII cTr cTm cIt cB) (fen ql) F n)) (fQv N0 D vwCl (fty cI cC cL cD cII cTr cTm cIt cB) (fun (_ : Unit) => True) (fun _ => (fblk (fu F b2 (.inr (1, [.ref n, .int 0, .int 0, .int 0]))) n [.inl (cB, 16, .inl (fun _ => 0))])) (fun _ => (n + 1))) 1 16 (fA N0) := by
  refine fx_start 2 rfl rfl (Nat.le_of_ble_eq_true rfl) ?_ rfl
  intro p e s m below meth c ls S hr hlocks hin hG hl
  have hl : lv_has ls 2 [(0, .ref b2), (1, .int 16)] := hl
  have lt_h0 := hG.1.lt h0
  refine lv_aload_n S.1 S.2.1 dJ5_init_d00df_0 rfl (lv_at hl 0 rfl) ?_
  refine gx_objInit S hG (by decide +kernel) (by decide +kernel) (by decide +kernel) hl.1 dJ5_init_d00df_1 (Nat.le_of_ble_eq_true rfl) (Nat.le_of_ble_eq_true rfl) ?_
  refine gx_getCS S hG (by decide +kernel) dJ5_init_d00df_4 ?_
  refine lv_if_eq (tgt := 25) S.1 S.2.1 dJ5_init_d00df_7 (by decide) (fun c => absurd c (by decide)) (fun _ => ?_)
  refine lv_aload_n S.1 S.2.1 dJ5_init_d00df_10 rfl (lv_at hl 0 rfl) ?_
  refine lv_iload_n S.1 S.2.1 dJ5_init_d00df_11 rfl (lv_at hl 1 rfl) ?_
  refine gx_newa (atype := .byte) (ty := .byte) (N' := 16) (a0 := (16, .inl (fun _ => 0))) S hG (by decide +kernel) rfl 8 rfl (fun _ => rfl) (by decide) (by decide) (by decide) (by decide) (by decide) dJ5_init_d00df_12 (fun H hG => ?_)
  refine W.widen (k := 1) (n := 16) (by decide) (by decide) ?_
  refine gx_put (C := RJ4) (T := TJ4) (N := 4) (ty := (.array .byte)) (v := .ref n) (fs' := [.ref n, .int 0, .int 0, .int 0]) S hG (fu_at (by omega) h0) i_J5_init_d00df_J4 rfl 0 (by decide) tyJ4 tyJ4_ok nmJ4 (by decide +kernel) rfl (by decide +kernel) rfl rfl (Nat.le_of_ble_eq_true rfl) rfl dJ5_init_d00df_14 (fun H locs hG => ?_)
  refine lv_aload_n S.1 S.2.1 dJ5_init_d00df_17 rfl (lv_at hl 0 rfl) ?_
  refine lv_iconst (v := 0) S.1 S.2.1 dJ5_init_d00df_18 (by decide) ?_
  refine gx_put (C := RJ4) (T := TJ4) (N := 4) (ty := .byte) (v := .int 0) (fs' := [.ref n, .int 0, .int 0, .int 0]) S hG fu_s i_J5_init_d00df_J4 rfl 1 (by decide) tyJ4 tyJ4_ok nmJ4 (by decide +kernel) rfl (by decide +kernel) rfl (by decide) (Nat.le_of_ble_eq_true rfl) rfl dJ5_init_d00df_19 (fun H locs hG => ?_)
  refine lv_goto (tgt := 38) S.1 S.2.1 dJ5_init_d00df_22 (by decide) ?_
  have hG : fG N0 D vwCl (fty cI cC cL cD cII cTr cTm cIt cB) (fen ql) s (fblk (fu F b2 (.inr (1, [.ref n, .int 0, .int 0, .int 0]))) n [.inl (cB, 16, .inl (fun _ => 0))]) (n + 1) H locs := hG.weak (fun a e h => by
    rcases fblk_cases 1 rfl h with ⟨k, rfl, hlt, hk⟩ | ⟨hout, h⟩
    · rcases (show k = 0 by omega) with rfl
      · cases (show some (.inl (cB, 16, .inl (fun _ => 0))) = some e from hk); exact (fu_at (by omega) (fu_at (by omega) fu_s))
    · rcases fu_cases h with ⟨rfl, he⟩ | ⟨hne0, h⟩
      · cases he; exact fu_s
      · exact (fu_at (by omega) (fu_at (by omega) (fu_at (by omega) h))))
  exact fx_vret S hr hlocks () hG trivial dJ5_init_d00df_38
theorem k1596_J4_init_da8c8 {n b1 : Nat} (hn : N0 + 231 ≤ n) (hb1 : N0 + 231 ≤ b1) (h0 : F b1 = some (.inr (1, [.null, .int 0, .int 0, .int 0]))) : Met l yJ4_init_da8c8 wsJ4_init_da8c8 ({ frames := 2, cells := 1, slots := 16, locals := 33 }) (va_Pc [.ref b1] (fP N0 D vwCl (fty cI cC cL cD cII cTr cTm cIt cB) (fen ql) F n)) (fQv N0 D vwCl (fty cI cC cL cD cII cTr cTm cIt cB) (fun (_ : Unit) => True) (fun _ => (fblk (fu F b1 (.inr (1, [.ref n, .int 0, .int 0, .int 0]))) n [.inl (cB, 16, .inl (fun _ => 0))])) (fun _ => (n + 1))) 1 16 (fA N0) := by
  refine fx_start 1 rfl rfl (Nat.le_of_ble_eq_true rfl) ?_ rfl
  intro p e s m below meth c ls S hr hlocks hin hG hl
  have hl : lv_has ls 1 [(0, .ref b1)] := hl
  have lt_h0 := hG.1.lt h0
  refine lv_aload_n S.1 S.2.1 dJ4_init_da8c8_0 rfl (lv_at hl 0 rfl) ?_
  refine lv_bipush (v := 16) S.1 S.2.1 dJ4_init_da8c8_1 (by decide) ?_
  refine fx_cIv (As := [.int 16]) (rest := []) S hG (k1595_J5_init_d00df (by omega) (by omega) h0) (cwI 1 S.2.2.2.2 gJ4_init_da8c8_J5_init_d00df rfl rfl rfl (S.2.2.2.2 (.initialized RJ5) (by decide +kernel)) (S.2.2.2.2 (.methodLink RJ4 1 yJ5_init_d00df) (by decide +kernel)) (S.2.2.2.2 (.instanceMethod yJ5_init_d00df) (by decide +kernel)) rfl (by decide +kernel) ⟨Nat.le_of_ble_eq_true rfl, Nat.le_of_ble_eq_true rfl⟩) rfl hl.1 rfl (Nat.le_of_ble_eq_true rfl) dJ4_init_da8c8_3 ⟨Nat.le_of_ble_eq_true rfl, Nat.le_of_ble_eq_true rfl⟩ (fun _ H locs hp hG => ?_)
  refine W.widen (k := 1) (n := 16) (by decide) (by decide) ?_
  have hG : fG N0 D vwCl (fty cI cC cL cD cII cTr cTm cIt cB) (fen ql) s (fblk (fu F b1 (.inr (1, [.ref n, .int 0, .int 0, .int 0]))) n [.inl (cB, 16, .inl (fun _ => 0))]) (n + 1) H locs := hG.weak (fun a e h => by
    rcases fblk_cases 1 rfl h with ⟨k, rfl, hlt, hk⟩ | ⟨hout, h⟩
    · rcases (show k = 0 by omega) with rfl
      · cases (show some (.inl (cB, 16, .inl (fun _ => 0))) = some e from hk); exact (fblk_at 0 (by omega) rfl)
    · rcases fu_cases h with ⟨rfl, he⟩ | ⟨hne0, h⟩
      · cases he; exact (fblk_sk 1 rfl (by omega) fu_s)
      · exact (fblk_sk 1 rfl (by omega) (fu_at (by omega) h)))
  exact fx_vret S hr hlocks () hG trivial dJ4_init_da8c8_6
theorem i_J5_ensureCapacityInternal_d00df_J4 : ∀ w ∈ u_ws RJ4 TJ4 4, w ∈ wsJ5_ensureCapacityInternal_d00df := by decide +kernel
theorem k1597_J5_ensureCapacityInternal_d00df {n b4 : Nat} (hn : N0 + 231 ≤ n) (hb4 : N0 + 231 ≤ b4) (h0 : F b4 = some (.inr (1, [.ref (b4 + 1), .int 0, .int 0, .int 0]))) (h1 : F (b4 + 1) = some (.inl (cB, 16, .inl (fun _ => 0)))) : Met l yJ5_ensureCapacityInternal_d00df wsJ5_ensureCapacityInternal_d00df ({ frames := 0, cells := 0, slots := 0, locals := 0 }) (va_Pc [.ref b4, .int 1] (fP N0 D vwCl (fty cI cC cL cD cII cTr cTm cIt cB) (fen ql) F n)) (fQv N0 D vwCl (fty cI cC cL cD cII cTr cTm cIt cB) (fun (_ : Unit) => True) (fun _ => F) (fun _ => n)) 0 0 (fA N0) := by
  refine fx_start 3 rfl rfl (Nat.le_of_ble_eq_true rfl) ?_ rfl
  intro p e s m below meth c ls S hr hlocks hin hG hl
  have hl : lv_has ls 3 [(0, .ref b4), (1, .int 1)] := hl
  have lt_h0 := hG.1.lt h0
  have lt_h1 := hG.1.lt h1
  refine lv_aload_n S.1 S.2.1 dJ5_ensureCapacityInternal_d00df_0 rfl (lv_at hl 0 rfl) ?_
  refine gx_get (C := RJ4) (T := TJ4) (N := 4) S hG h0 i_J5_ensureCapacityInternal_d00df_J4 rfl 0 (by decide) (by decide +kernel) rfl dJ5_ensureCapacityInternal_d00df_1 ?_
  refine gx_alen (v := 16) S hG 8 h1 rfl (rfl) dJ5_ensureCapacityInternal_d00df_4 ?_
  refine lv_aload_n S.1 S.2.1 dJ5_ensureCapacityInternal_d00df_5 rfl (lv_at hl 0 rfl) ?_
  refine gx_get (C := RJ4) (T := TJ4) (N := 4) S hG h0 i_J5_ensureCapacityInternal_d00df_J4 rfl 1 (by decide) (by decide +kernel) rfl dJ5_ensureCapacityInternal_d00df_6 ?_
  refine lv_ishr S.1 S.2.1 dJ5_ensureCapacityInternal_d00df_9 ?_
  refine fx_topi (y := 16) (by decide) ?_
  refine lv_istore_n (lv' := [(2, .int 16), (0, .ref b4), (1, .int 1)]) S.1 S.2.1 dJ5_ensureCapacityInternal_d00df_10 rfl hl (by decide) rfl (fun ls hl => ?_)
  refine lv_iload_n S.1 S.2.1 dJ5_ensureCapacityInternal_d00df_11 rfl (lv_at hl 2 rfl) ?_
  refine lv_iload_n S.1 S.2.1 dJ5_ensureCapacityInternal_d00df_12 rfl (lv_at hl 0 rfl) ?_
  refine lv_isub S.1 S.2.1 dJ5_ensureCapacityInternal_d00df_13 ?_
  refine fx_topi (y := (-15)) (by decide) ?_
  refine lv_if_le (tgt := 38) S.1 S.2.1 dJ5_ensureCapacityInternal_d00df_14 (by decide) (fun _ => ?_) (fun c => absurd (by decide) c)
  exact fx_vret S hr hlocks () hG trivial dJ5_ensureCapacityInternal_d00df_38
theorem i_J5_isLatin1_aae02_J4 : ∀ w ∈ u_ws RJ4 TJ4 4, w ∈ wsJ5_isLatin1_aae02 := by decide +kernel
theorem k1598_J5_isLatin1_aae02 {n b4 : Nat} (hn : N0 + 231 ≤ n) (hb4 : N0 + 231 ≤ b4) (h0 : F b4 = some (.inr (1, [.ref (b4 + 1), .int 0, .int 0, .int 0]))) : Met l yJ5_isLatin1_aae02 wsJ5_isLatin1_aae02 ({ frames := 0, cells := 0, slots := 0, locals := 0 }) (va_Pc [.ref b4] (fP N0 D vwCl (fty cI cC cL cD cII cTr cTm cIt cB) (fen ql) F n)) (fQi N0 D vwCl (fty cI cC cL cD cII cTr cTm cIt cB) (fun (r : Int32) (_ : Unit) => r = 1) (fun _ => F) (fun _ => n)) 0 0 (fA N0) := by
  refine fx_start 1 rfl rfl (Nat.le_of_ble_eq_true rfl) ?_ rfl
  intro p e s m below meth c ls S hr hlocks hin hG hl
  have hl : lv_has ls 1 [(0, .ref b4)] := hl
  have lt_h0 := hG.1.lt h0
  refine gx_getCS S hG (by decide +kernel) dJ5_isLatin1_aae02_0 ?_
  refine lv_if_eq (tgt := 17) S.1 S.2.1 dJ5_isLatin1_aae02_3 (by decide) (fun c => absurd c (by decide)) (fun _ => ?_)
  refine lv_aload_n S.1 S.2.1 dJ5_isLatin1_aae02_6 rfl (lv_at hl 0 rfl) ?_
  refine gx_get (C := RJ4) (T := TJ4) (N := 4) S hG h0 i_J5_isLatin1_aae02_J4 rfl 1 (by decide) (by decide +kernel) rfl dJ5_isLatin1_aae02_7 ?_
  refine lv_if_ne (tgt := 17) S.1 S.2.1 dJ5_isLatin1_aae02_10 (by decide) (fun c => absurd (by decide) c) (fun _ => ?_)
  refine lv_iconst (v := 1) S.1 S.2.1 dJ5_isLatin1_aae02_13 (by decide) ?_
  refine lv_goto (tgt := 18) S.1 S.2.1 dJ5_isLatin1_aae02_14 (by decide) ?_
  exact fx_zret S hr (rfl) hlocks () hG (rfl) dJ5_isLatin1_aae02_18
theorem k1599_J1_canEncode_fc78d {n : Nat} (hn : N0 + 231 ≤ n)  : Met l yJ1_canEncode_fc78d wsJ1_canEncode_fc78d ({ frames := 0, cells := 0, slots := 0, locals := 0 }) (va_Pc [.int 97] (fP N0 D vwCl (fty cI cC cL cD cII cTr cTm cIt cB) (fen ql) F n)) (fQi N0 D vwCl (fty cI cC cL cD cII cTr cTm cIt cB) (fun (r : Int32) (_ : Unit) => r = 1) (fun _ => F) (fun _ => n)) 0 0 (fA N0) := by
  refine fx_start 1 rfl rfl (Nat.le_of_ble_eq_true rfl) ?_ rfl
  intro p e s m below meth c ls S hr hlocks hin hG hl
  have hl : lv_has ls 1 [(0, .int 97)] := hl
  refine lv_iload_n S.1 S.2.1 dJ1_canEncode_fc78d_0 rfl (lv_at hl 0 rfl) ?_
  refine lv_sipush (v := 255) S.1 S.2.1 dJ1_canEncode_fc78d_1 (by decide) ?_
  refine lv_icmp_gt (tgt := 11) S.1 S.2.1 dJ1_canEncode_fc78d_4 (by decide) (fun c => absurd c (by decide)) (fun _ => ?_)
  refine lv_iconst (v := 1) S.1 S.2.1 dJ1_canEncode_fc78d_7 (by decide) ?_
  refine lv_goto (tgt := 12) S.1 S.2.1 dJ1_canEncode_fc78d_8 (by decide) ?_
  exact fx_zret S hr (rfl) hlocks () hG (rfl) dJ1_canEncode_fc78d_12
theorem i_J5_append_3fe6f_J4 : ∀ w ∈ u_ws RJ4 TJ4 4, w ∈ wsJ5_append_3fe6f := by decide +kernel
theorem k1600_J5_append_3fe6f {n b3 : Nat} (hn : N0 + 231 ≤ n) (hb3 : N0 + 231 ≤ b3) (h0 : F b3 = some (.inr (1, [.ref (b3 + 1), .int 0, .int 0, .int 0]))) (h1 : F (b3 + 1) = some (.inl (cB, 16, .inl (fun _ => 0)))) : Met l yJ5_append_3fe6f wsJ5_append_3fe6f ({ frames := 1, cells := 0, slots := 0, locals := 22 }) (va_Pc [.ref b3, .int 97] (fP N0 D vwCl (fty cI cC cL cD cII cTr cTm cIt cB) (fen ql) F n)) (fQr N0 D vwCl (fty cI cC cL cD cII cTr cTm cIt cB) (fun (r : Nat) (_ : Unit) => r = b3) (fun _ => (fu (fu F b3 (.inr (1, [.ref (b3 + 1), .int 0, .int 0, .int 1]))) (b3 + 1) (.inl (cB, 16, .inl (upd (fun _ => 0) 0 97))))) (fun _ => n)) 0 0 (fA N0) := by
  refine fx_start 2 rfl rfl (Nat.le_of_ble_eq_true rfl) ?_ rfl
  intro p e s m below meth c ls S hr hlocks hin hG hl
  have hl : lv_has ls 2 [(0, .ref b3), (1, .int 97)] := hl
  have lt_h0 := hG.1.lt h0
  have lt_h1 := hG.1.lt h1
  refine lv_aload_n S.1 S.2.1 dJ5_append_3fe6f_0 rfl (lv_at hl 0 rfl) ?_
  refine lv_aload_n S.1 S.2.1 dJ5_append_3fe6f_1 rfl (lv_at hl 0 rfl) ?_
  refine gx_get (C := RJ4) (T := TJ4) (N := 4) S hG h0 i_J5_append_3fe6f_J4 rfl 3 (by decide) (by decide +kernel) rfl dJ5_append_3fe6f_2 ?_
  refine lv_iconst (v := 1) S.1 S.2.1 dJ5_append_3fe6f_5 (by decide) ?_
  refine lv_iadd S.1 S.2.1 dJ5_append_3fe6f_6 ?_
  refine fx_topi (y := 1) (by decide) ?_
  refine fx_cUv (r := (RJ4, TJ4, 4)) (As := [.int 1]) (rest := []) S hG (k1597_J5_ensureCapacityInternal_d00df (by omega) (by omega) h0 h1) h0 rfl (va_cwU 1 S.2.2.2.2 gJ5_append_3fe6f_J5_ensureCapacityInternal_d00df_u100J4 rfl rfl rfl rfl (by decide +kernel) ⟨Nat.le_of_ble_eq_true rfl, Nat.le_of_ble_eq_true rfl⟩) rfl hl.1 rfl (Nat.le_of_ble_eq_true rfl) dJ5_append_3fe6f_7 ⟨Nat.le_of_ble_eq_true rfl, Nat.le_of_ble_eq_true rfl⟩ (fun _ H locs hp hG => ?_)
  refine lv_aload_n S.1 S.2.1 dJ5_append_3fe6f_10 rfl (lv_at hl 0 rfl) ?_
  refine fx_cUi (r := (RJ4, TJ4, 4)) (As := []) (rest := []) S hG (k1598_J5_isLatin1_aae02 (by omega) (by omega) h0) h0 rfl (va_cwU 0 S.2.2.2.2 gJ5_append_3fe6f_J5_isLatin1_aae02_u83J4 rfl rfl rfl rfl (by decide +kernel) ⟨Nat.le_of_ble_eq_true rfl, Nat.le_of_ble_eq_true rfl⟩) rfl hl.1 rfl (Nat.le_of_ble_eq_true rfl) dJ5_append_3fe6f_11 ⟨Nat.le_of_ble_eq_true rfl, Nat.le_of_ble_eq_true rfl⟩ (fun rv_2 _ H locs hp hG => ?_)
  subst rv_2
  refine lv_if_eq (tgt := 45) S.1 S.2.1 dJ5_append_3fe6f_14 (by decide) (fun c => absurd c (by decide)) (fun _ => ?_)
  refine lv_iload_n S.1 S.2.1 dJ5_append_3fe6f_17 rfl (lv_at hl 1 rfl) ?_
  refine fx_cSi (As := [.int 97]) (rest := []) S hG (k1599_J1_canEncode_fc78d (by omega)) (va_cwS 1 S.2.2.2.2 gJ5_append_3fe6f_J1_canEncode_fc78d rfl rfl rfl (by decide +kernel) ⟨Nat.le_of_ble_eq_true rfl, Nat.le_of_ble_eq_true rfl⟩) rfl hl.1 rfl (Nat.le_of_ble_eq_true rfl) dJ5_append_3fe6f_18 ⟨Nat.le_of_ble_eq_true rfl, Nat.le_of_ble_eq_true rfl⟩ (fun rv_3 _ H locs hp hG => ?_)
  subst rv_3
  refine lv_if_eq (tgt := 45) S.1 S.2.1 dJ5_append_3fe6f_21 (by decide) (fun c => absurd c (by decide)) (fun _ => ?_)
  refine lv_aload_n S.1 S.2.1 dJ5_append_3fe6f_24 rfl (lv_at hl 0 rfl) ?_
  refine gx_get (C := RJ4) (T := TJ4) (N := 4) S hG h0 i_J5_append_3fe6f_J4 rfl 0 (by decide) (by decide +kernel) rfl dJ5_append_3fe6f_25 ?_
  refine lv_aload_n S.1 S.2.1 dJ5_append_3fe6f_28 rfl (lv_at hl 0 rfl) ?_
  refine lv_dup S.1 S.2.1 dJ5_append_3fe6f_29 rfl ?_
  refine gx_get (C := RJ4) (T := TJ4) (N := 4) S hG h0 i_J5_append_3fe6f_J4 rfl 3 (by decide) (by decide +kernel) rfl dJ5_append_3fe6f_30 ?_
  refine lv_dup_x1 S.1 S.2.1 dJ5_append_3fe6f_33 rfl rfl ?_
  refine lv_iconst (v := 1) S.1 S.2.1 dJ5_append_3fe6f_34 (by decide) ?_
  refine lv_iadd S.1 S.2.1 dJ5_append_3fe6f_35 ?_
  refine fx_topi (y := 1) (by decide) ?_
  refine gx_put (C := RJ4) (T := TJ4) (N := 4) (ty := .int) (v := .int 1) (fs' := [.ref (b3 + 1), .int 0, .int 0, .int 1]) S hG h0 i_J5_append_3fe6f_J4 rfl 3 (by decide) tyJ4 tyJ4_ok nmJ4 (by decide +kernel) rfl (by decide +kernel) rfl rfl (Nat.le_of_ble_eq_true rfl) rfl dJ5_append_3fe6f_36 (fun H locs hG => ?_)
  refine lv_iload_n S.1 S.2.1 dJ5_append_3fe6f_39 rfl (lv_at hl 1 rfl) ?_
  refine lv_i2b (v := 97) S.1 S.2.1 dJ5_append_3fe6f_40 (by decide) ?_
  refine gx_bast (f' := upd (fun _ => 0) 0 97) S hG 8 (fu_at (by omega) h1) rfl (fin_l (by decide)) dJ5_append_3fe6f_41 (congrArg (upd _ _) (show vp_nar .byte 97 = 97 by decide)) (fun H locs hG => ?_)
  refine lv_goto (tgt := 75) S.1 S.2.1 dJ5_append_3fe6f_42 (by decide) ?_
  refine lv_aload_n S.1 S.2.1 dJ5_append_3fe6f_75 rfl (lv_at hl 0 rfl) ?_
  exact fx_aret S hr (Or.inl ⟨_, rfl⟩) hlocks () hG (rfl) dJ5_append_3fe6f_76
theorem k1601_J4_append_cf468 {n b2 : Nat} (hn : N0 + 231 ≤ n) (hb2 : N0 + 231 ≤ b2) (h0 : F b2 = some (.inr (1, [.ref (b2 + 1), .int 0, .int 0, .int 0]))) (h1 : F (b2 + 1) = some (.inl (cB, 16, .inl (fun _ => 0)))) : Met l yJ4_append_cf468 wsJ4_append_cf468 ({ frames := 2, cells := 0, slots := 0, locals := 43 }) (va_Pc [.ref b2, .int 97] (fP N0 D vwCl (fty cI cC cL cD cII cTr cTm cIt cB) (fen ql) F n)) (fQr N0 D vwCl (fty cI cC cL cD cII cTr cTm cIt cB) (fun (r : Nat) (_ : Unit) => r = b2) (fun _ => (fu (fu F b2 (.inr (1, [.ref (b2 + 1), .int 0, .int 0, .int 1]))) (b2 + 1) (.inl (cB, 16, .inl (upd (fun _ => 0) 0 97))))) (fun _ => n)) 0 0 (fA N0) := by
  refine fx_start 2 rfl rfl (Nat.le_of_ble_eq_true rfl) ?_ rfl
  intro p e s m below meth c ls S hr hlocks hin hG hl
  have hl : lv_has ls 2 [(0, .ref b2), (1, .int 97)] := hl
  have lt_h0 := hG.1.lt h0
  have lt_h1 := hG.1.lt h1
  refine lv_aload_n S.1 S.2.1 dJ4_append_cf468_0 rfl (lv_at hl 0 rfl) ?_
  refine lv_iload_n S.1 S.2.1 dJ4_append_cf468_1 rfl (lv_at hl 1 rfl) ?_
  refine fx_cSUr (r := (RJ4, TJ4, 4)) (As := [.int 97]) (rest := []) S hG (k1600_J5_append_3fe6f (by omega) (by omega) h0 h1) h0 rfl (va_cwSU 1 S.2.2.2.2 gJ4_append_cf468_J5_append_3fe6f_s50 rfl rfl rfl (by decide +kernel) ⟨Nat.le_of_ble_eq_true rfl, Nat.le_of_ble_eq_true rfl⟩) rfl hl.1 rfl (Nat.le_of_ble_eq_true rfl) dJ4_append_cf468_2 ⟨Nat.le_of_ble_eq_true rfl, Nat.le_of_ble_eq_true rfl⟩ (fun rv_1 _ H locs hp hG => ?_)
  subst rv_1
  refine lv_pop S.1 S.2.1 dJ4_append_cf468_5 rfl ?_
  refine lv_aload_n S.1 S.2.1 dJ4_append_cf468_6 rfl (lv_at hl 0 rfl) ?_
  exact fx_aret S hr (Or.inl ⟨_, rfl⟩) hlocks () hG (rfl) dJ4_append_cf468_7
theorem i_X10_writes_X9 : ∀ w ∈ u_ws RX9 TX9 5, w ∈ wsX10_writes := by decide +kernel
theorem k1602_X10_writes {n b1 : Nat} (hn : N0 + 231 ≤ n) (hb1 : N0 + 231 ≤ b1) (h0 : F (N0 + 166) = some (.inr (11, [.ref (N0 + 167), .ref (N0 + 168), .ref (N0 + 169), .ref (N0 + 170), .int 1]))) (h1 : F (N0 + 167) = some (.inl (cI, 20, .inl (upd (fun _ => 0) 0 97)))) (h2 : F b1 = some (.inr (1, [.ref (b1 + 1), .int 0, .int 0, .int 0]))) (h3 : F (b1 + 1) = some (.inl (cB, 16, .inl (fun _ => 0)))) (h4 : F (N0 + 168) = some (.inl (cI, 20, .inl (upd (fun _ => 0) 0 0)))) (h5 : F (N0 + 169) = some (.inl (cI, 20, .inl (upd (fun _ => 0) 0 0)))) : Met l yX10_writes wsX10_writes ({ frames := 3, cells := 0, slots := 0, locals := 64 }) (va_Pc [.ref (N0 + 164), .ref (N0 + 166), .int 0, .ref b1] (fP N0 D vwCl (fty cI cC cL cD cII cTr cTm cIt cB) (fen ql) F n)) (fQv N0 D vwCl (fty cI cC cL cD cII cTr cTm cIt cB) (fun (_ : Unit) => True) (fun _ => (fu (fu F b1 (.inr (1, [.ref (b1 + 1), .int 0, .int 0, .int 1]))) (b1 + 1) (.inl (cB, 16, .inl (upd (fun _ => 0) 0 97))))) (fun _ => n)) 0 0 (fA N0) := by
  refine fx_start 8 rfl rfl (Nat.le_of_ble_eq_true rfl) ?_ rfl
  intro p e s m below meth c ls S hr hlocks hin hG hl
  have hl : lv_has ls 8 [(0, .ref (N0 + 164)), (1, .ref (N0 + 166)), (2, .int 0), (3, .ref b1)] := hl
  have lt_h0 := hG.1.lt h0
  have lt_h1 := hG.1.lt h1
  have lt_h2 := hG.1.lt h2
  have lt_h3 := hG.1.lt h3
  have lt_h4 := hG.1.lt h4
  have lt_h5 := hG.1.lt h5
  refine lv_aload_n S.1 S.2.1 dX10_writes_0 rfl (lv_at hl 3 rfl) ?_
  refine lv_aload_n S.1 S.2.1 dX10_writes_1 rfl (lv_at hl 1 rfl) ?_
  refine gx_getN (C := RX9) (T := TX9) (N := 5) S hG h0 i_X10_writes_X9 rfl 0 (by decide) (List.mem_of_getElem? (i := 1) rfl) rfl dX10_writes_2 ?_
  refine lv_iload_n S.1 S.2.1 dX10_writes_5 rfl (lv_at hl 2 rfl) ?_
  refine gx_iald (v := 97) S hG 0 h1 rfl (fin_l (by decide)) (by decide) dX10_writes_6 ?_
  refine lv_i2c (v := 97) S.1 S.2.1 dX10_writes_7 (by decide) ?_
  refine fx_cVr (As := [.int 97]) (rest := []) S hG (k1601_J4_append_cf468 (by omega) (by omega) h2 h3) h2 rfl (cwV 1 S.2.2.2.2 gX10_writes_J4_append_cf468 rfl rfl rfl (by decide +kernel) ⟨Nat.le_of_ble_eq_true rfl, Nat.le_of_ble_eq_true rfl⟩) rfl hl.1 rfl (Nat.le_of_ble_eq_true rfl) dX10_writes_8 ⟨Nat.le_of_ble_eq_true rfl, Nat.le_of_ble_eq_true rfl⟩ (fun rv_1 _ H locs hp hG => ?_)
  subst rv_1
  refine lv_pop S.1 S.2.1 dX10_writes_11 rfl ?_
  refine lv_aload_n S.1 S.2.1 dX10_writes_12 rfl (lv_at hl 1 rfl) ?_
  refine gx_getN (C := RX9) (T := TX9) (N := 5) S hG (fu_at (by omega) (fu_at (by omega) h0)) i_X10_writes_X9 rfl 1 (by decide) (List.mem_of_getElem? (i := 2) rfl) rfl dX10_writes_13 ?_
  refine lv_iload_n S.1 S.2.1 dX10_writes_16 rfl (lv_at hl 2 rfl) ?_
  refine gx_iald (v := 0) S hG 0 (fu_at (by omega) (fu_at (by omega) h4)) rfl (fin_l (by decide)) (by decide) dX10_writes_17 ?_
  refine lv_if_le (tgt := 37) S.1 S.2.1 dX10_writes_18 (by decide) (fun _ => ?_) (fun c => absurd (by decide) c)
  refine lv_aload_n S.1 S.2.1 dX10_writes_37 rfl (lv_at hl 1 rfl) ?_
  refine gx_getN (C := RX9) (T := TX9) (N := 5) S hG (fu_at (by omega) (fu_at (by omega) h0)) i_X10_writes_X9 rfl 2 (by decide) (List.mem_of_getElem? (i := 3) rfl) rfl dX10_writes_38 ?_
  refine lv_iload_n S.1 S.2.1 dX10_writes_41 rfl (lv_at hl 2 rfl) ?_
  refine gx_iald (v := 0) S hG 0 (fu_at (by omega) (fu_at (by omega) h5)) rfl (fin_l (by decide)) (by decide) dX10_writes_42 ?_
  refine lv_if_le (tgt := 62) S.1 S.2.1 dX10_writes_43 (by decide) (fun _ => ?_) (fun c => absurd (by decide) c)
  refine lv_aload_n S.1 S.2.1 dX10_writes_62 rfl (lv_at hl 1 rfl) ?_
  refine lv_iload_n S.1 S.2.1 dX10_writes_63 rfl (lv_at hl 2 rfl) ?_
  refine fx_cVNi (host := "TreeDifferModel") (As := [.int 0]) (rest := []) S hG (k88_X9_many (by omega) (fu_at (by omega) (fu_at (by omega) h0))) (fu_at (by omega) (fu_at (by omega) h0)) rfl ⟨(va_cnB 1 S.2.2.2.2 gX10_writes_X9_many_n170 rfl rfl rfl (hG.nest (show _ ∈ fen2.2.2.1 from by decide)) (S.2.2.2.2 (.initialized RX9) (by decide +kernel)) (by decide +kernel) ⟨Nat.le_of_ble_eq_true rfl, Nat.le_of_ble_eq_true rfl⟩), S.2.2.2.2 (.instanceMethod yX9_many) (by decide +kernel), S.2.2.2.2 (.selects RX9 yX9_many yX9_many) (by decide +kernel)⟩ rfl hl.1 rfl (Nat.le_of_ble_eq_true rfl) dX10_writes_64 ⟨Nat.le_of_ble_eq_true rfl, Nat.le_of_ble_eq_true rfl⟩ (fun rv_2 _ H locs hp hG => ?_)
  subst rv_2
  refine lv_if_ne (tgt := 71) S.1 S.2.1 dX10_writes_67 (by decide) (fun c => absurd (by decide) c) (fun _ => ?_)
  exact fx_vret S hr hlocks () hG trivial dX10_writes_70
theorem i_J5_getValue_6d5f1_J4 : ∀ w ∈ u_ws RJ4 TJ4 4, w ∈ wsJ5_getValue_6d5f1 := by decide +kernel
theorem k1603_J5_getValue_6d5f1 {n b4 : Nat} (hn : N0 + 231 ≤ n) (hb4 : N0 + 231 ≤ b4) (h0 : F b4 = some (.inr (1, [.ref (b4 + 1), .int 0, .int 0, .int 1]))) : Met l yJ5_getValue_6d5f1 wsJ5_getValue_6d5f1 ({ frames := 0, cells := 0, slots := 0, locals := 0 }) (va_Pc [.ref b4] (fP N0 D vwCl (fty cI cC cL cD cII cTr cTm cIt cB) (fen ql) F n)) (fQr N0 D vwCl (fty cI cC cL cD cII cTr cTm cIt cB) (fun (r : Nat) (_ : Unit) => r = (b4 + 1)) (fun _ => F) (fun _ => n)) 0 0 (fA N0) := by
  refine fx_start 1 rfl rfl (Nat.le_of_ble_eq_true rfl) ?_ rfl
  intro p e s m below meth c ls S hr hlocks hin hG hl
  have hl : lv_has ls 1 [(0, .ref b4)] := hl
  have lt_h0 := hG.1.lt h0
  refine lv_aload_n S.1 S.2.1 dJ5_getValue_6d5f1_0 rfl (lv_at hl 0 rfl) ?_
  refine gx_get (C := RJ4) (T := TJ4) (N := 4) S hG h0 i_J5_getValue_6d5f1_J4 rfl 0 (by decide) (by decide +kernel) rfl dJ5_getValue_6d5f1_1 ?_
  exact fx_aret S hr (Or.inr ⟨_, rfl⟩) hlocks () hG (rfl) dJ5_getValue_6d5f1_4
theorem i_J5_length_8abf5_J4 : ∀ w ∈ u_ws RJ4 TJ4 4, w ∈ wsJ5_length_8abf5 := by decide +kernel
theorem k1604_J5_length_8abf5 {n b5 : Nat} (hn : N0 + 231 ≤ n) (hb5 : N0 + 231 ≤ b5) (h0 : F b5 = some (.inr (1, [.ref (b5 + 1), .int 0, .int 0, .int 1]))) : Met l yJ5_length_8abf5 wsJ5_length_8abf5 ({ frames := 0, cells := 0, slots := 0, locals := 0 }) (va_Pc [.ref b5] (fP N0 D vwCl (fty cI cC cL cD cII cTr cTm cIt cB) (fen ql) F n)) (fQi N0 D vwCl (fty cI cC cL cD cII cTr cTm cIt cB) (fun (r : Int32) (_ : Unit) => r = 1) (fun _ => F) (fun _ => n)) 0 0 (fA N0) := by
  refine fx_start 1 rfl rfl (Nat.le_of_ble_eq_true rfl) ?_ rfl
  intro p e s m below meth c ls S hr hlocks hin hG hl
  have hl : lv_has ls 1 [(0, .ref b5)] := hl
  have lt_h0 := hG.1.lt h0
  refine lv_aload_n S.1 S.2.1 dJ5_length_8abf5_0 rfl (lv_at hl 0 rfl) ?_
  refine gx_get (C := RJ4) (T := TJ4) (N := 4) S hG h0 i_J5_length_8abf5_J4 rfl 3 (by decide) (by decide +kernel) rfl dJ5_length_8abf5_1 ?_
  exact fx_iret S hr hlocks () hG (rfl) dJ5_length_8abf5_4
theorem k1605_J4_length_8abf5 {n b4 : Nat} (hn : N0 + 231 ≤ n) (hb4 : N0 + 231 ≤ b4) (h0 : F b4 = some (.inr (1, [.ref (b4 + 1), .int 0, .int 0, .int 1]))) : Met l yJ4_length_8abf5 wsJ4_length_8abf5 ({ frames := 1, cells := 0, slots := 0, locals := 20 }) (va_Pc [.ref b4] (fP N0 D vwCl (fty cI cC cL cD cII cTr cTm cIt cB) (fen ql) F n)) (fQi N0 D vwCl (fty cI cC cL cD cII cTr cTm cIt cB) (fun (r : Int32) (_ : Unit) => r = 1) (fun _ => F) (fun _ => n)) 0 0 (fA N0) := by
  refine fx_start 1 rfl rfl (Nat.le_of_ble_eq_true rfl) ?_ rfl
  intro p e s m below meth c ls S hr hlocks hin hG hl
  have hl : lv_has ls 1 [(0, .ref b4)] := hl
  have lt_h0 := hG.1.lt h0
  refine lv_aload_n S.1 S.2.1 dJ4_length_8abf5_0 rfl (lv_at hl 0 rfl) ?_
  refine fx_cSUi (r := (RJ4, TJ4, 4)) (As := []) (rest := []) S hG (k1604_J5_length_8abf5 (by omega) (by omega) h0) h0 rfl (va_cwSU 0 S.2.2.2.2 gJ4_length_8abf5_J5_length_8abf5_s343 rfl rfl rfl (by decide +kernel) ⟨Nat.le_of_ble_eq_true rfl, Nat.le_of_ble_eq_true rfl⟩) rfl hl.1 rfl (Nat.le_of_ble_eq_true rfl) dJ4_length_8abf5_1 ⟨Nat.le_of_ble_eq_true rfl, Nat.le_of_ble_eq_true rfl⟩ (fun rv_1 _ H locs hp hG => ?_)
  subst rv_1
  exact fx_iret S hr hlocks () hG (rfl) dJ4_length_8abf5_4
theorem k1606_J5_isLatin1_aae02 {n b4 : Nat} (hn : N0 + 231 ≤ n) (hb4 : N0 + 231 ≤ b4) (h0 : F b4 = some (.inr (1, [.ref (b4 + 1), .int 0, .int 0, .int 1]))) : Met l yJ5_isLatin1_aae02 wsJ5_isLatin1_aae02 ({ frames := 0, cells := 0, slots := 0, locals := 0 }) (va_Pc [.ref b4] (fP N0 D vwCl (fty cI cC cL cD cII cTr cTm cIt cB) (fen ql) F n)) (fQi N0 D vwCl (fty cI cC cL cD cII cTr cTm cIt cB) (fun (r : Int32) (_ : Unit) => r = 1) (fun _ => F) (fun _ => n)) 0 0 (fA N0) := by
  refine fx_start 1 rfl rfl (Nat.le_of_ble_eq_true rfl) ?_ rfl
  intro p e s m below meth c ls S hr hlocks hin hG hl
  have hl : lv_has ls 1 [(0, .ref b4)] := hl
  have lt_h0 := hG.1.lt h0
  refine gx_getCS S hG (by decide +kernel) dJ5_isLatin1_aae02_0 ?_
  refine lv_if_eq (tgt := 17) S.1 S.2.1 dJ5_isLatin1_aae02_3 (by decide) (fun c => absurd c (by decide)) (fun _ => ?_)
  refine lv_aload_n S.1 S.2.1 dJ5_isLatin1_aae02_6 rfl (lv_at hl 0 rfl) ?_
  refine gx_get (C := RJ4) (T := TJ4) (N := 4) S hG h0 i_J5_isLatin1_aae02_J4 rfl 1 (by decide) (by decide +kernel) rfl dJ5_isLatin1_aae02_7 ?_
  refine lv_if_ne (tgt := 17) S.1 S.2.1 dJ5_isLatin1_aae02_10 (by decide) (fun c => absurd (by decide) c) (fun _ => ?_)
  refine lv_iconst (v := 1) S.1 S.2.1 dJ5_isLatin1_aae02_13 (by decide) ?_
  refine lv_goto (tgt := 18) S.1 S.2.1 dJ5_isLatin1_aae02_14 (by decide) ?_
  exact fx_zret S hr (rfl) hlocks () hG (rfl) dJ5_isLatin1_aae02_18
theorem k1607_J7_checkLength_df160 {n : Nat} (hn : N0 + 231 ≤ n)  : Met l yJ7_checkLength_df160 wsJ7_checkLength_df160 ({ frames := 0, cells := 0, slots := 0, locals := 0 }) (va_Pc [.int 0, .int 1] (fP N0 D vwCl (fty cI cC cL cD cII cTr cTm cIt cB) (fen ql) F n)) (fQv N0 D vwCl (fty cI cC cL cD cII cTr cTm cIt cB) (fun (_ : Unit) => True) (fun _ => F) (fun _ => n)) 0 0 (fA N0) := by
  refine fx_start 2 rfl rfl (Nat.le_of_ble_eq_true rfl) ?_ rfl
  intro p e s m below meth c ls S hr hlocks hin hG hl
  have hl : lv_has ls 2 [(0, .int 0), (1, .int 1)] := hl
  refine lv_iload_n S.1 S.2.1 dJ7_checkLength_df160_0 rfl (lv_at hl 1 rfl) ?_
  refine lv_iload_n S.1 S.2.1 dJ7_checkLength_df160_1 rfl (lv_at hl 0 rfl) ?_
  refine lv_icmp_ge (tgt := 37) S.1 S.2.1 dJ7_checkLength_df160_2 (by decide) (fun _ => ?_) (fun c => absurd (by decide) c)
  exact fx_vret S hr hlocks () hG trivial dJ7_checkLength_df160_37
theorem k1608_J7_copyOfRangeByte_39247 {n b5 : Nat} (hn : N0 + 231 ≤ n) (hb5 : N0 + 231 ≤ b5) (h0 : F b5 = some (.inl (cB, 16, .inl (upd (fun _ => 0) 0 97)))) : Met l yJ7_copyOfRangeByte_39247 wsJ7_copyOfRangeByte_39247 ({ frames := 1, cells := 1, slots := 1, locals := 40 }) (va_Pc [.ref b5, .int 0, .int 1] (fP N0 D vwCl (fty cI cC cL cD cII cTr cTm cIt cB) (fen ql) F n)) (fQr N0 D vwCl (fty cI cC cL cD cII cTr cTm cIt cB) (fun (r : Nat) (_ : Unit) => r = n) (fun _ => (fblk F n [.inl (cB, 1, .inl (upd (fun _ => 0) 0 97))])) (fun _ => (n + 1))) 1 1 (fA N0) := by
  refine fx_start 5 rfl rfl (Nat.le_of_ble_eq_true rfl) ?_ rfl
  intro p e s m below meth c ls S hr hlocks hin hG hl
  have hl : lv_has ls 5 [(0, .ref b5), (1, .int 0), (2, .int 1)] := hl
  have lt_h0 := hG.1.lt h0
  refine lv_iload_n S.1 S.2.1 dJ7_copyOfRangeByte_39247_0 rfl (lv_at hl 1 rfl) ?_
  refine lv_iload_n S.1 S.2.1 dJ7_copyOfRangeByte_39247_1 rfl (lv_at hl 2 rfl) ?_
  refine fx_cSv (As := [.int 0, .int 1]) (rest := []) S hG (k1607_J7_checkLength_df160 (by omega)) (cwS 2 S.2.2.2.2 gJ7_copyOfRangeByte_39247_J7_checkLength_df160 rfl rfl rfl (by decide +kernel) ⟨Nat.le_of_ble_eq_true rfl, Nat.le_of_ble_eq_true rfl⟩) rfl hl.1 rfl (Nat.le_of_ble_eq_true rfl) dJ7_copyOfRangeByte_39247_2 ⟨Nat.le_of_ble_eq_true rfl, Nat.le_of_ble_eq_true rfl⟩ (fun _ H locs hp hG => ?_)
  refine lv_iload_n S.1 S.2.1 dJ7_copyOfRangeByte_39247_5 rfl (lv_at hl 2 rfl) ?_
  refine lv_iload_n S.1 S.2.1 dJ7_copyOfRangeByte_39247_6 rfl (lv_at hl 1 rfl) ?_
  refine lv_isub S.1 S.2.1 dJ7_copyOfRangeByte_39247_7 ?_
  refine fx_topi (y := 1) (by decide) ?_
  refine lv_istore_n (lv' := [(3, .int 1), (0, .ref b5), (1, .int 0), (2, .int 1)]) S.1 S.2.1 dJ7_copyOfRangeByte_39247_8 rfl hl (by decide) rfl (fun ls hl => ?_)
  refine lv_iload_n S.1 S.2.1 dJ7_copyOfRangeByte_39247_9 rfl (lv_at hl 0 rfl) ?_
  refine gx_newa (atype := .byte) (ty := .byte) (N' := 1) (a0 := (1, .inl (fun _ => 0))) S hG (by decide +kernel) rfl 8 rfl (fun _ => rfl) (by decide) (by decide) (by decide) (by decide) (by decide) dJ7_copyOfRangeByte_39247_10 (fun H hG => ?_)
  refine W.widen (k := 1) (n := 1) (by decide) (by decide) ?_
  refine lv_astore (lv' := [(4, .ref n), (3, .int 1), (0, .ref b5), (1, .int 0), (2, .int 1)]) S.1 S.2.1 dJ7_copyOfRangeByte_39247_12 hl (by decide) rfl (fun ls hl => ?_)
  refine lv_aload_n S.1 S.2.1 dJ7_copyOfRangeByte_39247_14 rfl (lv_at hl 2 rfl) ?_
  refine lv_iload_n S.1 S.2.1 dJ7_copyOfRangeByte_39247_15 rfl (lv_at hl 3 rfl) ?_
  refine lv_aload S.1 S.2.1 dJ7_copyOfRangeByte_39247_16 (lv_at hl 0 rfl) ?_
  refine lv_iconst (v := 0) S.1 S.2.1 dJ7_copyOfRangeByte_39247_18 (by decide) ?_
  refine lv_aload_n S.1 S.2.1 dJ7_copyOfRangeByte_39247_19 rfl (lv_at hl 2 rfl) ?_
  refine gx_alen (v := 16) S hG 8 (fu_at (by omega) h0) rfl (rfl) dJ7_copyOfRangeByte_39247_20 ?_
  refine lv_iload_n S.1 S.2.1 dJ7_copyOfRangeByte_39247_21 rfl (lv_at hl 3 rfl) ?_
  refine lv_isub S.1 S.2.1 dJ7_copyOfRangeByte_39247_22 ?_
  refine fx_topi (y := 16) (by decide) ?_
  refine lv_iload_n S.1 S.2.1 dJ7_copyOfRangeByte_39247_23 rfl (lv_at hl 1 rfl) ?_
  refine gx_mmin S hl.1 (by decide +kernel) (by decide +kernel) (by decide +kernel) (by decide +kernel) (Nat.le_of_ble_eq_true rfl) (Nat.le_of_ble_eq_true rfl) (by decide) (by decide) dJ7_copyOfRangeByte_39247_24 ?_
  refine fx_topi (y := 1) (by decide) ?_
  refine gx_copyi (f' := upd (fun _ => 0) 0 97) S hG hl.1 (by decide +kernel) (by decide +kernel) (by decide +kernel) (by decide +kernel) 8 (fu_at (by omega) h0) fu_s rfl rfl (by decide) (by decide) (by decide) (by decide) (by decide) (fun i _ => (ffitBU ffitB0 (by decide)) _) (Nat.le_of_ble_eq_true rfl) (Nat.le_of_ble_eq_true rfl) dJ7_copyOfRangeByte_39247_27 (fcpy_full (fz_u fz_0 (by decide)) fz_0) (fun H locs hG => ?_)
  refine lv_aload S.1 S.2.1 dJ7_copyOfRangeByte_39247_30 (lv_at hl 0 rfl) ?_
  have hG : fG N0 D vwCl (fty cI cC cL cD cII cTr cTm cIt cB) (fen ql) s (fblk F n [.inl (cB, 1, .inl (upd (fun _ => 0) 0 97))]) (n + 1) H locs := hG.weak (fun a e h => by
    rcases fblk_cases 1 rfl h with ⟨k, rfl, hlt, hk⟩ | ⟨hout, h⟩
    · rcases (show k = 0 by omega) with rfl
      · cases (show some (.inl (cB, 1, .inl (upd (fun _ => 0) 0 97))) = some e from hk); exact fu_s
    · exact (fu_at (by omega) (fu_at (by omega) h)))
  exact fx_aret S hr (Or.inr ⟨_, rfl⟩) hlocks () hG (rfl) dJ7_copyOfRangeByte_39247_32
theorem k1609_J7_copyOfRange_39247 {n b4 : Nat} (hn : N0 + 231 ≤ n) (hb4 : N0 + 231 ≤ b4) (h0 : F b4 = some (.inl (cB, 16, .inl (upd (fun _ => 0) 0 97)))) : Met l yJ7_copyOfRange_39247 wsJ7_copyOfRange_39247 ({ frames := 2, cells := 1, slots := 1, locals := 64 }) (va_Pc [.ref b4, .int 0, .int 1] (fP N0 D vwCl (fty cI cC cL cD cII cTr cTm cIt cB) (fen ql) F n)) (fQr N0 D vwCl (fty cI cC cL cD cII cTr cTm cIt cB) (fun (r : Nat) (_ : Unit) => r = n) (fun _ => (fblk F n [.inl (cB, 1, .inl (upd (fun _ => 0) 0 97))])) (fun _ => (n + 1))) 1 1 (fA N0) := by
  refine fx_start 3 rfl rfl (Nat.le_of_ble_eq_true rfl) ?_ rfl
  intro p e s m below meth c ls S hr hlocks hin hG hl
  have hl : lv_has ls 3 [(0, .ref b4), (1, .int 0), (2, .int 1)] := hl
  have lt_h0 := hG.1.lt h0
  refine lv_iload_n S.1 S.2.1 dJ7_copyOfRange_39247_0 rfl (lv_at hl 1 rfl) ?_
  refine lv_if_ne (tgt := 10) S.1 S.2.1 dJ7_copyOfRange_39247_1 (by decide) (fun c => absurd (by decide) c) (fun _ => ?_)
  refine lv_iload_n S.1 S.2.1 dJ7_copyOfRange_39247_4 rfl (lv_at hl 2 rfl) ?_
  refine lv_aload_n S.1 S.2.1 dJ7_copyOfRange_39247_5 rfl (lv_at hl 0 rfl) ?_
  refine gx_alen (v := 16) S hG 8 h0 rfl (rfl) dJ7_copyOfRange_39247_6 ?_
  refine lv_icmp_eq (tgt := 17) S.1 S.2.1 dJ7_copyOfRange_39247_7 (by decide) (fun c => absurd c (by decide)) (fun _ => ?_)
  refine lv_aload_n S.1 S.2.1 dJ7_copyOfRange_39247_10 rfl (lv_at hl 0 rfl) ?_
  refine lv_iload_n S.1 S.2.1 dJ7_copyOfRange_39247_11 rfl (lv_at hl 1 rfl) ?_
  refine lv_iload_n S.1 S.2.1 dJ7_copyOfRange_39247_12 rfl (lv_at hl 2 rfl) ?_
  refine fx_cSr (As := [.ref b4, .int 0, .int 1]) (rest := []) S hG (k1608_J7_copyOfRangeByte_39247 (by omega) (by omega) h0) (cwS 3 S.2.2.2.2 gJ7_copyOfRange_39247_J7_copyOfRangeByte_39247 rfl rfl rfl (by decide +kernel) ⟨Nat.le_of_ble_eq_true rfl, Nat.le_of_ble_eq_true rfl⟩) rfl hl.1 rfl (Nat.le_of_ble_eq_true rfl) dJ7_copyOfRange_39247_13 ⟨Nat.le_of_ble_eq_true rfl, Nat.le_of_ble_eq_true rfl⟩ (fun rv_1 _ H locs hp hG => ?_)
  subst rv_1
  refine W.widen (k := 1) (n := 1) (by decide) (by decide) ?_
  have hG : fG N0 D vwCl (fty cI cC cL cD cII cTr cTm cIt cB) (fen ql) s (fblk F n [.inl (cB, 1, .inl (upd (fun _ => 0) 0 97))]) (n + 1) H locs := hG.weak (fun a e h => by
    rcases fblk_cases 1 rfl h with ⟨k, rfl, hlt, hk⟩ | ⟨hout, h⟩
    · rcases (show k = 0 by omega) with rfl
      · cases (show some (.inl (cB, 1, .inl (upd (fun _ => 0) 0 97))) = some e from hk); exact (fblk_at 0 (by omega) rfl)
    · exact (fblk_sk 1 rfl (by omega) h))
  exact fx_aret S hr (Or.inr ⟨_, rfl⟩) hlocks () hG (rfl) dJ7_copyOfRange_39247_16
theorem i_J0_init_db425_J0 : ∀ w ∈ u_ws RJ0 TJ0 4, w ∈ wsJ0_init_db425 := by decide +kernel
theorem k1610_J0_init_db425 {n b2 b3 : Nat} (hn : N0 + 231 ≤ n) (hb2 : N0 + 231 ≤ b2) (hb3 : N0 + 231 ≤ b3) (hbb_b3_b2 : b3 + 1 < b2) (h0 : F b3 = some (.inr (1, [.ref (b3 + 1), .int 0, .int 0, .int 1]))) (h1 : F b2 = some (.inr (0, [.null, .int 0, .int 0, .int 0]))) (h2 : F (b3 + 1) = some (.inl (cB, 16, .inl (upd (fun _ => 0) 0 97)))) : Met l yJ0_init_db425 wsJ0_init_db425 ({ frames := 3, cells := 1, slots := 1, locals := 86 }) (va_Pc [.ref b2, .ref b3, .null] (fP N0 D vwCl (fty cI cC cL cD cII cTr cTm cIt cB) (fen ql) F n)) (fQv N0 D vwCl (fty cI cC cL cD cII cTr cTm cIt cB) (fun (_ : Unit) => True) (fun _ => (fblk (fu F b2 (.inr (0, [.ref n, .int 0, .int 0, .int 0]))) n [.inl (cB, 1, .inl (upd (fun _ => 0) 0 97))])) (fun _ => (n + 1))) 1 1 (fA N0) := by
  refine fx_start 5 rfl rfl (Nat.le_of_ble_eq_true rfl) ?_ rfl
  intro p e s m below meth c ls S hr hlocks hin hG hl
  have hl : lv_has ls 5 [(0, .ref b2), (1, .ref b3), (2, .null)] := hl
  have lt_h0 := hG.1.lt h0
  have lt_h1 := hG.1.lt h1
  have lt_h2 := hG.1.lt h2
  refine lv_aload_n S.1 S.2.1 dJ0_init_db425_0 rfl (lv_at hl 0 rfl) ?_
  refine gx_objInit S hG (by decide +kernel) (by decide +kernel) (by decide +kernel) hl.1 dJ0_init_db425_1 (Nat.le_of_ble_eq_true rfl) (Nat.le_of_ble_eq_true rfl) ?_
  refine lv_aload_n S.1 S.2.1 dJ0_init_db425_4 rfl (lv_at hl 1 rfl) ?_
  refine fx_cUr (r := (RJ4, TJ4, 4)) (As := []) (rest := []) S hG (k1603_J5_getValue_6d5f1 (by omega) (by omega) h0) h0 rfl (va_cwU 0 S.2.2.2.2 gJ0_init_db425_J5_getValue_6d5f1_u552J4 rfl rfl rfl rfl (by decide +kernel) ⟨Nat.le_of_ble_eq_true rfl, Nat.le_of_ble_eq_true rfl⟩) rfl hl.1 rfl (Nat.le_of_ble_eq_true rfl) dJ0_init_db425_5 ⟨Nat.le_of_ble_eq_true rfl, Nat.le_of_ble_eq_true rfl⟩ (fun rv_1 _ H locs hp hG => ?_)
  subst rv_1
  refine lv_astore_n (lv' := [(3, .ref (b3 + 1)), (0, .ref b2), (1, .ref b3), (2, .null)]) S.1 S.2.1 dJ0_init_db425_8 rfl hl (by decide) rfl (fun ls hl => ?_)
  refine lv_aload_n S.1 S.2.1 dJ0_init_db425_9 rfl (lv_at hl 2 rfl) ?_
  refine fx_cUi (r := (RJ4, TJ4, 4)) (As := []) (rest := []) S hG (k1605_J4_length_8abf5 (by omega) (by omega) h0) h0 rfl (va_cwO 0 S.2.2.2.2 gJ0_init_db425_J4_length_8abf5_u549J4 rfl rfl rfl (b0 := cJ5_length_8abf5) (m0 := 1) (r0 := (some .int)) (by decide +kernel) (by decide +kernel) ⟨Nat.le_of_ble_eq_true rfl, Nat.le_of_ble_eq_true rfl⟩) rfl hl.1 rfl (Nat.le_of_ble_eq_true rfl) dJ0_init_db425_10 ⟨Nat.le_of_ble_eq_true rfl, Nat.le_of_ble_eq_true rfl⟩ (fun rv_2 _ H locs hp hG => ?_)
  subst rv_2
  refine lv_istore (lv' := [(4, .int 1), (3, .ref (b3 + 1)), (0, .ref b2), (1, .ref b3), (2, .null)]) S.1 S.2.1 dJ0_init_db425_13 hl (by decide) rfl (fun ls hl => ?_)
  refine lv_aload_n S.1 S.2.1 dJ0_init_db425_15 rfl (lv_at hl 3 rfl) ?_
  refine fx_cUi (r := (RJ4, TJ4, 4)) (As := []) (rest := []) S hG (k1606_J5_isLatin1_aae02 (by omega) (by omega) h0) h0 rfl (va_cwU 0 S.2.2.2.2 gJ0_init_db425_J5_isLatin1_aae02_u1047J4 rfl rfl rfl rfl (by decide +kernel) ⟨Nat.le_of_ble_eq_true rfl, Nat.le_of_ble_eq_true rfl⟩) rfl hl.1 rfl (Nat.le_of_ble_eq_true rfl) dJ0_init_db425_16 ⟨Nat.le_of_ble_eq_true rfl, Nat.le_of_ble_eq_true rfl⟩ (fun rv_3 _ H locs hp hG => ?_)
  subst rv_3
  refine lv_if_eq (tgt := 41) S.1 S.2.1 dJ0_init_db425_19 (by decide) (fun c => absurd c (by decide)) (fun _ => ?_)
  refine lv_aload_n S.1 S.2.1 dJ0_init_db425_22 rfl (lv_at hl 2 rfl) ?_
  refine lv_iconst (v := 0) S.1 S.2.1 dJ0_init_db425_23 (by decide) ?_
  refine gx_putF (C := RJ0) (T := TJ0) (N := 4) (ty := .byte) (v := .int 0) (fs' := [.null, .int 0, .int 0, .int 0]) S hG h1 i_J0_init_db425_J0 rfl 1 (by decide) tyJ0 tyJ0_ok nmJ0 (by decide +kernel) rfl hin rfl (by decide +kernel) rfl (by decide) (Nat.le_of_ble_eq_true rfl) rfl dJ0_init_db425_24 (fun H locs hG => ?_)
  refine lv_aload_n S.1 S.2.1 dJ0_init_db425_27 rfl (lv_at hl 2 rfl) ?_
  refine lv_aload_n S.1 S.2.1 dJ0_init_db425_28 rfl (lv_at hl 1 rfl) ?_
  refine lv_iconst (v := 0) S.1 S.2.1 dJ0_init_db425_29 (by decide) ?_
  refine lv_iload S.1 S.2.1 dJ0_init_db425_30 (lv_at hl 0 rfl) ?_
  refine fx_cSr (As := [.ref (b3 + 1), .int 0, .int 1]) (rest := [.ref b2]) S hG (k1609_J7_copyOfRange_39247 (by omega) (by omega) (fu_at (by omega) h2)) (va_cwS 3 S.2.2.2.2 gJ0_init_db425_J7_copyOfRange_39247 rfl rfl rfl (by decide +kernel) ⟨Nat.le_of_ble_eq_true rfl, Nat.le_of_ble_eq_true rfl⟩) rfl hl.1 rfl (Nat.le_of_ble_eq_true rfl) dJ0_init_db425_32 ⟨Nat.le_of_ble_eq_true rfl, Nat.le_of_ble_eq_true rfl⟩ (fun rv_4 _ H locs hp hG => ?_)
  subst rv_4
  refine W.widen (k := 1) (n := 1) (by decide) (by decide) ?_
  refine gx_putF (C := RJ0) (T := TJ0) (N := 4) (ty := (.array .byte)) (v := .ref n) (fs' := [.ref n, .int 0, .int 0, .int 0]) S hG (fblk_sk 1 rfl (by omega) fu_s) i_J0_init_db425_J0 rfl 0 (by decide) tyJ0 tyJ0_ok nmJ0 (by decide +kernel) rfl hin rfl (by decide +kernel) rfl rfl (Nat.le_of_ble_eq_true rfl) rfl dJ0_init_db425_35 (fun H locs hG => ?_)
  refine lv_goto (tgt := 97) S.1 S.2.1 dJ0_init_db425_38 (by decide) ?_
  have hG : fG N0 D vwCl (fty cI cC cL cD cII cTr cTm cIt cB) (fen ql) s (fblk (fu F b2 (.inr (0, [.ref n, .int 0, .int 0, .int 0]))) n [.inl (cB, 1, .inl (upd (fun _ => 0) 0 97))]) (n + 1) H locs := hG.weak (fun a e h => by
    rcases fblk_cases 1 rfl h with ⟨k, rfl, hlt, hk⟩ | ⟨hout, h⟩
    · rcases (show k = 0 by omega) with rfl
      · cases (show some (.inl (cB, 1, .inl (upd (fun _ => 0) 0 97))) = some e from hk); exact (fu_at (by omega) (fblk_at 0 (by omega) rfl))
    · rcases fu_cases h with ⟨rfl, he⟩ | ⟨hne0, h⟩
      · cases he; exact fu_s
      · exact (fu_at (by omega) (fblk_sk 1 rfl (by omega) (fu_at (by omega) h))))
  exact fx_vret S hr hlocks () hG trivial dJ0_init_db425_97
theorem k1611_J0_init_81219 {n b1 b2 : Nat} (hn : N0 + 231 ≤ n) (hb1 : N0 + 231 ≤ b1) (hb2 : N0 + 231 ≤ b2) (hbb_b2_b1 : b2 + 1 < b1) (h0 : F b2 = some (.inr (1, [.ref (b2 + 1), .int 0, .int 0, .int 1]))) (h1 : F b1 = some (.inr (0, [.null, .int 0, .int 0, .int 0]))) (h2 : F (b2 + 1) = some (.inl (cB, 16, .inl (upd (fun _ => 0) 0 97)))) : Met l yJ0_init_81219 wsJ0_init_81219 ({ frames := 4, cells := 1, slots := 1, locals := 110 }) (va_Pc [.ref b1, .ref b2] (fP N0 D vwCl (fty cI cC cL cD cII cTr cTm cIt cB) (fen ql) F n)) (fQv N0 D vwCl (fty cI cC cL cD cII cTr cTm cIt cB) (fun (_ : Unit) => True) (fun _ => (fblk (fu F b1 (.inr (0, [.ref n, .int 0, .int 0, .int 0]))) n [.inl (cB, 1, .inl (upd (fun _ => 0) 0 97))])) (fun _ => (n + 1))) 1 1 (fA N0) := by
  refine fx_start 2 rfl rfl (Nat.le_of_ble_eq_true rfl) ?_ rfl
  intro p e s m below meth c ls S hr hlocks hin hG hl
  have hl : lv_has ls 2 [(0, .ref b1), (1, .ref b2)] := hl
  have lt_h0 := hG.1.lt h0
  have lt_h1 := hG.1.lt h1
  have lt_h2 := hG.1.lt h2
  refine lv_aload_n S.1 S.2.1 dJ0_init_81219_0 rfl (lv_at hl 0 rfl) ?_
  refine lv_aload_n S.1 S.2.1 dJ0_init_81219_1 rfl (lv_at hl 1 rfl) ?_
  refine lv_null S.1 S.2.1 dJ0_init_81219_2 ?_
  refine fx_cIv (As := [.ref b2, .null]) (rest := []) S hG (k1610_J0_init_db425 (by omega) (by omega) (by omega) (by omega) h0 h1 h2) (cwI 2 S.2.2.2.2 gJ0_init_81219_J0_init_db425 rfl rfl rfl (S.2.2.2.2 (.initialized RJ0) (by decide +kernel)) (S.2.2.2.2 (.methodLink RJ0 489 yJ0_init_db425) (by decide +kernel)) (S.2.2.2.2 (.instanceMethod yJ0_init_db425) (by decide +kernel)) rfl (by decide +kernel) ⟨Nat.le_of_ble_eq_true rfl, Nat.le_of_ble_eq_true rfl⟩) rfl hl.1 rfl (Nat.le_of_ble_eq_true rfl) dJ0_init_81219_3 ⟨Nat.le_of_ble_eq_true rfl, Nat.le_of_ble_eq_true rfl⟩ (fun _ H locs hp hG => ?_)
  refine W.widen (k := 1) (n := 1) (by decide) (by decide) ?_
  have hG : fG N0 D vwCl (fty cI cC cL cD cII cTr cTm cIt cB) (fen ql) s (fblk (fu F b1 (.inr (0, [.ref n, .int 0, .int 0, .int 0]))) n [.inl (cB, 1, .inl (upd (fun _ => 0) 0 97))]) (n + 1) H locs := hG.weak (fun a e h => by
    rcases fblk_cases 1 rfl h with ⟨k, rfl, hlt, hk⟩ | ⟨hout, h⟩
    · rcases (show k = 0 by omega) with rfl
      · cases (show some (.inl (cB, 1, .inl (upd (fun _ => 0) 0 97))) = some e from hk); exact (fblk_at 0 (by omega) rfl)
    · rcases fu_cases h with ⟨rfl, he⟩ | ⟨hne0, h⟩
      · cases he; exact (fblk_sk 1 rfl (by omega) fu_s)
      · exact (fblk_sk 1 rfl (by omega) (fu_at (by omega) h)))
  exact fx_vret S hr hlocks () hG trivial dJ0_init_81219_6
theorem i_J4_toString_0e30d_J0 : ∀ w ∈ u_ws RJ0 TJ0 4, w ∈ wsJ4_toString_0e30d := by decide +kernel
theorem k1612_J4_toString_0e30d {n b1 : Nat} (hn : N0 + 231 ≤ n) (hb1 : N0 + 231 ≤ b1) (h0 : F b1 = some (.inr (1, [.ref (b1 + 1), .int 0, .int 0, .int 1]))) (h1 : F (b1 + 1) = some (.inl (cB, 16, .inl (upd (fun _ => 0) 0 97)))) : Met l yJ4_toString_0e30d wsJ4_toString_0e30d ({ frames := 5, cells := 2, slots := 5, locals := 131 }) (va_Pc [.ref b1] (fP N0 D vwCl (fty cI cC cL cD cII cTr cTm cIt cB) (fen ql) F n)) (fQr N0 D vwCl (fty cI cC cL cD cII cTr cTm cIt cB) (fun (r : Nat) (_ : Unit) => r = n) (fun _ => (fblk F n [.inr (0, [.ref (n + 1), .int 0, .int 0, .int 0]), .inl (cB, 1, .inl (upd (fun _ => 0) 0 97))])) (fun _ => (n + 2))) 2 5 (fA N0) := by
  refine fx_start 1 rfl rfl (Nat.le_of_ble_eq_true rfl) ?_ rfl
  intro p e s m below meth c ls S hr hlocks hin hG hl
  have hl : lv_has ls 1 [(0, .ref b1)] := hl
  have lt_h0 := hG.1.lt h0
  have lt_h1 := hG.1.lt h1
  refine gx_new (C := RJ0) (T := TJ0) (N := 4) (ci := 0) (fs := [.null, .int 0, .int 0, .int 0]) S hG i_J4_toString_0e30d_J0 tyJ0 tyJ0_ok rfl (by decide +kernel) (by decide +kernel) (by decide +kernel) (fun j hj => by rcases (show j = 0 ∨ j = 1 ∨ j = 2 ∨ j = 3 by omega) with rfl | rfl | rfl | rfl <;> rfl) (by decide) (by decide) dJ4_toString_0e30d_0 (fun H hG => ?_)
  refine W.widen (k := 1) (n := 4) (by decide) (by decide) ?_
  refine lv_dup S.1 S.2.1 dJ4_toString_0e30d_3 rfl ?_
  refine lv_aload_n S.1 S.2.1 dJ4_toString_0e30d_4 rfl (lv_at hl 0 rfl) ?_
  refine fx_cIv (As := [.ref b1]) (rest := [.ref n]) S hG (k1611_J0_init_81219 (by omega) (by omega) (by omega) (by omega) (fu_at (by omega) h0) fu_s (fu_at (by omega) h1)) (cwI 1 S.2.2.2.2 gJ4_toString_0e30d_J0_init_81219 rfl rfl rfl (S.2.2.2.2 (.initialized RJ0) (by decide +kernel)) (S.2.2.2.2 (.methodLink RJ4 137 yJ0_init_81219) (by decide +kernel)) (S.2.2.2.2 (.instanceMethod yJ0_init_81219) (by decide +kernel)) rfl (by decide +kernel) ⟨Nat.le_of_ble_eq_true rfl, Nat.le_of_ble_eq_true rfl⟩) rfl hl.1 rfl (Nat.le_of_ble_eq_true rfl) dJ4_toString_0e30d_5 ⟨Nat.le_of_ble_eq_true rfl, Nat.le_of_ble_eq_true rfl⟩ (fun _ H locs hp hG => ?_)
  refine W.widen (k := 2) (n := 5) (by decide) (by decide) ?_
  have hG : fG N0 D vwCl (fty cI cC cL cD cII cTr cTm cIt cB) (fen ql) s (fblk F n [.inr (0, [.ref (n + 1), .int 0, .int 0, .int 0]), .inl (cB, 1, .inl (upd (fun _ => 0) 0 97))]) (n + 2) H locs := hG.weak (fun a e h => by
    rcases fblk_cases 2 rfl h with ⟨k, rfl, hlt, hk⟩ | ⟨hout, h⟩
    · rcases (show k = 0 ∨ k = 1 by omega) with rfl | rfl
      · cases (show some (.inr (0, [.ref (n + 1), .int 0, .int 0, .int 0])) = some e from hk); exact (fblk_sk 1 rfl (by omega) fu_s)
      · cases (show some (.inl (cB, 1, .inl (upd (fun _ => 0) 0 97))) = some e from hk); exact (fblk_at 0 (by omega) rfl)
    · exact (fblk_sk 1 rfl (by omega) (fu_at (by omega) (fu_at (by omega) h))))
  exact fx_aret S hr (Or.inl ⟨_, rfl⟩) hlocks () hG (rfl) dJ4_toString_0e30d_8
theorem i_J0_coder_7d493_J0 : ∀ w ∈ u_ws RJ0 TJ0 4, w ∈ wsJ0_coder_7d493 := by decide +kernel
theorem k1613_J0_coder_7d493 {n b2 : Nat} (hn : N0 + 231 ≤ n) (hb2 : N0 + 231 ≤ b2) (h0 : F b2 = some (.inr (0, [.ref (b2 + 1), .int 0, .int 0, .int 0]))) : Met l yJ0_coder_7d493 wsJ0_coder_7d493 ({ frames := 0, cells := 0, slots := 0, locals := 0 }) (va_Pc [.ref b2] (fP N0 D vwCl (fty cI cC cL cD cII cTr cTm cIt cB) (fen ql) F n)) (fQi N0 D vwCl (fty cI cC cL cD cII cTr cTm cIt cB) (fun (r : Int32) (_ : Unit) => r = 0) (fun _ => F) (fun _ => n)) 0 0 (fA N0) := by
  refine fx_start 1 rfl rfl (Nat.le_of_ble_eq_true rfl) ?_ rfl
  intro p e s m below meth c ls S hr hlocks hin hG hl
  have hl : lv_has ls 1 [(0, .ref b2)] := hl
  have lt_h0 := hG.1.lt h0
  refine gx_getCS S hG (by decide +kernel) dJ0_coder_7d493_0 ?_
  refine lv_if_eq (tgt := 13) S.1 S.2.1 dJ0_coder_7d493_3 (by decide) (fun c => absurd c (by decide)) (fun _ => ?_)
  refine lv_aload_n S.1 S.2.1 dJ0_coder_7d493_6 rfl (lv_at hl 0 rfl) ?_
  refine gx_get (C := RJ0) (T := TJ0) (N := 4) S hG h0 i_J0_coder_7d493_J0 rfl 1 (by decide) (by decide +kernel) rfl dJ0_coder_7d493_7 ?_
  refine lv_goto (tgt := 14) S.1 S.2.1 dJ0_coder_7d493_10 (by decide) ?_
  exact fx_zret S hr (rfl) hlocks () hG (rfl) dJ0_coder_7d493_14
theorem i_J0_length_8abf5_J0 : ∀ w ∈ u_ws RJ0 TJ0 4, w ∈ wsJ0_length_8abf5 := by decide +kernel
theorem k1614_J0_length_8abf5 {n b1 : Nat} (hn : N0 + 231 ≤ n) (hb1 : N0 + 231 ≤ b1) (h0 : F b1 = some (.inr (0, [.ref (b1 + 1), .int 0, .int 0, .int 0]))) (h1 : F (b1 + 1) = some (.inl (cB, 1, .inl (upd (fun _ => 0) 0 97)))) : Met l yJ0_length_8abf5 wsJ0_length_8abf5 ({ frames := 1, cells := 0, slots := 0, locals := 20 }) (va_Pc [.ref b1] (fP N0 D vwCl (fty cI cC cL cD cII cTr cTm cIt cB) (fen ql) F n)) (fQi N0 D vwCl (fty cI cC cL cD cII cTr cTm cIt cB) (fun (r : Int32) (_ : Unit) => r = 1) (fun _ => F) (fun _ => n)) 0 0 (fA N0) := by
  refine fx_start 1 rfl rfl (Nat.le_of_ble_eq_true rfl) ?_ rfl
  intro p e s m below meth c ls S hr hlocks hin hG hl
  have hl : lv_has ls 1 [(0, .ref b1)] := hl
  have lt_h0 := hG.1.lt h0
  have lt_h1 := hG.1.lt h1
  refine lv_aload_n S.1 S.2.1 dJ0_length_8abf5_0 rfl (lv_at hl 0 rfl) ?_
  refine gx_get (C := RJ0) (T := TJ0) (N := 4) S hG h0 i_J0_length_8abf5_J0 rfl 0 (by decide) (by decide +kernel) rfl dJ0_length_8abf5_1 ?_
  refine gx_alen (v := 1) S hG 8 h1 rfl (rfl) dJ0_length_8abf5_4 ?_
  refine lv_aload_n S.1 S.2.1 dJ0_length_8abf5_5 rfl (lv_at hl 0 rfl) ?_
  refine fx_cVi (As := []) (rest := [.int 1]) S hG (k1613_J0_coder_7d493 (by omega) (by omega) h0) h0 rfl (cwV 0 S.2.2.2.2 gJ0_length_8abf5_J0_coder_7d493 rfl rfl rfl (by decide +kernel) ⟨Nat.le_of_ble_eq_true rfl, Nat.le_of_ble_eq_true rfl⟩) rfl hl.1 rfl (Nat.le_of_ble_eq_true rfl) dJ0_length_8abf5_6 ⟨Nat.le_of_ble_eq_true rfl, Nat.le_of_ble_eq_true rfl⟩ (fun rv_1 _ H locs hp hG => ?_)
  subst rv_1
  refine lv_ishr S.1 S.2.1 dJ0_length_8abf5_9 ?_
  refine fx_topi (y := 1) (by decide) ?_
  exact fx_iret S hr hlocks () hG (rfl) dJ0_length_8abf5_10
theorem i_X10_writeTree_J4 : ∀ w ∈ u_ws RJ4 TJ4 4, w ∈ wsX10_writeTree := by decide +kernel
theorem k1615_X10_writeTree {n : Nat} (hn : N0 + 231 ≤ n) (h0 : F (N0 + 164) = some (.inr (12, [.ref (N0 + 165), .int 0, .ref (N0 + 181), .int 0, .int 0, .int 0, .int (-1), .ref (ql 24), .ref (N0 + 182), .ref (N0 + 187), .ref (N0 + 208), .ref (N0 + 209), .ref (N0 + 210), .ref (N0 + 211), .ref (N0 + 212), .int 0, .ref (N0 + 213), .ref (N0 + 218), .ref (N0 + 223), .ref (N0 + 224), .ref (N0 + 225), .ref (N0 + 226), .ref (N0 + 227), .int 0, .int 0, .ref (N0 + 228), .null, .int (-1), .int 0, .int 0, .int 0]))) (h1 : F (N0 + 165) = some (.inl (cTm, 3, .inr (.inr (.inr (.inr (va_up (va_up (va_up (fun _ => none) 0 (some (N0 + 166))) 1 (some (N0 + 171))) 2 (some (N0 + 176))))))))) (h2 : F (N0 + 166) = some (.inr (11, [.ref (N0 + 167), .ref (N0 + 168), .ref (N0 + 169), .ref (N0 + 170), .int 1]))) (h3 : F (N0 + 167) = some (.inl (cI, 20, .inl (upd (fun _ => 0) 0 97)))) (h4 : F (N0 + 168) = some (.inl (cI, 20, .inl (upd (fun _ => 0) 0 0)))) (h5 : F (N0 + 169) = some (.inl (cI, 20, .inl (upd (fun _ => 0) 0 0)))) : Met l yX10_writeTree wsX10_writeTree ({ frames := 6, cells := 4, slots := 25, locals := 151 }) (va_Pc [.ref (N0 + 164), .int 0] (fP N0 D vwCl (fty cI cC cL cD cII cTr cTm cIt cB) (fen ql) F n)) (fQi N0 D vwCl (fty cI cC cL cD cII cTr cTm cIt cB) (fun (r : Int32) (_ : Unit) => r = 1) (fun _ => (fblk (fu F (N0 + 164) (.inr (12, [.ref (N0 + 165), .int 0, .ref (N0 + 181), .int 0, .int 0, .int 0, .int (-1), .ref (n + 2), .ref (N0 + 182), .ref (N0 + 187), .ref (N0 + 208), .ref (N0 + 209), .ref (N0 + 210), .ref (N0 + 211), .ref (N0 + 212), .int 0, .ref (N0 + 213), .ref (N0 + 218), .ref (N0 + 223), .ref (N0 + 224), .ref (N0 + 225), .ref (N0 + 226), .ref (N0 + 227), .int 0, .int 0, .ref (N0 + 228), .null, .int (-1), .int 0, .int 0, .int 0]))) n [.inr (1, [.ref (n + 1), .int 0, .int 0, .int 1]), .inl (cB, 16, .inl (upd (fun _ => 0) 0 97)), .inr (0, [.ref (n + 3), .int 0, .int 0, .int 0]), .inl (cB, 1, .inl (upd (fun _ => 0) 0 97))])) (fun _ => (n + 4))) 4 25 (fA N0) := by
  refine fx_start 3 rfl rfl (Nat.le_of_ble_eq_true rfl) ?_ rfl
  intro p e s m below meth c ls S hr hlocks hin hG hl
  have hl : lv_has ls 3 [(0, .ref (N0 + 164)), (1, .int 0)] := hl
  have lt_h0 := hG.1.lt h0
  have lt_h1 := hG.1.lt h1
  have lt_h2 := hG.1.lt h2
  have lt_h3 := hG.1.lt h3
  have lt_h4 := hG.1.lt h4
  have lt_h5 := hG.1.lt h5
  refine lv_aload_n S.1 S.2.1 dX10_writeTree_0 rfl (lv_at hl 0 rfl) ?_
  refine lv_iconst (v := 0) S.1 S.2.1 dX10_writeTree_1 (by decide) ?_
  refine gx_put (C := RX10) (T := TX10) (N := 31) (ty := .int) (v := .int 0) (fs' := [.ref (N0 + 165), .int 0, .ref (N0 + 181), .int 0, .int 0, .int 0, .int (-1), .ref (ql 24), .ref (N0 + 182), .ref (N0 + 187), .ref (N0 + 208), .ref (N0 + 209), .ref (N0 + 210), .ref (N0 + 211), .ref (N0 + 212), .int 0, .ref (N0 + 213), .ref (N0 + 218), .ref (N0 + 223), .ref (N0 + 224), .ref (N0 + 225), .ref (N0 + 226), .ref (N0 + 227), .int 0, .int 0, .ref (N0 + 228), .null, .int (-1), .int 0, .int 0, .int 0]) S hG h0 i_X10_writeTree_X10 rfl 1 (by decide) tyX10 tyX10_ok nmX10 (by decide +kernel) rfl (by decide +kernel) rfl rfl (Nat.le_of_ble_eq_true rfl) rfl dX10_writeTree_2 (fun H locs hG => ?_)
  refine lv_iload_n S.1 S.2.1 dX10_writeTree_5 rfl (lv_at hl 1 rfl) ?_
  refine fx_cSi (As := [.int 0]) (rest := []) S hG (k34_X10_isTree (by omega)) (cwS 1 S.2.2.2.2 gX10_writeTree_X10_isTree rfl rfl rfl (by decide +kernel) ⟨Nat.le_of_ble_eq_true rfl, Nat.le_of_ble_eq_true rfl⟩) rfl hl.1 rfl (Nat.le_of_ble_eq_true rfl) dX10_writeTree_6 ⟨Nat.le_of_ble_eq_true rfl, Nat.le_of_ble_eq_true rfl⟩ (fun rv_1 _ H locs hp hG => ?_)
  subst rv_1
  refine lv_if_ne (tgt := 18) S.1 S.2.1 dX10_writeTree_9 (by decide) (fun _ => ?_) (fun c => absurd c (by decide))
  refine gx_new (C := RJ4) (T := TJ4) (N := 4) (ci := 1) (fs := [.null, .int 0, .int 0, .int 0]) S hG i_X10_writeTree_J4 tyJ4 tyJ4_ok rfl (by decide +kernel) (by decide +kernel) (by decide +kernel) (fun j hj => by rcases (show j = 0 ∨ j = 1 ∨ j = 2 ∨ j = 3 by omega) with rfl | rfl | rfl | rfl <;> rfl) (by decide) (by decide) dX10_writeTree_18 (fun H hG => ?_)
  refine W.widen (k := 1) (n := 4) (by decide) (by decide) ?_
  refine lv_dup S.1 S.2.1 dX10_writeTree_21 rfl ?_
  refine fx_cIv (As := []) (rest := [.ref n]) S hG (k1596_J4_init_da8c8 (by omega) (by omega) fu_s) (cwI 0 S.2.2.2.2 gX10_writeTree_J4_init_da8c8 rfl rfl rfl (S.2.2.2.2 (.initialized RJ4) (by decide +kernel)) (S.2.2.2.2 (.methodLink RX10 181 yJ4_init_da8c8) (by decide +kernel)) (S.2.2.2.2 (.instanceMethod yJ4_init_da8c8) (by decide +kernel)) rfl (by decide +kernel) ⟨Nat.le_of_ble_eq_true rfl, Nat.le_of_ble_eq_true rfl⟩) rfl hl.1 rfl (Nat.le_of_ble_eq_true rfl) dX10_writeTree_22 ⟨Nat.le_of_ble_eq_true rfl, Nat.le_of_ble_eq_true rfl⟩ (fun _ H locs hp hG => ?_)
  refine W.widen (k := 2) (n := 20) (by decide) (by decide) ?_
  refine lv_astore_n (lv' := [(2, .ref n), (0, .ref (N0 + 164)), (1, .int 0)]) S.1 S.2.1 dX10_writeTree_25 rfl hl (by decide) rfl (fun ls hl => ?_)
  refine lv_aload_n S.1 S.2.1 dX10_writeTree_26 rfl (lv_at hl 1 rfl) ?_
  refine lv_aload_n S.1 S.2.1 dX10_writeTree_27 rfl (lv_at hl 1 rfl) ?_
  refine gx_get (C := RX10) (T := TX10) (N := 31) S hG (fblk_sk 1 rfl (by omega) (fu_at (by omega) (fu_at (by omega) fu_s))) i_X10_writeTree_X10 rfl 0 (by decide) (by decide +kernel) rfl dX10_writeTree_28 ?_
  refine lv_iload_n S.1 S.2.1 dX10_writeTree_31 rfl (lv_at hl 2 rfl) ?_
  refine gx_aldq (x := (N0 + 166)) S hG 6 rfl (fblk_sk 1 rfl (by omega) (fu_at (by omega) (fu_at (by omega) (fu_at (by omega) h1)))) rfl (fin_l (by decide)) (rfl) dX10_writeTree_32 ?_
  refine lv_iconst (v := 0) S.1 S.2.1 dX10_writeTree_33 (by decide) ?_
  refine lv_aload_n S.1 S.2.1 dX10_writeTree_34 rfl (lv_at hl 0 rfl) ?_
  refine fx_cVv (As := [.ref (N0 + 166), .int 0, .ref n]) (rest := []) S hG (k1602_X10_writes (by omega) (by omega) (fblk_sk 1 rfl (by omega) (fu_at (by omega) (fu_at (by omega) (fu_at (by omega) h2)))) (fblk_sk 1 rfl (by omega) (fu_at (by omega) (fu_at (by omega) (fu_at (by omega) h3)))) (fblk_sk 1 rfl (by omega) fu_s) (fblk_at 0 (by omega) rfl) (fblk_sk 1 rfl (by omega) (fu_at (by omega) (fu_at (by omega) (fu_at (by omega) h4)))) (fblk_sk 1 rfl (by omega) (fu_at (by omega) (fu_at (by omega) (fu_at (by omega) h5))))) (fblk_sk 1 rfl (by omega) (fu_at (by omega) (fu_at (by omega) fu_s))) rfl (cwV 3 S.2.2.2.2 gX10_writeTree_X10_writes rfl rfl rfl (by decide +kernel) ⟨Nat.le_of_ble_eq_true rfl, Nat.le_of_ble_eq_true rfl⟩) rfl hl.1 rfl (Nat.le_of_ble_eq_true rfl) dX10_writeTree_35 ⟨Nat.le_of_ble_eq_true rfl, Nat.le_of_ble_eq_true rfl⟩ (fun _ H locs hp hG => ?_)
  refine lv_aload_n S.1 S.2.1 dX10_writeTree_38 rfl (lv_at hl 1 rfl) ?_
  refine lv_aload_n S.1 S.2.1 dX10_writeTree_39 rfl (lv_at hl 0 rfl) ?_
  refine fx_cVr (As := []) (rest := [.ref (N0 + 164)]) S hG (k1612_J4_toString_0e30d (by omega) (by omega) (fu_at (by omega) fu_s) fu_s) (fu_at (by omega) fu_s) rfl (cwV 0 S.2.2.2.2 gX10_writeTree_J4_toString_0e30d rfl rfl rfl (by decide +kernel) ⟨Nat.le_of_ble_eq_true rfl, Nat.le_of_ble_eq_true rfl⟩) rfl hl.1 rfl (Nat.le_of_ble_eq_true rfl) dX10_writeTree_40 ⟨Nat.le_of_ble_eq_true rfl, Nat.le_of_ble_eq_true rfl⟩ (fun rv_4 _ H locs hp hG => ?_)
  subst rv_4
  refine W.widen (k := 4) (n := 25) (by decide) (by decide) ?_
  refine gx_put (C := RX10) (T := TX10) (N := 31) (ty := (.object "java/lang/String")) (v := .ref (n + 2)) (fs' := [.ref (N0 + 165), .int 0, .ref (N0 + 181), .int 0, .int 0, .int 0, .int (-1), .ref (n + 2), .ref (N0 + 182), .ref (N0 + 187), .ref (N0 + 208), .ref (N0 + 209), .ref (N0 + 210), .ref (N0 + 211), .ref (N0 + 212), .int 0, .ref (N0 + 213), .ref (N0 + 218), .ref (N0 + 223), .ref (N0 + 224), .ref (N0 + 225), .ref (N0 + 226), .ref (N0 + 227), .int 0, .int 0, .ref (N0 + 228), .null, .int (-1), .int 0, .int 0, .int 0]) S hG (fblk_sk 2 rfl (by omega) (fu_at (by omega) (fu_at (by omega) (fblk_sk 1 rfl (by omega) (fu_at (by omega) (fu_at (by omega) fu_s)))))) i_X10_writeTree_X10 rfl 7 (by decide) tyX10 tyX10_ok nmX10 (by decide +kernel) rfl (by decide +kernel) rfl rfl (Nat.le_of_ble_eq_true rfl) rfl dX10_writeTree_43 (fun H locs hG => ?_)
  refine lv_aload_n S.1 S.2.1 dX10_writeTree_46 rfl (lv_at hl 1 rfl) ?_
  refine gx_get (C := RX10) (T := TX10) (N := 31) S hG fu_s i_X10_writeTree_X10 rfl 7 (by decide) (by decide +kernel) rfl dX10_writeTree_47 ?_
  refine fx_cVi (As := []) (rest := []) S hG (k1614_J0_length_8abf5 (by omega) (by omega) (fu_at (by omega) (fblk_at 0 (by omega) rfl)) (fu_at (by omega) (fblk_at 1 (by omega) rfl))) (fu_at (by omega) (fblk_at 0 (by omega) rfl)) rfl (cwV 0 S.2.2.2.2 gX10_writeTree_J0_length_8abf5 rfl rfl rfl (by decide +kernel) ⟨Nat.le_of_ble_eq_true rfl, Nat.le_of_ble_eq_true rfl⟩) rfl hl.1 rfl (Nat.le_of_ble_eq_true rfl) dX10_writeTree_50 ⟨Nat.le_of_ble_eq_true rfl, Nat.le_of_ble_eq_true rfl⟩ (fun rv_5 _ H locs hp hG => ?_)
  subst rv_5
  have hG : fG N0 D vwCl (fty cI cC cL cD cII cTr cTm cIt cB) (fen ql) s (fblk (fu F (N0 + 164) (.inr (12, [.ref (N0 + 165), .int 0, .ref (N0 + 181), .int 0, .int 0, .int 0, .int (-1), .ref (n + 2), .ref (N0 + 182), .ref (N0 + 187), .ref (N0 + 208), .ref (N0 + 209), .ref (N0 + 210), .ref (N0 + 211), .ref (N0 + 212), .int 0, .ref (N0 + 213), .ref (N0 + 218), .ref (N0 + 223), .ref (N0 + 224), .ref (N0 + 225), .ref (N0 + 226), .ref (N0 + 227), .int 0, .int 0, .ref (N0 + 228), .null, .int (-1), .int 0, .int 0, .int 0]))) n [.inr (1, [.ref (n + 1), .int 0, .int 0, .int 1]), .inl (cB, 16, .inl (upd (fun _ => 0) 0 97)), .inr (0, [.ref (n + 3), .int 0, .int 0, .int 0]), .inl (cB, 1, .inl (upd (fun _ => 0) 0 97))]) (n + 4) H locs := hG.weak (fun a e h => by
    rcases fblk_cases 4 rfl h with ⟨k, rfl, hlt, hk⟩ | ⟨hout, h⟩
    · rcases (show k = 0 ∨ k = 1 ∨ k = 2 ∨ k = 3 by omega) with rfl | rfl | rfl | rfl
      · cases (show some (.inr (1, [.ref (n + 1), .int 0, .int 0, .int 1])) = some e from hk); exact (fu_at (by omega) (fblk_sk 2 rfl (by omega) (fu_at (by omega) fu_s)))
      · cases (show some (.inl (cB, 16, .inl (upd (fun _ => 0) 0 97))) = some e from hk); exact (fu_at (by omega) (fblk_sk 2 rfl (by omega) fu_s))
      · cases (show some (.inr (0, [.ref (n + 3), .int 0, .int 0, .int 0])) = some e from hk); exact (fu_at (by omega) (fblk_at 0 (by omega) rfl))
      · cases (show some (.inl (cB, 1, .inl (upd (fun _ => 0) 0 97))) = some e from hk); exact (fu_at (by omega) (fblk_at 1 (by omega) rfl))
    · rcases fu_cases h with ⟨rfl, he⟩ | ⟨hne0, h⟩
      · cases he; exact fu_s
      · exact (fu_at (by omega) (fblk_sk 2 rfl (by omega) (fu_at (by omega) (fu_at (by omega) (fblk_sk 1 rfl (by omega) (fu_at (by omega) (fu_at (by omega) (fu_at (by omega) h)))))))))
  exact fx_iret S hr hlocks () hG (rfl) dX10_writeTree_53
theorem k1616_X10_thrown {n b1 : Nat} (hn : N0 + 231 ≤ n) (hb1 : N0 + 231 ≤ b1) (h0 : F (N0 + 164) = some (.inr (12, [.ref (N0 + 165), .int 0, .ref (N0 + 181), .int 0, .int 0, .int 0, .int (-1), .ref (b1 + 2), .ref (N0 + 182), .ref (N0 + 187), .ref (N0 + 208), .ref (N0 + 209), .ref (N0 + 210), .ref (N0 + 211), .ref (N0 + 212), .int 0, .ref (N0 + 213), .ref (N0 + 218), .ref (N0 + 223), .ref (N0 + 224), .ref (N0 + 225), .ref (N0 + 226), .ref (N0 + 227), .int 0, .int 0, .ref (N0 + 228), .null, .int (-1), .int 0, .int 0, .int 0]))) : Met l yX10_thrown wsX10_thrown ({ frames := 0, cells := 0, slots := 0, locals := 0 }) (va_Pc [.ref (N0 + 164)] (fP N0 D vwCl (fty cI cC cL cD cII cTr cTm cIt cB) (fen ql) F n)) (fQi N0 D vwCl (fty cI cC cL cD cII cTr cTm cIt cB) (fun (r : Int32) (_ : Unit) => r = 0) (fun _ => F) (fun _ => n)) 0 0 (fA N0) := by
  refine fx_start 1 rfl rfl (Nat.le_of_ble_eq_true rfl) ?_ rfl
  intro p e s m below meth c ls S hr hlocks hin hG hl
  have hl : lv_has ls 1 [(0, .ref (N0 + 164))] := hl
  have lt_h0 := hG.1.lt h0
  refine lv_aload_n S.1 S.2.1 dX10_thrown_0 rfl (lv_at hl 0 rfl) ?_
  refine gx_get (C := RX10) (T := TX10) (N := 31) S hG h0 i_X10_thrown_X10 rfl 1 (by decide) (by decide +kernel) rfl dX10_thrown_1 ?_
  exact fx_iret S hr hlocks () hG (rfl) dX10_thrown_4
theorem k1617_X5_depthOf {n : Nat} (hn : N0 + 231 ≤ n)  : Met l yX5_depthOf wsX5_depthOf ({ frames := 0, cells := 0, slots := 0, locals := 0 }) (va_Pc [.ref (N0 + 150), .int 0] (fP N0 D vwCl (fty cI cC cL cD cII cTr cTm cIt cB) (fen ql) F n)) (fQi N0 D vwCl (fty cI cC cL cD cII cTr cTm cIt cB) (fun (r : Int32) (_ : Unit) => r = 0) (fun _ => F) (fun _ => n)) 0 0 (fA N0) := by
  refine fx_start 4 rfl rfl (Nat.le_of_ble_eq_true rfl) ?_ rfl
  intro p e s m below meth c ls S hr hlocks hin hG hl
  have hl : lv_has ls 4 [(0, .ref (N0 + 150)), (1, .int 0)] := hl
  refine lv_iconst (v := 0) S.1 S.2.1 dX5_depthOf_0 (by decide) ?_
  refine lv_istore_n (lv' := [(2, .int 0), (0, .ref (N0 + 150)), (1, .int 0)]) S.1 S.2.1 dX5_depthOf_1 rfl hl (by decide) rfl (fun ls hl => ?_)
  refine lv_iload_n S.1 S.2.1 dX5_depthOf_2 rfl (lv_at hl 2 rfl) ?_
  refine lv_istore_n (lv' := [(3, .int 0), (2, .int 0), (0, .ref (N0 + 150)), (1, .int 0)]) S.1 S.2.1 dX5_depthOf_3 rfl hl (by decide) rfl (fun ls hl => ?_)
  refine lv_iload_n S.1 S.2.1 dX5_depthOf_4 rfl (lv_at hl 0 rfl) ?_
  refine lv_if_le (tgt := 27) S.1 S.2.1 dX5_depthOf_5 (by decide) (fun _ => ?_) (fun c => absurd (by decide) c)
  refine lv_iload_n S.1 S.2.1 dX5_depthOf_27 rfl (lv_at hl 1 rfl) ?_
  exact fx_iret S hr hlocks () hG (rfl) dX5_depthOf_28
theorem k1618_X0_appendHead {n : Nat} (hn : N0 + 231 ≤ n) (h0 : F (N0 + 150) = some (.inr (7, [.ref (N0 + 151), .ref (N0 + 152), .ref (N0 + 153), .ref (N0 + 154), .ref (N0 + 155), .ref (N0 + 156), .int 1]))) (h1 : F (N0 + 151) = some (.inl (cC, 20, .inl (upd (fun _ => 0) 0 97)))) (h2 : F (N0 + 11) = some (.inr (2, [.ref (N0 + 12), .int 0]))) (h3 : F (N0 + 12) = some (.inl (cC, 160, .inl (fun _ => 0)))) (h4 : F (N0 + 152) = some (.inl (cI, 20, .inl (fun _ => 0)))) (h5 : F (N0 + 153) = some (.inl (cI, 20, .inl (fun _ => 0)))) : Met l yX0_appendHead wsX0_appendHead ({ frames := 1, cells := 0, slots := 0, locals := 21 }) (va_Pc [.ref (N0 + 11), .ref (N0 + 150), .int 0] (fP N0 D vwCl (fty cI cC cL cD cII cTr cTm cIt cB) (fen ql) F n)) (fQv N0 D vwCl (fty cI cC cL cD cII cTr cTm cIt cB) (fun (_ : Unit) => True) (fun _ => (fu (fu F (N0 + 12) (.inl (cC, 160, .inl (upd (fun _ => 0) 0 97)))) (N0 + 11) (.inr (2, [.ref (N0 + 12), .int 1])))) (fun _ => n)) 0 0 (fA N0) := by
  refine fx_start 3 rfl rfl (Nat.le_of_ble_eq_true rfl) ?_ rfl
  intro p e s m below meth c ls S hr hlocks hin hG hl
  have hl : lv_has ls 3 [(0, .ref (N0 + 11)), (1, .ref (N0 + 150)), (2, .int 0)] := hl
  have lt_h0 := hG.1.lt h0
  have lt_h1 := hG.1.lt h1
  have lt_h2 := hG.1.lt h2
  have lt_h3 := hG.1.lt h3
  have lt_h4 := hG.1.lt h4
  have lt_h5 := hG.1.lt h5
  refine lv_aload_n S.1 S.2.1 dX0_appendHead_0 rfl (lv_at hl 0 rfl) ?_
  refine lv_aload_n S.1 S.2.1 dX0_appendHead_1 rfl (lv_at hl 1 rfl) ?_
  refine gx_get (C := RX5) (T := TX5) (N := 7) S hG h0 i_X0_appendHead_X5 rfl 0 (by decide) (by decide +kernel) rfl dX0_appendHead_2 ?_
  refine lv_iload_n S.1 S.2.1 dX0_appendHead_5 rfl (lv_at hl 2 rfl) ?_
  refine gx_cald (v := 97) S hG 1 h1 rfl (fin_l (by decide)) (by decide) dX0_appendHead_6 ?_
  refine fx_cVv (As := [.int 97]) (rest := []) S hG (k1590_X0_append (by omega) h2 h3) h2 rfl (cwV 1 S.2.2.2.2 gX0_appendHead_X0_append rfl rfl rfl (by decide +kernel) ⟨Nat.le_of_ble_eq_true rfl, Nat.le_of_ble_eq_true rfl⟩) rfl hl.1 rfl (Nat.le_of_ble_eq_true rfl) dX0_appendHead_7 ⟨Nat.le_of_ble_eq_true rfl, Nat.le_of_ble_eq_true rfl⟩ (fun _ H locs hp hG => ?_)
  refine lv_aload_n S.1 S.2.1 dX0_appendHead_10 rfl (lv_at hl 1 rfl) ?_
  refine gx_get (C := RX5) (T := TX5) (N := 7) S hG (fu_at (by omega) (fu_at (by omega) h0)) i_X0_appendHead_X5 rfl 1 (by decide) (by decide +kernel) rfl dX0_appendHead_11 ?_
  refine lv_iload_n S.1 S.2.1 dX0_appendHead_14 rfl (lv_at hl 2 rfl) ?_
  refine gx_iald (v := 0) S hG 0 (fu_at (by omega) (fu_at (by omega) h4)) rfl (fin_l (by decide)) (by decide) dX0_appendHead_15 ?_
  refine lv_if_eq (tgt := 35) S.1 S.2.1 dX0_appendHead_16 (by decide) (fun _ => ?_) (fun c => absurd (by decide) c)
  refine lv_aload_n S.1 S.2.1 dX0_appendHead_35 rfl (lv_at hl 1 rfl) ?_
  refine gx_get (C := RX5) (T := TX5) (N := 7) S hG (fu_at (by omega) (fu_at (by omega) h0)) i_X0_appendHead_X5 rfl 2 (by decide) (by decide +kernel) rfl dX0_appendHead_36 ?_
  refine lv_iload_n S.1 S.2.1 dX0_appendHead_39 rfl (lv_at hl 2 rfl) ?_
  refine gx_iald (v := 0) S hG 0 (fu_at (by omega) (fu_at (by omega) h5)) rfl (fin_l (by decide)) (by decide) dX0_appendHead_40 ?_
  refine lv_if_eq (tgt := 60) S.1 S.2.1 dX0_appendHead_41 (by decide) (fun _ => ?_) (fun c => absurd (by decide) c)
  exact fx_vret S hr hlocks () hG trivial dX0_appendHead_60
theorem k1619_X0_appendTree {n : Nat} (hn : N0 + 231 ≤ n) (h0 : F (N0 + 150) = some (.inr (7, [.ref (N0 + 151), .ref (N0 + 152), .ref (N0 + 153), .ref (N0 + 154), .ref (N0 + 155), .ref (N0 + 156), .int 1]))) (h1 : F (N0 + 11) = some (.inr (2, [.ref (N0 + 12), .int 0]))) (h2 : F (N0 + 151) = some (.inl (cC, 20, .inl (upd (fun _ => 0) 0 97)))) (h3 : F (N0 + 12) = some (.inl (cC, 160, .inl (fun _ => 0)))) (h4 : F (N0 + 152) = some (.inl (cI, 20, .inl (fun _ => 0)))) (h5 : F (N0 + 153) = some (.inl (cI, 20, .inl (fun _ => 0)))) : Met l yX0_appendTree wsX0_appendTree ({ frames := 2, cells := 0, slots := 0, locals := 43 }) (va_Pc [.ref (N0 + 11), .ref (N0 + 150)] (fP N0 D vwCl (fty cI cC cL cD cII cTr cTm cIt cB) (fen ql) F n)) (fQv N0 D vwCl (fty cI cC cL cD cII cTr cTm cIt cB) (fun (_ : Unit) => True) (fun _ => (fu (fu F (N0 + 12) (.inl (cC, 160, .inl (upd (fun _ => 0) 0 97)))) (N0 + 11) (.inr (2, [.ref (N0 + 12), .int 1])))) (fun _ => n)) 0 0 (fA N0) := by
  refine fx_start 5 rfl rfl (Nat.le_of_ble_eq_true rfl) ?_ rfl
  intro p e s m below meth c ls S hr hlocks hin hG hl
  have hl : lv_has ls 5 [(0, .ref (N0 + 11)), (1, .ref (N0 + 150))] := hl
  have lt_h0 := hG.1.lt h0
  have lt_h1 := hG.1.lt h1
  have lt_h2 := hG.1.lt h2
  have lt_h3 := hG.1.lt h3
  have lt_h4 := hG.1.lt h4
  have lt_h5 := hG.1.lt h5
  refine lv_iconst (v := 0) S.1 S.2.1 dX0_appendTree_0 (by decide) ?_
  refine lv_istore_n (lv' := [(2, .int 0), (0, .ref (N0 + 11)), (1, .ref (N0 + 150))]) S.1 S.2.1 dX0_appendTree_1 rfl hl (by decide) rfl (fun ls hl => ?_)
  refine lv_iconst (v := 0) S.1 S.2.1 dX0_appendTree_2 (by decide) ?_
  refine lv_istore_n (lv' := [(3, .int 0), (2, .int 0), (0, .ref (N0 + 11)), (1, .ref (N0 + 150))]) S.1 S.2.1 dX0_appendTree_3 rfl hl (by decide) rfl (fun ls hl => ?_)
  refine lv_iload_n S.1 S.2.1 dX0_appendTree_4 rfl (lv_at hl 0 rfl) ?_
  refine lv_aload_n S.1 S.2.1 dX0_appendTree_5 rfl (lv_at hl 3 rfl) ?_
  refine gx_get (C := RX5) (T := TX5) (N := 7) S hG h0 i_X0_appendTree_X5 rfl 6 (by decide) (by decide +kernel) rfl dX0_appendTree_6 ?_
  refine lv_icmp_ge (tgt := 54) S.1 S.2.1 dX0_appendTree_9 (by decide) (fun c => absurd c (by decide)) (fun _ => ?_)
  refine lv_aload_n S.1 S.2.1 dX0_appendTree_12 rfl (lv_at hl 3 rfl) ?_
  refine lv_iload_n S.1 S.2.1 dX0_appendTree_13 rfl (lv_at hl 0 rfl) ?_
  refine fx_cVi (As := [.int 0]) (rest := []) S hG (k1617_X5_depthOf (by omega)) h0 rfl (cwV 1 S.2.2.2.2 gX0_appendTree_X5_depthOf rfl rfl rfl (by decide +kernel) ⟨Nat.le_of_ble_eq_true rfl, Nat.le_of_ble_eq_true rfl⟩) rfl hl.1 rfl (Nat.le_of_ble_eq_true rfl) dX0_appendTree_14 ⟨Nat.le_of_ble_eq_true rfl, Nat.le_of_ble_eq_true rfl⟩ (fun rv_1 _ H locs hp hG => ?_)
  subst rv_1
  refine lv_istore (lv' := [(4, .int 0), (3, .int 0), (2, .int 0), (0, .ref (N0 + 11)), (1, .ref (N0 + 150))]) S.1 S.2.1 dX0_appendTree_17 hl (by decide) rfl (fun ls hl => ?_)
  refine lv_iload S.1 S.2.1 dX0_appendTree_19 (lv_at hl 0 rfl) ?_
  refine lv_iload_n S.1 S.2.1 dX0_appendTree_21 rfl (lv_at hl 2 rfl) ?_
  refine lv_icmp_le (tgt := 31) S.1 S.2.1 dX0_appendTree_22 (by decide) (fun _ => ?_) (fun c => absurd (by decide) c)
  refine lv_aload_n S.1 S.2.1 dX0_appendTree_31 rfl (lv_at hl 3 rfl) ?_
  refine lv_iload_n S.1 S.2.1 dX0_appendTree_32 rfl (lv_at hl 2 rfl) ?_
  refine lv_iload S.1 S.2.1 dX0_appendTree_33 (lv_at hl 0 rfl) ?_
  refine lv_isub S.1 S.2.1 dX0_appendTree_35 ?_
  refine fx_topi (y := 0) (by decide) ?_
  refine fx_cVv (As := [.int 0]) (rest := []) S hG (k1589_X0_appendClosings (by omega)) h1 rfl (cwV 1 S.2.2.2.2 gX0_appendTree_X0_appendClosings rfl rfl rfl (by decide +kernel) ⟨Nat.le_of_ble_eq_true rfl, Nat.le_of_ble_eq_true rfl⟩) rfl hl.1 rfl (Nat.le_of_ble_eq_true rfl) dX0_appendTree_36 ⟨Nat.le_of_ble_eq_true rfl, Nat.le_of_ble_eq_true rfl⟩ (fun _ H locs hp hG => ?_)
  refine lv_aload_n S.1 S.2.1 dX0_appendTree_39 rfl (lv_at hl 3 rfl) ?_
  refine lv_aload_n S.1 S.2.1 dX0_appendTree_40 rfl (lv_at hl 4 rfl) ?_
  refine lv_iload_n S.1 S.2.1 dX0_appendTree_41 rfl (lv_at hl 1 rfl) ?_
  refine fx_cVv (As := [.ref (N0 + 150), .int 0]) (rest := []) S hG (k1618_X0_appendHead (by omega) h0 h2 h1 h3 h4 h5) h1 rfl (cwV 2 S.2.2.2.2 gX0_appendTree_X0_appendHead rfl rfl rfl (by decide +kernel) ⟨Nat.le_of_ble_eq_true rfl, Nat.le_of_ble_eq_true rfl⟩) rfl hl.1 rfl (Nat.le_of_ble_eq_true rfl) dX0_appendTree_42 ⟨Nat.le_of_ble_eq_true rfl, Nat.le_of_ble_eq_true rfl⟩ (fun _ H locs hp hG => ?_)
  refine lv_iload S.1 S.2.1 dX0_appendTree_45 (lv_at hl 0 rfl) ?_
  refine lv_istore_n (lv' := [(2, .int 0), (4, .int 0), (3, .int 0), (0, .ref (N0 + 11)), (1, .ref (N0 + 150))]) S.1 S.2.1 dX0_appendTree_47 rfl hl (by decide) rfl (fun ls hl => ?_)
  refine lv_iinc (v := 1) (lv' := [(3, .int 1), (2, .int 0), (4, .int 0), (0, .ref (N0 + 11)), (1, .ref (N0 + 150))]) S.1 S.2.1 dX0_appendTree_48 hl (k := 2) rfl (by decide) (by decide) rfl (fun ls hl => ?_)
  refine lv_goto (tgt := 4) S.1 S.2.1 dX0_appendTree_51 (by decide) ?_
  refine lv_iload_n S.1 S.2.1 dX0_appendTree_4 rfl (lv_at hl 0 rfl) ?_
  refine lv_aload_n S.1 S.2.1 dX0_appendTree_5 rfl (lv_at hl 4 rfl) ?_
  refine gx_get (C := RX5) (T := TX5) (N := 7) S hG (fu_at (by omega) (fu_at (by omega) h0)) i_X0_appendTree_X5 rfl 6 (by decide) (by decide +kernel) rfl dX0_appendTree_6 ?_
  refine lv_icmp_ge (tgt := 54) S.1 S.2.1 dX0_appendTree_9 (by decide) (fun _ => ?_) (fun c => absurd (by decide) c)
  refine lv_aload_n S.1 S.2.1 dX0_appendTree_54 rfl (lv_at hl 3 rfl) ?_
  refine lv_iload_n S.1 S.2.1 dX0_appendTree_55 rfl (lv_at hl 1 rfl) ?_
  refine fx_cVv (As := [.int 0]) (rest := []) S hG (k1589_X0_appendClosings (by omega)) fu_s rfl (cwV 1 S.2.2.2.2 gX0_appendTree_X0_appendClosings rfl rfl rfl (by decide +kernel) ⟨Nat.le_of_ble_eq_true rfl, Nat.le_of_ble_eq_true rfl⟩) rfl hl.1 rfl (Nat.le_of_ble_eq_true rfl) dX0_appendTree_56 ⟨Nat.le_of_ble_eq_true rfl, Nat.le_of_ble_eq_true rfl⟩ (fun _ H locs hp hG => ?_)
  exact fx_vret S hr hlocks () hG trivial dX0_appendTree_59
theorem k1620_X7_writeTree {n : Nat} (hn : N0 + 231 ≤ n) (h0 : F N0 = some (.inr (9, [.ref (N0 + 1), .ref (N0 + 2), .ref (N0 + 11), .ref (N0 + 13), .ref (N0 + 63), .ref (N0 + 65), .ref (N0 + 85), .int (-1), .int (-1), .int 32]))) (h1 : F (N0 + 1) = some (.inl (cTr, 3, .inr (.inr (.inr (.inr (va_up (va_up (va_up (fun _ => none) 0 (some (N0 + 143))) 1 (some (N0 + 150))) 2 (some (N0 + 157))))))))) (h2 : F (N0 + 11) = some (.inr (2, [.ref (N0 + 12), .int 0]))) (h3 : F (N0 + 150) = some (.inr (7, [.ref (N0 + 151), .ref (N0 + 152), .ref (N0 + 153), .ref (N0 + 154), .ref (N0 + 155), .ref (N0 + 156), .int 1]))) (h4 : F (N0 + 151) = some (.inl (cC, 20, .inl (upd (fun _ => 0) 0 97)))) (h5 : F (N0 + 12) = some (.inl (cC, 160, .inl (fun _ => 0)))) (h6 : F (N0 + 152) = some (.inl (cI, 20, .inl (fun _ => 0)))) (h7 : F (N0 + 153) = some (.inl (cI, 20, .inl (fun _ => 0)))) : Met l yX7_writeTree wsX7_writeTree ({ frames := 3, cells := 0, slots := 0, locals := 67 }) (va_Pc [.ref N0, .int 1] (fP N0 D vwCl (fty cI cC cL cD cII cTr cTm cIt cB) (fen ql) F n)) (fQi N0 D vwCl (fty cI cC cL cD cII cTr cTm cIt cB) (fun (r : Int32) (_ : Unit) => r = 1) (fun _ => (fu (fu F (N0 + 12) (.inl (cC, 160, .inl (upd (fun _ => 0) 0 97)))) (N0 + 11) (.inr (2, [.ref (N0 + 12), .int 1])))) (fun _ => n)) 0 0 (fA N0) := by
  refine fx_start 3 rfl rfl (Nat.le_of_ble_eq_true rfl) ?_ rfl
  intro p e s m below meth c ls S hr hlocks hin hG hl
  have hl : lv_has ls 3 [(0, .ref N0), (1, .int 1)] := hl
  have lt_h0 := hG.1.lt h0
  have lt_h1 := hG.1.lt h1
  have lt_h2 := hG.1.lt h2
  have lt_h3 := hG.1.lt h3
  have lt_h4 := hG.1.lt h4
  have lt_h5 := hG.1.lt h5
  have lt_h6 := hG.1.lt h6
  have lt_h7 := hG.1.lt h7
  refine lv_aload_n S.1 S.2.1 dX7_writeTree_0 rfl (lv_at hl 0 rfl) ?_
  refine lv_iload_n S.1 S.2.1 dX7_writeTree_1 rfl (lv_at hl 1 rfl) ?_
  refine fx_cVr (As := [.int 1]) (rest := []) S hG (k42_X7_treeAt (by omega) h0 h1) h0 rfl (cwV 1 S.2.2.2.2 gX7_writeTree_X7_treeAt rfl rfl rfl (by decide +kernel) ⟨Nat.le_of_ble_eq_true rfl, Nat.le_of_ble_eq_true rfl⟩) rfl hl.1 rfl (Nat.le_of_ble_eq_true rfl) dX7_writeTree_2 ⟨Nat.le_of_ble_eq_true rfl, Nat.le_of_ble_eq_true rfl⟩ (fun rv_1 _ H locs hp hG => ?_)
  subst rv_1
  refine lv_astore_n (lv' := [(2, .ref (N0 + 150)), (0, .ref N0), (1, .int 1)]) S.1 S.2.1 dX7_writeTree_5 rfl hl (by decide) rfl (fun ls hl => ?_)
  refine lv_aload_n S.1 S.2.1 dX7_writeTree_6 rfl (lv_at hl 1 rfl) ?_
  refine gx_get (C := RX7) (T := TX7) (N := 10) S hG h0 i_X7_writeTree_X7 rfl 2 (by decide) (by decide +kernel) rfl dX7_writeTree_7 ?_
  refine lv_iconst (v := 0) S.1 S.2.1 dX7_writeTree_10 (by decide) ?_
  refine gx_put (C := RX0) (T := TX0) (N := 2) (ty := .int) (v := .int 0) (fs' := [.ref (N0 + 12), .int 0]) S hG h2 i_X7_writeTree_X0 rfl 1 (by decide) tyX0 tyX0_ok nmX0 (by decide +kernel) rfl (by decide +kernel) rfl rfl (Nat.le_of_ble_eq_true rfl) rfl dX7_writeTree_11 (fun H locs hG => ?_)
  refine lv_aload_n S.1 S.2.1 dX7_writeTree_14 rfl (lv_at hl 1 rfl) ?_
  refine gx_get (C := RX7) (T := TX7) (N := 10) S hG (fu_at (by omega) h0) i_X7_writeTree_X7 rfl 2 (by decide) (by decide +kernel) rfl dX7_writeTree_15 ?_
  refine lv_aload_n S.1 S.2.1 dX7_writeTree_18 rfl (lv_at hl 0 rfl) ?_
  refine fx_cVv (As := [.ref (N0 + 150)]) (rest := []) S hG (k1619_X0_appendTree (by omega) (fu_at (by omega) h3) fu_s (fu_at (by omega) h4) (fu_at (by omega) h5) (fu_at (by omega) h6) (fu_at (by omega) h7)) fu_s rfl (cwV 1 S.2.2.2.2 gX7_writeTree_X0_appendTree rfl rfl rfl (by decide +kernel) ⟨Nat.le_of_ble_eq_true rfl, Nat.le_of_ble_eq_true rfl⟩) rfl hl.1 rfl (Nat.le_of_ble_eq_true rfl) dX7_writeTree_19 ⟨Nat.le_of_ble_eq_true rfl, Nat.le_of_ble_eq_true rfl⟩ (fun _ H locs hp hG => ?_)
  refine lv_aload_n S.1 S.2.1 dX7_writeTree_22 rfl (lv_at hl 1 rfl) ?_
  refine gx_get (C := RX7) (T := TX7) (N := 10) S hG (fu_at (by omega) (fu_at (by omega) (fu_at (by omega) h0))) i_X7_writeTree_X7 rfl 2 (by decide) (by decide +kernel) rfl dX7_writeTree_23 ?_
  refine gx_get (C := RX0) (T := TX0) (N := 2) S hG fu_s i_X7_writeTree_X0 rfl 1 (by decide) (by decide +kernel) rfl dX7_writeTree_26 ?_
  have hG : fG N0 D vwCl (fty cI cC cL cD cII cTr cTm cIt cB) (fen ql) s (fu (fu F (N0 + 12) (.inl (cC, 160, .inl (upd (fun _ => 0) 0 97)))) (N0 + 11) (.inr (2, [.ref (N0 + 12), .int 1]))) n H locs := hG.weak (fun a e h => by
    rcases fu_cases h with ⟨rfl, he⟩ | ⟨hne0, h⟩
    · cases he; exact fu_s
    · skip
      rcases fu_cases h with ⟨rfl, he⟩ | ⟨hne1, h⟩
      · cases he; exact (fu_at (by omega) fu_s)
      · exact (fu_at (by omega) (fu_at (by omega) (fu_at (by omega) h))))
  exact fx_iret S hr hlocks () hG (rfl) dX7_writeTree_29
theorem k1621_L_writeTree {n : Nat} (hn : N0 + 231 ≤ n) (h0 : F N0 = some (.inr (9, [.ref (N0 + 1), .ref (N0 + 2), .ref (N0 + 11), .ref (N0 + 13), .ref (N0 + 63), .ref (N0 + 65), .ref (N0 + 85), .int (-1), .int (-1), .int 32]))) (h1 : F (N0 + 1) = some (.inl (cTr, 3, .inr (.inr (.inr (.inr (va_up (va_up (va_up (fun _ => none) 0 (some (N0 + 143))) 1 (some (N0 + 150))) 2 (some (N0 + 157))))))))) (h2 : F (N0 + 11) = some (.inr (2, [.ref (N0 + 12), .int 0]))) (h3 : F (N0 + 150) = some (.inr (7, [.ref (N0 + 151), .ref (N0 + 152), .ref (N0 + 153), .ref (N0 + 154), .ref (N0 + 155), .ref (N0 + 156), .int 1]))) (h4 : F (N0 + 151) = some (.inl (cC, 20, .inl (upd (fun _ => 0) 0 97)))) (h5 : F (N0 + 12) = some (.inl (cC, 160, .inl (fun _ => 0)))) (h6 : F (N0 + 152) = some (.inl (cI, 20, .inl (fun _ => 0)))) (h7 : F (N0 + 153) = some (.inl (cI, 20, .inl (fun _ => 0)))) (h8 : F (N0 + 229) = some (.inl (cL, 1, .inr (.inl (fun _ => 0))))) : Met l yL_writeTree wsL_writeTree ({ frames := 4, cells := 0, slots := 0, locals := 89 }) (va_Pc [.ref N0, .int 1, .ref (N0 + 229)] (fP N0 D vwCl (fty cI cC cL cD cII cTr cTm cIt cB) (fen ql) F n)) (fQi N0 D vwCl (fty cI cC cL cD cII cTr cTm cIt cB) (fun (r : Int32) (_ : Unit) => r = 0) (fun _ => (fu (fu (fu F (N0 + 12) (.inl (cC, 160, .inl (upd (fun _ => 0) 0 97)))) (N0 + 11) (.inr (2, [.ref (N0 + 12), .int 1]))) (N0 + 229) (.inl (cL, 1, .inr (.inl (vp_updL (fun _ => 0) 0 1)))))) (fun _ => n)) 0 0 (fA N0) := by
  refine fx_startW (hh := [(0, 9, 12, 19)]) 4 rfl rfl (Nat.le_of_ble_eq_true rfl) ?_ rfl
  intro p e s m below meth c ls S htab hr hlocks hG hl
  have hl : lv_has ls 4 [(0, .ref N0), (1, .int 1), (2, .ref (N0 + 229))] := hl
  have lt_h0 := hG.1.lt h0
  have lt_h1 := hG.1.lt h1
  have lt_h2 := hG.1.lt h2
  have lt_h3 := hG.1.lt h3
  have lt_h4 := hG.1.lt h4
  have lt_h5 := hG.1.lt h5
  have lt_h6 := hG.1.lt h6
  have lt_h7 := hG.1.lt h7
  have lt_h8 := hG.1.lt h8
  refine lv_aload_n S.1 S.2.1 dL_writeTree_0 rfl (lv_at hl 2 rfl) ?_
  refine lv_iconst (v := 0) S.1 S.2.1 dL_writeTree_1 (by decide) ?_
  refine lv_aload_n S.1 S.2.1 dL_writeTree_2 rfl (lv_at hl 0 rfl) ?_
  refine lv_iload_n S.1 S.2.1 dL_writeTree_3 rfl (lv_at hl 1 rfl) ?_
  refine fx_cVi (As := [.int 1]) (rest := [.int 0, .ref (N0 + 229)]) S hG (k1620_X7_writeTree (by omega) h0 h1 h2 h3 h4 h5 h6 h7) h0 rfl (cwV 1 S.2.2.2.2 gL_writeTree_X7_writeTree rfl rfl rfl (by decide +kernel) ⟨Nat.le_of_ble_eq_true rfl, Nat.le_of_ble_eq_true rfl⟩) rfl hl.1 rfl (Nat.le_of_ble_eq_true rfl) dL_writeTree_4 ⟨Nat.le_of_ble_eq_true rfl, Nat.le_of_ble_eq_true rfl⟩ (fun rv_1 _ H locs hp hG => ?_)
  subst rv_1
  refine lv_i2l (v := 1) S.1 S.2.1 dL_writeTree_7 (by decide) ?_
  refine gx_last (f' := vp_updL (fun _ => 0) 0 1) S hG 2 (fu_at (by omega) (fu_at (by omega) h8)) rfl (fin_l (by decide)) dL_writeTree_8 rfl (fun H locs hG => ?_)
  refine lv_goto (tgt := 15) S.1 S.2.1 dL_writeTree_9 (by decide) ?_
  refine lv_iconst (v := 0) S.1 S.2.1 dL_writeTree_15 (by decide) ?_
  exact fx_iret S hr hlocks () hG (rfl) dL_writeTree_16
theorem k1622_X10_writes {n b1 : Nat} (hn : N0 + 231 ≤ n) (hb1 : N0 + 231 ≤ b1) (h0 : F (N0 + 171) = some (.inr (11, [.ref (N0 + 172), .ref (N0 + 173), .ref (N0 + 174), .ref (N0 + 175), .int 1]))) (h1 : F (N0 + 172) = some (.inl (cI, 20, .inl (upd (fun _ => 0) 0 97)))) (h2 : F b1 = some (.inr (1, [.ref (b1 + 1), .int 0, .int 0, .int 0]))) (h3 : F (b1 + 1) = some (.inl (cB, 16, .inl (fun _ => 0)))) (h4 : F (N0 + 173) = some (.inl (cI, 20, .inl (upd (fun _ => 0) 0 0)))) (h5 : F (N0 + 174) = some (.inl (cI, 20, .inl (upd (fun _ => 0) 0 0)))) : Met l yX10_writes wsX10_writes ({ frames := 3, cells := 0, slots := 0, locals := 64 }) (va_Pc [.ref (N0 + 164), .ref (N0 + 171), .int 0, .ref b1] (fP N0 D vwCl (fty cI cC cL cD cII cTr cTm cIt cB) (fen ql) F n)) (fQv N0 D vwCl (fty cI cC cL cD cII cTr cTm cIt cB) (fun (_ : Unit) => True) (fun _ => (fu (fu F b1 (.inr (1, [.ref (b1 + 1), .int 0, .int 0, .int 1]))) (b1 + 1) (.inl (cB, 16, .inl (upd (fun _ => 0) 0 97))))) (fun _ => n)) 0 0 (fA N0) := by
  refine fx_start 8 rfl rfl (Nat.le_of_ble_eq_true rfl) ?_ rfl
  intro p e s m below meth c ls S hr hlocks hin hG hl
  have hl : lv_has ls 8 [(0, .ref (N0 + 164)), (1, .ref (N0 + 171)), (2, .int 0), (3, .ref b1)] := hl
  have lt_h0 := hG.1.lt h0
  have lt_h1 := hG.1.lt h1
  have lt_h2 := hG.1.lt h2
  have lt_h3 := hG.1.lt h3
  have lt_h4 := hG.1.lt h4
  have lt_h5 := hG.1.lt h5
  refine lv_aload_n S.1 S.2.1 dX10_writes_0 rfl (lv_at hl 3 rfl) ?_
  refine lv_aload_n S.1 S.2.1 dX10_writes_1 rfl (lv_at hl 1 rfl) ?_
  refine gx_getN (C := RX9) (T := TX9) (N := 5) S hG h0 i_X10_writes_X9 rfl 0 (by decide) (List.mem_of_getElem? (i := 1) rfl) rfl dX10_writes_2 ?_
  refine lv_iload_n S.1 S.2.1 dX10_writes_5 rfl (lv_at hl 2 rfl) ?_
  refine gx_iald (v := 97) S hG 0 h1 rfl (fin_l (by decide)) (by decide) dX10_writes_6 ?_
  refine lv_i2c (v := 97) S.1 S.2.1 dX10_writes_7 (by decide) ?_
  refine fx_cVr (As := [.int 97]) (rest := []) S hG (k1601_J4_append_cf468 (by omega) (by omega) h2 h3) h2 rfl (cwV 1 S.2.2.2.2 gX10_writes_J4_append_cf468 rfl rfl rfl (by decide +kernel) ⟨Nat.le_of_ble_eq_true rfl, Nat.le_of_ble_eq_true rfl⟩) rfl hl.1 rfl (Nat.le_of_ble_eq_true rfl) dX10_writes_8 ⟨Nat.le_of_ble_eq_true rfl, Nat.le_of_ble_eq_true rfl⟩ (fun rv_1 _ H locs hp hG => ?_)
  subst rv_1
  refine lv_pop S.1 S.2.1 dX10_writes_11 rfl ?_
  refine lv_aload_n S.1 S.2.1 dX10_writes_12 rfl (lv_at hl 1 rfl) ?_
  refine gx_getN (C := RX9) (T := TX9) (N := 5) S hG (fu_at (by omega) (fu_at (by omega) h0)) i_X10_writes_X9 rfl 1 (by decide) (List.mem_of_getElem? (i := 2) rfl) rfl dX10_writes_13 ?_
  refine lv_iload_n S.1 S.2.1 dX10_writes_16 rfl (lv_at hl 2 rfl) ?_
  refine gx_iald (v := 0) S hG 0 (fu_at (by omega) (fu_at (by omega) h4)) rfl (fin_l (by decide)) (by decide) dX10_writes_17 ?_
  refine lv_if_le (tgt := 37) S.1 S.2.1 dX10_writes_18 (by decide) (fun _ => ?_) (fun c => absurd (by decide) c)
  refine lv_aload_n S.1 S.2.1 dX10_writes_37 rfl (lv_at hl 1 rfl) ?_
  refine gx_getN (C := RX9) (T := TX9) (N := 5) S hG (fu_at (by omega) (fu_at (by omega) h0)) i_X10_writes_X9 rfl 2 (by decide) (List.mem_of_getElem? (i := 3) rfl) rfl dX10_writes_38 ?_
  refine lv_iload_n S.1 S.2.1 dX10_writes_41 rfl (lv_at hl 2 rfl) ?_
  refine gx_iald (v := 0) S hG 0 (fu_at (by omega) (fu_at (by omega) h5)) rfl (fin_l (by decide)) (by decide) dX10_writes_42 ?_
  refine lv_if_le (tgt := 62) S.1 S.2.1 dX10_writes_43 (by decide) (fun _ => ?_) (fun c => absurd (by decide) c)
  refine lv_aload_n S.1 S.2.1 dX10_writes_62 rfl (lv_at hl 1 rfl) ?_
  refine lv_iload_n S.1 S.2.1 dX10_writes_63 rfl (lv_at hl 2 rfl) ?_
  refine fx_cVNi (host := "TreeDifferModel") (As := [.int 0]) (rest := []) S hG (k150_X9_many (by omega) (fu_at (by omega) (fu_at (by omega) h0))) (fu_at (by omega) (fu_at (by omega) h0)) rfl ⟨(va_cnB 1 S.2.2.2.2 gX10_writes_X9_many_n170 rfl rfl rfl (hG.nest (show _ ∈ fen2.2.2.1 from by decide)) (S.2.2.2.2 (.initialized RX9) (by decide +kernel)) (by decide +kernel) ⟨Nat.le_of_ble_eq_true rfl, Nat.le_of_ble_eq_true rfl⟩), S.2.2.2.2 (.instanceMethod yX9_many) (by decide +kernel), S.2.2.2.2 (.selects RX9 yX9_many yX9_many) (by decide +kernel)⟩ rfl hl.1 rfl (Nat.le_of_ble_eq_true rfl) dX10_writes_64 ⟨Nat.le_of_ble_eq_true rfl, Nat.le_of_ble_eq_true rfl⟩ (fun rv_2 _ H locs hp hG => ?_)
  subst rv_2
  refine lv_if_ne (tgt := 71) S.1 S.2.1 dX10_writes_67 (by decide) (fun c => absurd (by decide) c) (fun _ => ?_)
  exact fx_vret S hr hlocks () hG trivial dX10_writes_70
theorem k1623_X10_writeTree {n : Nat} (hn : N0 + 231 ≤ n) (h0 : F (N0 + 164) = some (.inr (12, [.ref (N0 + 165), .int 0, .ref (N0 + 181), .int 0, .int 0, .int 0, .int (-1), .ref (ql 24), .ref (N0 + 182), .ref (N0 + 187), .ref (N0 + 208), .ref (N0 + 209), .ref (N0 + 210), .ref (N0 + 211), .ref (N0 + 212), .int 0, .ref (N0 + 213), .ref (N0 + 218), .ref (N0 + 223), .ref (N0 + 224), .ref (N0 + 225), .ref (N0 + 226), .ref (N0 + 227), .int 0, .int 0, .ref (N0 + 228), .null, .int (-1), .int 0, .int 0, .int 0]))) (h1 : F (N0 + 165) = some (.inl (cTm, 3, .inr (.inr (.inr (.inr (va_up (va_up (va_up (fun _ => none) 0 (some (N0 + 166))) 1 (some (N0 + 171))) 2 (some (N0 + 176))))))))) (h2 : F (N0 + 171) = some (.inr (11, [.ref (N0 + 172), .ref (N0 + 173), .ref (N0 + 174), .ref (N0 + 175), .int 1]))) (h3 : F (N0 + 172) = some (.inl (cI, 20, .inl (upd (fun _ => 0) 0 97)))) (h4 : F (N0 + 173) = some (.inl (cI, 20, .inl (upd (fun _ => 0) 0 0)))) (h5 : F (N0 + 174) = some (.inl (cI, 20, .inl (upd (fun _ => 0) 0 0)))) : Met l yX10_writeTree wsX10_writeTree ({ frames := 6, cells := 4, slots := 25, locals := 151 }) (va_Pc [.ref (N0 + 164), .int 1] (fP N0 D vwCl (fty cI cC cL cD cII cTr cTm cIt cB) (fen ql) F n)) (fQi N0 D vwCl (fty cI cC cL cD cII cTr cTm cIt cB) (fun (r : Int32) (_ : Unit) => r = 1) (fun _ => (fblk (fu F (N0 + 164) (.inr (12, [.ref (N0 + 165), .int 0, .ref (N0 + 181), .int 0, .int 0, .int 0, .int (-1), .ref (n + 2), .ref (N0 + 182), .ref (N0 + 187), .ref (N0 + 208), .ref (N0 + 209), .ref (N0 + 210), .ref (N0 + 211), .ref (N0 + 212), .int 0, .ref (N0 + 213), .ref (N0 + 218), .ref (N0 + 223), .ref (N0 + 224), .ref (N0 + 225), .ref (N0 + 226), .ref (N0 + 227), .int 0, .int 0, .ref (N0 + 228), .null, .int (-1), .int 0, .int 0, .int 0]))) n [.inr (1, [.ref (n + 1), .int 0, .int 0, .int 1]), .inl (cB, 16, .inl (upd (fun _ => 0) 0 97)), .inr (0, [.ref (n + 3), .int 0, .int 0, .int 0]), .inl (cB, 1, .inl (upd (fun _ => 0) 0 97))])) (fun _ => (n + 4))) 4 25 (fA N0) := by
  refine fx_start 3 rfl rfl (Nat.le_of_ble_eq_true rfl) ?_ rfl
  intro p e s m below meth c ls S hr hlocks hin hG hl
  have hl : lv_has ls 3 [(0, .ref (N0 + 164)), (1, .int 1)] := hl
  have lt_h0 := hG.1.lt h0
  have lt_h1 := hG.1.lt h1
  have lt_h2 := hG.1.lt h2
  have lt_h3 := hG.1.lt h3
  have lt_h4 := hG.1.lt h4
  have lt_h5 := hG.1.lt h5
  refine lv_aload_n S.1 S.2.1 dX10_writeTree_0 rfl (lv_at hl 0 rfl) ?_
  refine lv_iconst (v := 0) S.1 S.2.1 dX10_writeTree_1 (by decide) ?_
  refine gx_put (C := RX10) (T := TX10) (N := 31) (ty := .int) (v := .int 0) (fs' := [.ref (N0 + 165), .int 0, .ref (N0 + 181), .int 0, .int 0, .int 0, .int (-1), .ref (ql 24), .ref (N0 + 182), .ref (N0 + 187), .ref (N0 + 208), .ref (N0 + 209), .ref (N0 + 210), .ref (N0 + 211), .ref (N0 + 212), .int 0, .ref (N0 + 213), .ref (N0 + 218), .ref (N0 + 223), .ref (N0 + 224), .ref (N0 + 225), .ref (N0 + 226), .ref (N0 + 227), .int 0, .int 0, .ref (N0 + 228), .null, .int (-1), .int 0, .int 0, .int 0]) S hG h0 i_X10_writeTree_X10 rfl 1 (by decide) tyX10 tyX10_ok nmX10 (by decide +kernel) rfl (by decide +kernel) rfl rfl (Nat.le_of_ble_eq_true rfl) rfl dX10_writeTree_2 (fun H locs hG => ?_)
  refine lv_iload_n S.1 S.2.1 dX10_writeTree_5 rfl (lv_at hl 1 rfl) ?_
  refine fx_cSi (As := [.int 1]) (rest := []) S hG (k46_X10_isTree (by omega)) (cwS 1 S.2.2.2.2 gX10_writeTree_X10_isTree rfl rfl rfl (by decide +kernel) ⟨Nat.le_of_ble_eq_true rfl, Nat.le_of_ble_eq_true rfl⟩) rfl hl.1 rfl (Nat.le_of_ble_eq_true rfl) dX10_writeTree_6 ⟨Nat.le_of_ble_eq_true rfl, Nat.le_of_ble_eq_true rfl⟩ (fun rv_1 _ H locs hp hG => ?_)
  subst rv_1
  refine lv_if_ne (tgt := 18) S.1 S.2.1 dX10_writeTree_9 (by decide) (fun _ => ?_) (fun c => absurd c (by decide))
  refine gx_new (C := RJ4) (T := TJ4) (N := 4) (ci := 1) (fs := [.null, .int 0, .int 0, .int 0]) S hG i_X10_writeTree_J4 tyJ4 tyJ4_ok rfl (by decide +kernel) (by decide +kernel) (by decide +kernel) (fun j hj => by rcases (show j = 0 ∨ j = 1 ∨ j = 2 ∨ j = 3 by omega) with rfl | rfl | rfl | rfl <;> rfl) (by decide) (by decide) dX10_writeTree_18 (fun H hG => ?_)
  refine W.widen (k := 1) (n := 4) (by decide) (by decide) ?_
  refine lv_dup S.1 S.2.1 dX10_writeTree_21 rfl ?_
  refine fx_cIv (As := []) (rest := [.ref n]) S hG (k1596_J4_init_da8c8 (by omega) (by omega) fu_s) (cwI 0 S.2.2.2.2 gX10_writeTree_J4_init_da8c8 rfl rfl rfl (S.2.2.2.2 (.initialized RJ4) (by decide +kernel)) (S.2.2.2.2 (.methodLink RX10 181 yJ4_init_da8c8) (by decide +kernel)) (S.2.2.2.2 (.instanceMethod yJ4_init_da8c8) (by decide +kernel)) rfl (by decide +kernel) ⟨Nat.le_of_ble_eq_true rfl, Nat.le_of_ble_eq_true rfl⟩) rfl hl.1 rfl (Nat.le_of_ble_eq_true rfl) dX10_writeTree_22 ⟨Nat.le_of_ble_eq_true rfl, Nat.le_of_ble_eq_true rfl⟩ (fun _ H locs hp hG => ?_)
  refine W.widen (k := 2) (n := 20) (by decide) (by decide) ?_
  refine lv_astore_n (lv' := [(2, .ref n), (0, .ref (N0 + 164)), (1, .int 1)]) S.1 S.2.1 dX10_writeTree_25 rfl hl (by decide) rfl (fun ls hl => ?_)
  refine lv_aload_n S.1 S.2.1 dX10_writeTree_26 rfl (lv_at hl 1 rfl) ?_
  refine lv_aload_n S.1 S.2.1 dX10_writeTree_27 rfl (lv_at hl 1 rfl) ?_
  refine gx_get (C := RX10) (T := TX10) (N := 31) S hG (fblk_sk 1 rfl (by omega) (fu_at (by omega) (fu_at (by omega) fu_s))) i_X10_writeTree_X10 rfl 0 (by decide) (by decide +kernel) rfl dX10_writeTree_28 ?_
  refine lv_iload_n S.1 S.2.1 dX10_writeTree_31 rfl (lv_at hl 2 rfl) ?_
  refine gx_aldq (x := (N0 + 171)) S hG 6 rfl (fblk_sk 1 rfl (by omega) (fu_at (by omega) (fu_at (by omega) (fu_at (by omega) h1)))) rfl (fin_l (by decide)) (rfl) dX10_writeTree_32 ?_
  refine lv_iconst (v := 0) S.1 S.2.1 dX10_writeTree_33 (by decide) ?_
  refine lv_aload_n S.1 S.2.1 dX10_writeTree_34 rfl (lv_at hl 0 rfl) ?_
  refine fx_cVv (As := [.ref (N0 + 171), .int 0, .ref n]) (rest := []) S hG (k1622_X10_writes (by omega) (by omega) (fblk_sk 1 rfl (by omega) (fu_at (by omega) (fu_at (by omega) (fu_at (by omega) h2)))) (fblk_sk 1 rfl (by omega) (fu_at (by omega) (fu_at (by omega) (fu_at (by omega) h3)))) (fblk_sk 1 rfl (by omega) fu_s) (fblk_at 0 (by omega) rfl) (fblk_sk 1 rfl (by omega) (fu_at (by omega) (fu_at (by omega) (fu_at (by omega) h4)))) (fblk_sk 1 rfl (by omega) (fu_at (by omega) (fu_at (by omega) (fu_at (by omega) h5))))) (fblk_sk 1 rfl (by omega) (fu_at (by omega) (fu_at (by omega) fu_s))) rfl (cwV 3 S.2.2.2.2 gX10_writeTree_X10_writes rfl rfl rfl (by decide +kernel) ⟨Nat.le_of_ble_eq_true rfl, Nat.le_of_ble_eq_true rfl⟩) rfl hl.1 rfl (Nat.le_of_ble_eq_true rfl) dX10_writeTree_35 ⟨Nat.le_of_ble_eq_true rfl, Nat.le_of_ble_eq_true rfl⟩ (fun _ H locs hp hG => ?_)
  refine lv_aload_n S.1 S.2.1 dX10_writeTree_38 rfl (lv_at hl 1 rfl) ?_
  refine lv_aload_n S.1 S.2.1 dX10_writeTree_39 rfl (lv_at hl 0 rfl) ?_
  refine fx_cVr (As := []) (rest := [.ref (N0 + 164)]) S hG (k1612_J4_toString_0e30d (by omega) (by omega) (fu_at (by omega) fu_s) fu_s) (fu_at (by omega) fu_s) rfl (cwV 0 S.2.2.2.2 gX10_writeTree_J4_toString_0e30d rfl rfl rfl (by decide +kernel) ⟨Nat.le_of_ble_eq_true rfl, Nat.le_of_ble_eq_true rfl⟩) rfl hl.1 rfl (Nat.le_of_ble_eq_true rfl) dX10_writeTree_40 ⟨Nat.le_of_ble_eq_true rfl, Nat.le_of_ble_eq_true rfl⟩ (fun rv_4 _ H locs hp hG => ?_)
  subst rv_4
  refine W.widen (k := 4) (n := 25) (by decide) (by decide) ?_
  refine gx_put (C := RX10) (T := TX10) (N := 31) (ty := (.object "java/lang/String")) (v := .ref (n + 2)) (fs' := [.ref (N0 + 165), .int 0, .ref (N0 + 181), .int 0, .int 0, .int 0, .int (-1), .ref (n + 2), .ref (N0 + 182), .ref (N0 + 187), .ref (N0 + 208), .ref (N0 + 209), .ref (N0 + 210), .ref (N0 + 211), .ref (N0 + 212), .int 0, .ref (N0 + 213), .ref (N0 + 218), .ref (N0 + 223), .ref (N0 + 224), .ref (N0 + 225), .ref (N0 + 226), .ref (N0 + 227), .int 0, .int 0, .ref (N0 + 228), .null, .int (-1), .int 0, .int 0, .int 0]) S hG (fblk_sk 2 rfl (by omega) (fu_at (by omega) (fu_at (by omega) (fblk_sk 1 rfl (by omega) (fu_at (by omega) (fu_at (by omega) fu_s)))))) i_X10_writeTree_X10 rfl 7 (by decide) tyX10 tyX10_ok nmX10 (by decide +kernel) rfl (by decide +kernel) rfl rfl (Nat.le_of_ble_eq_true rfl) rfl dX10_writeTree_43 (fun H locs hG => ?_)
  refine lv_aload_n S.1 S.2.1 dX10_writeTree_46 rfl (lv_at hl 1 rfl) ?_
  refine gx_get (C := RX10) (T := TX10) (N := 31) S hG fu_s i_X10_writeTree_X10 rfl 7 (by decide) (by decide +kernel) rfl dX10_writeTree_47 ?_
  refine fx_cVi (As := []) (rest := []) S hG (k1614_J0_length_8abf5 (by omega) (by omega) (fu_at (by omega) (fblk_at 0 (by omega) rfl)) (fu_at (by omega) (fblk_at 1 (by omega) rfl))) (fu_at (by omega) (fblk_at 0 (by omega) rfl)) rfl (cwV 0 S.2.2.2.2 gX10_writeTree_J0_length_8abf5 rfl rfl rfl (by decide +kernel) ⟨Nat.le_of_ble_eq_true rfl, Nat.le_of_ble_eq_true rfl⟩) rfl hl.1 rfl (Nat.le_of_ble_eq_true rfl) dX10_writeTree_50 ⟨Nat.le_of_ble_eq_true rfl, Nat.le_of_ble_eq_true rfl⟩ (fun rv_5 _ H locs hp hG => ?_)
  subst rv_5
  have hG : fG N0 D vwCl (fty cI cC cL cD cII cTr cTm cIt cB) (fen ql) s (fblk (fu F (N0 + 164) (.inr (12, [.ref (N0 + 165), .int 0, .ref (N0 + 181), .int 0, .int 0, .int 0, .int (-1), .ref (n + 2), .ref (N0 + 182), .ref (N0 + 187), .ref (N0 + 208), .ref (N0 + 209), .ref (N0 + 210), .ref (N0 + 211), .ref (N0 + 212), .int 0, .ref (N0 + 213), .ref (N0 + 218), .ref (N0 + 223), .ref (N0 + 224), .ref (N0 + 225), .ref (N0 + 226), .ref (N0 + 227), .int 0, .int 0, .ref (N0 + 228), .null, .int (-1), .int 0, .int 0, .int 0]))) n [.inr (1, [.ref (n + 1), .int 0, .int 0, .int 1]), .inl (cB, 16, .inl (upd (fun _ => 0) 0 97)), .inr (0, [.ref (n + 3), .int 0, .int 0, .int 0]), .inl (cB, 1, .inl (upd (fun _ => 0) 0 97))]) (n + 4) H locs := hG.weak (fun a e h => by
    rcases fblk_cases 4 rfl h with ⟨k, rfl, hlt, hk⟩ | ⟨hout, h⟩
    · rcases (show k = 0 ∨ k = 1 ∨ k = 2 ∨ k = 3 by omega) with rfl | rfl | rfl | rfl
      · cases (show some (.inr (1, [.ref (n + 1), .int 0, .int 0, .int 1])) = some e from hk); exact (fu_at (by omega) (fblk_sk 2 rfl (by omega) (fu_at (by omega) fu_s)))
      · cases (show some (.inl (cB, 16, .inl (upd (fun _ => 0) 0 97))) = some e from hk); exact (fu_at (by omega) (fblk_sk 2 rfl (by omega) fu_s))
      · cases (show some (.inr (0, [.ref (n + 3), .int 0, .int 0, .int 0])) = some e from hk); exact (fu_at (by omega) (fblk_at 0 (by omega) rfl))
      · cases (show some (.inl (cB, 1, .inl (upd (fun _ => 0) 0 97))) = some e from hk); exact (fu_at (by omega) (fblk_at 1 (by omega) rfl))
    · rcases fu_cases h with ⟨rfl, he⟩ | ⟨hne0, h⟩
      · cases he; exact fu_s
      · exact (fu_at (by omega) (fblk_sk 2 rfl (by omega) (fu_at (by omega) (fu_at (by omega) (fblk_sk 1 rfl (by omega) (fu_at (by omega) (fu_at (by omega) (fu_at (by omega) h)))))))))
  exact fx_iret S hr hlocks () hG (rfl) dX10_writeTree_53
theorem k1624_X5_depthOf {n : Nat} (hn : N0 + 231 ≤ n)  : Met l yX5_depthOf wsX5_depthOf ({ frames := 0, cells := 0, slots := 0, locals := 0 }) (va_Pc [.ref (N0 + 157), .int 0] (fP N0 D vwCl (fty cI cC cL cD cII cTr cTm cIt cB) (fen ql) F n)) (fQi N0 D vwCl (fty cI cC cL cD cII cTr cTm cIt cB) (fun (r : Int32) (_ : Unit) => r = 0) (fun _ => F) (fun _ => n)) 0 0 (fA N0) := by
  refine fx_start 4 rfl rfl (Nat.le_of_ble_eq_true rfl) ?_ rfl
  intro p e s m below meth c ls S hr hlocks hin hG hl
  have hl : lv_has ls 4 [(0, .ref (N0 + 157)), (1, .int 0)] := hl
  refine lv_iconst (v := 0) S.1 S.2.1 dX5_depthOf_0 (by decide) ?_
  refine lv_istore_n (lv' := [(2, .int 0), (0, .ref (N0 + 157)), (1, .int 0)]) S.1 S.2.1 dX5_depthOf_1 rfl hl (by decide) rfl (fun ls hl => ?_)
  refine lv_iload_n S.1 S.2.1 dX5_depthOf_2 rfl (lv_at hl 2 rfl) ?_
  refine lv_istore_n (lv' := [(3, .int 0), (2, .int 0), (0, .ref (N0 + 157)), (1, .int 0)]) S.1 S.2.1 dX5_depthOf_3 rfl hl (by decide) rfl (fun ls hl => ?_)
  refine lv_iload_n S.1 S.2.1 dX5_depthOf_4 rfl (lv_at hl 0 rfl) ?_
  refine lv_if_le (tgt := 27) S.1 S.2.1 dX5_depthOf_5 (by decide) (fun _ => ?_) (fun c => absurd (by decide) c)
  refine lv_iload_n S.1 S.2.1 dX5_depthOf_27 rfl (lv_at hl 1 rfl) ?_
  exact fx_iret S hr hlocks () hG (rfl) dX5_depthOf_28
theorem k1625_X0_appendHead {n : Nat} (hn : N0 + 231 ≤ n) (h0 : F (N0 + 157) = some (.inr (7, [.ref (N0 + 158), .ref (N0 + 159), .ref (N0 + 160), .ref (N0 + 161), .ref (N0 + 162), .ref (N0 + 163), .int 1]))) (h1 : F (N0 + 158) = some (.inl (cC, 20, .inl (upd (fun _ => 0) 0 97)))) (h2 : F (N0 + 11) = some (.inr (2, [.ref (N0 + 12), .int 0]))) (h3 : F (N0 + 12) = some (.inl (cC, 160, .inl (fun _ => 0)))) (h4 : F (N0 + 159) = some (.inl (cI, 20, .inl (fun _ => 0)))) (h5 : F (N0 + 160) = some (.inl (cI, 20, .inl (fun _ => 0)))) : Met l yX0_appendHead wsX0_appendHead ({ frames := 1, cells := 0, slots := 0, locals := 21 }) (va_Pc [.ref (N0 + 11), .ref (N0 + 157), .int 0] (fP N0 D vwCl (fty cI cC cL cD cII cTr cTm cIt cB) (fen ql) F n)) (fQv N0 D vwCl (fty cI cC cL cD cII cTr cTm cIt cB) (fun (_ : Unit) => True) (fun _ => (fu (fu F (N0 + 12) (.inl (cC, 160, .inl (upd (fun _ => 0) 0 97)))) (N0 + 11) (.inr (2, [.ref (N0 + 12), .int 1])))) (fun _ => n)) 0 0 (fA N0) := by
  refine fx_start 3 rfl rfl (Nat.le_of_ble_eq_true rfl) ?_ rfl
  intro p e s m below meth c ls S hr hlocks hin hG hl
  have hl : lv_has ls 3 [(0, .ref (N0 + 11)), (1, .ref (N0 + 157)), (2, .int 0)] := hl
  have lt_h0 := hG.1.lt h0
  have lt_h1 := hG.1.lt h1
  have lt_h2 := hG.1.lt h2
  have lt_h3 := hG.1.lt h3
  have lt_h4 := hG.1.lt h4
  have lt_h5 := hG.1.lt h5
  refine lv_aload_n S.1 S.2.1 dX0_appendHead_0 rfl (lv_at hl 0 rfl) ?_
  refine lv_aload_n S.1 S.2.1 dX0_appendHead_1 rfl (lv_at hl 1 rfl) ?_
  refine gx_get (C := RX5) (T := TX5) (N := 7) S hG h0 i_X0_appendHead_X5 rfl 0 (by decide) (by decide +kernel) rfl dX0_appendHead_2 ?_
  refine lv_iload_n S.1 S.2.1 dX0_appendHead_5 rfl (lv_at hl 2 rfl) ?_
  refine gx_cald (v := 97) S hG 1 h1 rfl (fin_l (by decide)) (by decide) dX0_appendHead_6 ?_
  refine fx_cVv (As := [.int 97]) (rest := []) S hG (k1590_X0_append (by omega) h2 h3) h2 rfl (cwV 1 S.2.2.2.2 gX0_appendHead_X0_append rfl rfl rfl (by decide +kernel) ⟨Nat.le_of_ble_eq_true rfl, Nat.le_of_ble_eq_true rfl⟩) rfl hl.1 rfl (Nat.le_of_ble_eq_true rfl) dX0_appendHead_7 ⟨Nat.le_of_ble_eq_true rfl, Nat.le_of_ble_eq_true rfl⟩ (fun _ H locs hp hG => ?_)
  refine lv_aload_n S.1 S.2.1 dX0_appendHead_10 rfl (lv_at hl 1 rfl) ?_
  refine gx_get (C := RX5) (T := TX5) (N := 7) S hG (fu_at (by omega) (fu_at (by omega) h0)) i_X0_appendHead_X5 rfl 1 (by decide) (by decide +kernel) rfl dX0_appendHead_11 ?_
  refine lv_iload_n S.1 S.2.1 dX0_appendHead_14 rfl (lv_at hl 2 rfl) ?_
  refine gx_iald (v := 0) S hG 0 (fu_at (by omega) (fu_at (by omega) h4)) rfl (fin_l (by decide)) (by decide) dX0_appendHead_15 ?_
  refine lv_if_eq (tgt := 35) S.1 S.2.1 dX0_appendHead_16 (by decide) (fun _ => ?_) (fun c => absurd (by decide) c)
  refine lv_aload_n S.1 S.2.1 dX0_appendHead_35 rfl (lv_at hl 1 rfl) ?_
  refine gx_get (C := RX5) (T := TX5) (N := 7) S hG (fu_at (by omega) (fu_at (by omega) h0)) i_X0_appendHead_X5 rfl 2 (by decide) (by decide +kernel) rfl dX0_appendHead_36 ?_
  refine lv_iload_n S.1 S.2.1 dX0_appendHead_39 rfl (lv_at hl 2 rfl) ?_
  refine gx_iald (v := 0) S hG 0 (fu_at (by omega) (fu_at (by omega) h5)) rfl (fin_l (by decide)) (by decide) dX0_appendHead_40 ?_
  refine lv_if_eq (tgt := 60) S.1 S.2.1 dX0_appendHead_41 (by decide) (fun _ => ?_) (fun c => absurd (by decide) c)
  exact fx_vret S hr hlocks () hG trivial dX0_appendHead_60
theorem k1626_X0_appendTree {n : Nat} (hn : N0 + 231 ≤ n) (h0 : F (N0 + 157) = some (.inr (7, [.ref (N0 + 158), .ref (N0 + 159), .ref (N0 + 160), .ref (N0 + 161), .ref (N0 + 162), .ref (N0 + 163), .int 1]))) (h1 : F (N0 + 11) = some (.inr (2, [.ref (N0 + 12), .int 0]))) (h2 : F (N0 + 158) = some (.inl (cC, 20, .inl (upd (fun _ => 0) 0 97)))) (h3 : F (N0 + 12) = some (.inl (cC, 160, .inl (fun _ => 0)))) (h4 : F (N0 + 159) = some (.inl (cI, 20, .inl (fun _ => 0)))) (h5 : F (N0 + 160) = some (.inl (cI, 20, .inl (fun _ => 0)))) : Met l yX0_appendTree wsX0_appendTree ({ frames := 2, cells := 0, slots := 0, locals := 43 }) (va_Pc [.ref (N0 + 11), .ref (N0 + 157)] (fP N0 D vwCl (fty cI cC cL cD cII cTr cTm cIt cB) (fen ql) F n)) (fQv N0 D vwCl (fty cI cC cL cD cII cTr cTm cIt cB) (fun (_ : Unit) => True) (fun _ => (fu (fu F (N0 + 12) (.inl (cC, 160, .inl (upd (fun _ => 0) 0 97)))) (N0 + 11) (.inr (2, [.ref (N0 + 12), .int 1])))) (fun _ => n)) 0 0 (fA N0) := by
  refine fx_start 5 rfl rfl (Nat.le_of_ble_eq_true rfl) ?_ rfl
  intro p e s m below meth c ls S hr hlocks hin hG hl
  have hl : lv_has ls 5 [(0, .ref (N0 + 11)), (1, .ref (N0 + 157))] := hl
  have lt_h0 := hG.1.lt h0
  have lt_h1 := hG.1.lt h1
  have lt_h2 := hG.1.lt h2
  have lt_h3 := hG.1.lt h3
  have lt_h4 := hG.1.lt h4
  have lt_h5 := hG.1.lt h5
  refine lv_iconst (v := 0) S.1 S.2.1 dX0_appendTree_0 (by decide) ?_
  refine lv_istore_n (lv' := [(2, .int 0), (0, .ref (N0 + 11)), (1, .ref (N0 + 157))]) S.1 S.2.1 dX0_appendTree_1 rfl hl (by decide) rfl (fun ls hl => ?_)
  refine lv_iconst (v := 0) S.1 S.2.1 dX0_appendTree_2 (by decide) ?_
  refine lv_istore_n (lv' := [(3, .int 0), (2, .int 0), (0, .ref (N0 + 11)), (1, .ref (N0 + 157))]) S.1 S.2.1 dX0_appendTree_3 rfl hl (by decide) rfl (fun ls hl => ?_)
  refine lv_iload_n S.1 S.2.1 dX0_appendTree_4 rfl (lv_at hl 0 rfl) ?_
  refine lv_aload_n S.1 S.2.1 dX0_appendTree_5 rfl (lv_at hl 3 rfl) ?_
  refine gx_get (C := RX5) (T := TX5) (N := 7) S hG h0 i_X0_appendTree_X5 rfl 6 (by decide) (by decide +kernel) rfl dX0_appendTree_6 ?_
  refine lv_icmp_ge (tgt := 54) S.1 S.2.1 dX0_appendTree_9 (by decide) (fun c => absurd c (by decide)) (fun _ => ?_)
  refine lv_aload_n S.1 S.2.1 dX0_appendTree_12 rfl (lv_at hl 3 rfl) ?_
  refine lv_iload_n S.1 S.2.1 dX0_appendTree_13 rfl (lv_at hl 0 rfl) ?_
  refine fx_cVi (As := [.int 0]) (rest := []) S hG (k1624_X5_depthOf (by omega)) h0 rfl (cwV 1 S.2.2.2.2 gX0_appendTree_X5_depthOf rfl rfl rfl (by decide +kernel) ⟨Nat.le_of_ble_eq_true rfl, Nat.le_of_ble_eq_true rfl⟩) rfl hl.1 rfl (Nat.le_of_ble_eq_true rfl) dX0_appendTree_14 ⟨Nat.le_of_ble_eq_true rfl, Nat.le_of_ble_eq_true rfl⟩ (fun rv_1 _ H locs hp hG => ?_)
  subst rv_1
  refine lv_istore (lv' := [(4, .int 0), (3, .int 0), (2, .int 0), (0, .ref (N0 + 11)), (1, .ref (N0 + 157))]) S.1 S.2.1 dX0_appendTree_17 hl (by decide) rfl (fun ls hl => ?_)
  refine lv_iload S.1 S.2.1 dX0_appendTree_19 (lv_at hl 0 rfl) ?_
  refine lv_iload_n S.1 S.2.1 dX0_appendTree_21 rfl (lv_at hl 2 rfl) ?_
  refine lv_icmp_le (tgt := 31) S.1 S.2.1 dX0_appendTree_22 (by decide) (fun _ => ?_) (fun c => absurd (by decide) c)
  refine lv_aload_n S.1 S.2.1 dX0_appendTree_31 rfl (lv_at hl 3 rfl) ?_
  refine lv_iload_n S.1 S.2.1 dX0_appendTree_32 rfl (lv_at hl 2 rfl) ?_
  refine lv_iload S.1 S.2.1 dX0_appendTree_33 (lv_at hl 0 rfl) ?_
  refine lv_isub S.1 S.2.1 dX0_appendTree_35 ?_
  refine fx_topi (y := 0) (by decide) ?_
  refine fx_cVv (As := [.int 0]) (rest := []) S hG (k1589_X0_appendClosings (by omega)) h1 rfl (cwV 1 S.2.2.2.2 gX0_appendTree_X0_appendClosings rfl rfl rfl (by decide +kernel) ⟨Nat.le_of_ble_eq_true rfl, Nat.le_of_ble_eq_true rfl⟩) rfl hl.1 rfl (Nat.le_of_ble_eq_true rfl) dX0_appendTree_36 ⟨Nat.le_of_ble_eq_true rfl, Nat.le_of_ble_eq_true rfl⟩ (fun _ H locs hp hG => ?_)
  refine lv_aload_n S.1 S.2.1 dX0_appendTree_39 rfl (lv_at hl 3 rfl) ?_
  refine lv_aload_n S.1 S.2.1 dX0_appendTree_40 rfl (lv_at hl 4 rfl) ?_
  refine lv_iload_n S.1 S.2.1 dX0_appendTree_41 rfl (lv_at hl 1 rfl) ?_
  refine fx_cVv (As := [.ref (N0 + 157), .int 0]) (rest := []) S hG (k1625_X0_appendHead (by omega) h0 h2 h1 h3 h4 h5) h1 rfl (cwV 2 S.2.2.2.2 gX0_appendTree_X0_appendHead rfl rfl rfl (by decide +kernel) ⟨Nat.le_of_ble_eq_true rfl, Nat.le_of_ble_eq_true rfl⟩) rfl hl.1 rfl (Nat.le_of_ble_eq_true rfl) dX0_appendTree_42 ⟨Nat.le_of_ble_eq_true rfl, Nat.le_of_ble_eq_true rfl⟩ (fun _ H locs hp hG => ?_)
  refine lv_iload S.1 S.2.1 dX0_appendTree_45 (lv_at hl 0 rfl) ?_
  refine lv_istore_n (lv' := [(2, .int 0), (4, .int 0), (3, .int 0), (0, .ref (N0 + 11)), (1, .ref (N0 + 157))]) S.1 S.2.1 dX0_appendTree_47 rfl hl (by decide) rfl (fun ls hl => ?_)
  refine lv_iinc (v := 1) (lv' := [(3, .int 1), (2, .int 0), (4, .int 0), (0, .ref (N0 + 11)), (1, .ref (N0 + 157))]) S.1 S.2.1 dX0_appendTree_48 hl (k := 2) rfl (by decide) (by decide) rfl (fun ls hl => ?_)
  refine lv_goto (tgt := 4) S.1 S.2.1 dX0_appendTree_51 (by decide) ?_
  refine lv_iload_n S.1 S.2.1 dX0_appendTree_4 rfl (lv_at hl 0 rfl) ?_
  refine lv_aload_n S.1 S.2.1 dX0_appendTree_5 rfl (lv_at hl 4 rfl) ?_
  refine gx_get (C := RX5) (T := TX5) (N := 7) S hG (fu_at (by omega) (fu_at (by omega) h0)) i_X0_appendTree_X5 rfl 6 (by decide) (by decide +kernel) rfl dX0_appendTree_6 ?_
  refine lv_icmp_ge (tgt := 54) S.1 S.2.1 dX0_appendTree_9 (by decide) (fun _ => ?_) (fun c => absurd (by decide) c)
  refine lv_aload_n S.1 S.2.1 dX0_appendTree_54 rfl (lv_at hl 3 rfl) ?_
  refine lv_iload_n S.1 S.2.1 dX0_appendTree_55 rfl (lv_at hl 1 rfl) ?_
  refine fx_cVv (As := [.int 0]) (rest := []) S hG (k1589_X0_appendClosings (by omega)) fu_s rfl (cwV 1 S.2.2.2.2 gX0_appendTree_X0_appendClosings rfl rfl rfl (by decide +kernel) ⟨Nat.le_of_ble_eq_true rfl, Nat.le_of_ble_eq_true rfl⟩) rfl hl.1 rfl (Nat.le_of_ble_eq_true rfl) dX0_appendTree_56 ⟨Nat.le_of_ble_eq_true rfl, Nat.le_of_ble_eq_true rfl⟩ (fun _ H locs hp hG => ?_)
  exact fx_vret S hr hlocks () hG trivial dX0_appendTree_59
theorem k1627_X7_writeTree {n : Nat} (hn : N0 + 231 ≤ n) (h0 : F N0 = some (.inr (9, [.ref (N0 + 1), .ref (N0 + 2), .ref (N0 + 11), .ref (N0 + 13), .ref (N0 + 63), .ref (N0 + 65), .ref (N0 + 85), .int (-1), .int (-1), .int 32]))) (h1 : F (N0 + 1) = some (.inl (cTr, 3, .inr (.inr (.inr (.inr (va_up (va_up (va_up (fun _ => none) 0 (some (N0 + 143))) 1 (some (N0 + 150))) 2 (some (N0 + 157))))))))) (h2 : F (N0 + 11) = some (.inr (2, [.ref (N0 + 12), .int 0]))) (h3 : F (N0 + 157) = some (.inr (7, [.ref (N0 + 158), .ref (N0 + 159), .ref (N0 + 160), .ref (N0 + 161), .ref (N0 + 162), .ref (N0 + 163), .int 1]))) (h4 : F (N0 + 158) = some (.inl (cC, 20, .inl (upd (fun _ => 0) 0 97)))) (h5 : F (N0 + 12) = some (.inl (cC, 160, .inl (fun _ => 0)))) (h6 : F (N0 + 159) = some (.inl (cI, 20, .inl (fun _ => 0)))) (h7 : F (N0 + 160) = some (.inl (cI, 20, .inl (fun _ => 0)))) : Met l yX7_writeTree wsX7_writeTree ({ frames := 3, cells := 0, slots := 0, locals := 67 }) (va_Pc [.ref N0, .int 2] (fP N0 D vwCl (fty cI cC cL cD cII cTr cTm cIt cB) (fen ql) F n)) (fQi N0 D vwCl (fty cI cC cL cD cII cTr cTm cIt cB) (fun (r : Int32) (_ : Unit) => r = 1) (fun _ => (fu (fu F (N0 + 12) (.inl (cC, 160, .inl (upd (fun _ => 0) 0 97)))) (N0 + 11) (.inr (2, [.ref (N0 + 12), .int 1])))) (fun _ => n)) 0 0 (fA N0) := by
  refine fx_start 3 rfl rfl (Nat.le_of_ble_eq_true rfl) ?_ rfl
  intro p e s m below meth c ls S hr hlocks hin hG hl
  have hl : lv_has ls 3 [(0, .ref N0), (1, .int 2)] := hl
  have lt_h0 := hG.1.lt h0
  have lt_h1 := hG.1.lt h1
  have lt_h2 := hG.1.lt h2
  have lt_h3 := hG.1.lt h3
  have lt_h4 := hG.1.lt h4
  have lt_h5 := hG.1.lt h5
  have lt_h6 := hG.1.lt h6
  have lt_h7 := hG.1.lt h7
  refine lv_aload_n S.1 S.2.1 dX7_writeTree_0 rfl (lv_at hl 0 rfl) ?_
  refine lv_iload_n S.1 S.2.1 dX7_writeTree_1 rfl (lv_at hl 1 rfl) ?_
  refine fx_cVr (As := [.int 2]) (rest := []) S hG (k48_X7_treeAt (by omega) h0 h1) h0 rfl (cwV 1 S.2.2.2.2 gX7_writeTree_X7_treeAt rfl rfl rfl (by decide +kernel) ⟨Nat.le_of_ble_eq_true rfl, Nat.le_of_ble_eq_true rfl⟩) rfl hl.1 rfl (Nat.le_of_ble_eq_true rfl) dX7_writeTree_2 ⟨Nat.le_of_ble_eq_true rfl, Nat.le_of_ble_eq_true rfl⟩ (fun rv_1 _ H locs hp hG => ?_)
  subst rv_1
  refine lv_astore_n (lv' := [(2, .ref (N0 + 157)), (0, .ref N0), (1, .int 2)]) S.1 S.2.1 dX7_writeTree_5 rfl hl (by decide) rfl (fun ls hl => ?_)
  refine lv_aload_n S.1 S.2.1 dX7_writeTree_6 rfl (lv_at hl 1 rfl) ?_
  refine gx_get (C := RX7) (T := TX7) (N := 10) S hG h0 i_X7_writeTree_X7 rfl 2 (by decide) (by decide +kernel) rfl dX7_writeTree_7 ?_
  refine lv_iconst (v := 0) S.1 S.2.1 dX7_writeTree_10 (by decide) ?_
  refine gx_put (C := RX0) (T := TX0) (N := 2) (ty := .int) (v := .int 0) (fs' := [.ref (N0 + 12), .int 0]) S hG h2 i_X7_writeTree_X0 rfl 1 (by decide) tyX0 tyX0_ok nmX0 (by decide +kernel) rfl (by decide +kernel) rfl rfl (Nat.le_of_ble_eq_true rfl) rfl dX7_writeTree_11 (fun H locs hG => ?_)
  refine lv_aload_n S.1 S.2.1 dX7_writeTree_14 rfl (lv_at hl 1 rfl) ?_
  refine gx_get (C := RX7) (T := TX7) (N := 10) S hG (fu_at (by omega) h0) i_X7_writeTree_X7 rfl 2 (by decide) (by decide +kernel) rfl dX7_writeTree_15 ?_
  refine lv_aload_n S.1 S.2.1 dX7_writeTree_18 rfl (lv_at hl 0 rfl) ?_
  refine fx_cVv (As := [.ref (N0 + 157)]) (rest := []) S hG (k1626_X0_appendTree (by omega) (fu_at (by omega) h3) fu_s (fu_at (by omega) h4) (fu_at (by omega) h5) (fu_at (by omega) h6) (fu_at (by omega) h7)) fu_s rfl (cwV 1 S.2.2.2.2 gX7_writeTree_X0_appendTree rfl rfl rfl (by decide +kernel) ⟨Nat.le_of_ble_eq_true rfl, Nat.le_of_ble_eq_true rfl⟩) rfl hl.1 rfl (Nat.le_of_ble_eq_true rfl) dX7_writeTree_19 ⟨Nat.le_of_ble_eq_true rfl, Nat.le_of_ble_eq_true rfl⟩ (fun _ H locs hp hG => ?_)
  refine lv_aload_n S.1 S.2.1 dX7_writeTree_22 rfl (lv_at hl 1 rfl) ?_
  refine gx_get (C := RX7) (T := TX7) (N := 10) S hG (fu_at (by omega) (fu_at (by omega) (fu_at (by omega) h0))) i_X7_writeTree_X7 rfl 2 (by decide) (by decide +kernel) rfl dX7_writeTree_23 ?_
  refine gx_get (C := RX0) (T := TX0) (N := 2) S hG fu_s i_X7_writeTree_X0 rfl 1 (by decide) (by decide +kernel) rfl dX7_writeTree_26 ?_
  have hG : fG N0 D vwCl (fty cI cC cL cD cII cTr cTm cIt cB) (fen ql) s (fu (fu F (N0 + 12) (.inl (cC, 160, .inl (upd (fun _ => 0) 0 97)))) (N0 + 11) (.inr (2, [.ref (N0 + 12), .int 1]))) n H locs := hG.weak (fun a e h => by
    rcases fu_cases h with ⟨rfl, he⟩ | ⟨hne0, h⟩
    · cases he; exact fu_s
    · skip
      rcases fu_cases h with ⟨rfl, he⟩ | ⟨hne1, h⟩
      · cases he; exact (fu_at (by omega) fu_s)
      · exact (fu_at (by omega) (fu_at (by omega) (fu_at (by omega) h))))
  exact fx_iret S hr hlocks () hG (rfl) dX7_writeTree_29
theorem k1628_L_writeTree {n : Nat} (hn : N0 + 231 ≤ n) (h0 : F N0 = some (.inr (9, [.ref (N0 + 1), .ref (N0 + 2), .ref (N0 + 11), .ref (N0 + 13), .ref (N0 + 63), .ref (N0 + 65), .ref (N0 + 85), .int (-1), .int (-1), .int 32]))) (h1 : F (N0 + 1) = some (.inl (cTr, 3, .inr (.inr (.inr (.inr (va_up (va_up (va_up (fun _ => none) 0 (some (N0 + 143))) 1 (some (N0 + 150))) 2 (some (N0 + 157))))))))) (h2 : F (N0 + 11) = some (.inr (2, [.ref (N0 + 12), .int 0]))) (h3 : F (N0 + 157) = some (.inr (7, [.ref (N0 + 158), .ref (N0 + 159), .ref (N0 + 160), .ref (N0 + 161), .ref (N0 + 162), .ref (N0 + 163), .int 1]))) (h4 : F (N0 + 158) = some (.inl (cC, 20, .inl (upd (fun _ => 0) 0 97)))) (h5 : F (N0 + 12) = some (.inl (cC, 160, .inl (fun _ => 0)))) (h6 : F (N0 + 159) = some (.inl (cI, 20, .inl (fun _ => 0)))) (h7 : F (N0 + 160) = some (.inl (cI, 20, .inl (fun _ => 0)))) (h8 : F (N0 + 229) = some (.inl (cL, 1, .inr (.inl (fun _ => 0))))) : Met l yL_writeTree wsL_writeTree ({ frames := 4, cells := 0, slots := 0, locals := 89 }) (va_Pc [.ref N0, .int 2, .ref (N0 + 229)] (fP N0 D vwCl (fty cI cC cL cD cII cTr cTm cIt cB) (fen ql) F n)) (fQi N0 D vwCl (fty cI cC cL cD cII cTr cTm cIt cB) (fun (r : Int32) (_ : Unit) => r = 0) (fun _ => (fu (fu (fu F (N0 + 12) (.inl (cC, 160, .inl (upd (fun _ => 0) 0 97)))) (N0 + 11) (.inr (2, [.ref (N0 + 12), .int 1]))) (N0 + 229) (.inl (cL, 1, .inr (.inl (vp_updL (fun _ => 0) 0 1)))))) (fun _ => n)) 0 0 (fA N0) := by
  refine fx_startW (hh := [(0, 9, 12, 19)]) 4 rfl rfl (Nat.le_of_ble_eq_true rfl) ?_ rfl
  intro p e s m below meth c ls S htab hr hlocks hG hl
  have hl : lv_has ls 4 [(0, .ref N0), (1, .int 2), (2, .ref (N0 + 229))] := hl
  have lt_h0 := hG.1.lt h0
  have lt_h1 := hG.1.lt h1
  have lt_h2 := hG.1.lt h2
  have lt_h3 := hG.1.lt h3
  have lt_h4 := hG.1.lt h4
  have lt_h5 := hG.1.lt h5
  have lt_h6 := hG.1.lt h6
  have lt_h7 := hG.1.lt h7
  have lt_h8 := hG.1.lt h8
  refine lv_aload_n S.1 S.2.1 dL_writeTree_0 rfl (lv_at hl 2 rfl) ?_
  refine lv_iconst (v := 0) S.1 S.2.1 dL_writeTree_1 (by decide) ?_
  refine lv_aload_n S.1 S.2.1 dL_writeTree_2 rfl (lv_at hl 0 rfl) ?_
  refine lv_iload_n S.1 S.2.1 dL_writeTree_3 rfl (lv_at hl 1 rfl) ?_
  refine fx_cVi (As := [.int 2]) (rest := [.int 0, .ref (N0 + 229)]) S hG (k1627_X7_writeTree (by omega) h0 h1 h2 h3 h4 h5 h6 h7) h0 rfl (cwV 1 S.2.2.2.2 gL_writeTree_X7_writeTree rfl rfl rfl (by decide +kernel) ⟨Nat.le_of_ble_eq_true rfl, Nat.le_of_ble_eq_true rfl⟩) rfl hl.1 rfl (Nat.le_of_ble_eq_true rfl) dL_writeTree_4 ⟨Nat.le_of_ble_eq_true rfl, Nat.le_of_ble_eq_true rfl⟩ (fun rv_1 _ H locs hp hG => ?_)
  subst rv_1
  refine lv_i2l (v := 1) S.1 S.2.1 dL_writeTree_7 (by decide) ?_
  refine gx_last (f' := vp_updL (fun _ => 0) 0 1) S hG 2 (fu_at (by omega) (fu_at (by omega) h8)) rfl (fin_l (by decide)) dL_writeTree_8 rfl (fun H locs hG => ?_)
  refine lv_goto (tgt := 15) S.1 S.2.1 dL_writeTree_9 (by decide) ?_
  refine lv_iconst (v := 0) S.1 S.2.1 dL_writeTree_15 (by decide) ?_
  exact fx_iret S hr hlocks () hG (rfl) dL_writeTree_16
theorem k1629_X10_writes {n b1 : Nat} (hn : N0 + 231 ≤ n) (hb1 : N0 + 231 ≤ b1) (h0 : F (N0 + 176) = some (.inr (11, [.ref (N0 + 177), .ref (N0 + 178), .ref (N0 + 179), .ref (N0 + 180), .int 1]))) (h1 : F (N0 + 177) = some (.inl (cI, 20, .inl (upd (fun _ => 0) 0 97)))) (h2 : F b1 = some (.inr (1, [.ref (b1 + 1), .int 0, .int 0, .int 0]))) (h3 : F (b1 + 1) = some (.inl (cB, 16, .inl (fun _ => 0)))) (h4 : F (N0 + 178) = some (.inl (cI, 20, .inl (upd (fun _ => 0) 0 0)))) (h5 : F (N0 + 179) = some (.inl (cI, 20, .inl (upd (fun _ => 0) 0 0)))) : Met l yX10_writes wsX10_writes ({ frames := 3, cells := 0, slots := 0, locals := 64 }) (va_Pc [.ref (N0 + 164), .ref (N0 + 176), .int 0, .ref b1] (fP N0 D vwCl (fty cI cC cL cD cII cTr cTm cIt cB) (fen ql) F n)) (fQv N0 D vwCl (fty cI cC cL cD cII cTr cTm cIt cB) (fun (_ : Unit) => True) (fun _ => (fu (fu F b1 (.inr (1, [.ref (b1 + 1), .int 0, .int 0, .int 1]))) (b1 + 1) (.inl (cB, 16, .inl (upd (fun _ => 0) 0 97))))) (fun _ => n)) 0 0 (fA N0) := by
  refine fx_start 8 rfl rfl (Nat.le_of_ble_eq_true rfl) ?_ rfl
  intro p e s m below meth c ls S hr hlocks hin hG hl
  have hl : lv_has ls 8 [(0, .ref (N0 + 164)), (1, .ref (N0 + 176)), (2, .int 0), (3, .ref b1)] := hl
  have lt_h0 := hG.1.lt h0
  have lt_h1 := hG.1.lt h1
  have lt_h2 := hG.1.lt h2
  have lt_h3 := hG.1.lt h3
  have lt_h4 := hG.1.lt h4
  have lt_h5 := hG.1.lt h5
  refine lv_aload_n S.1 S.2.1 dX10_writes_0 rfl (lv_at hl 3 rfl) ?_
  refine lv_aload_n S.1 S.2.1 dX10_writes_1 rfl (lv_at hl 1 rfl) ?_
  refine gx_getN (C := RX9) (T := TX9) (N := 5) S hG h0 i_X10_writes_X9 rfl 0 (by decide) (List.mem_of_getElem? (i := 1) rfl) rfl dX10_writes_2 ?_
  refine lv_iload_n S.1 S.2.1 dX10_writes_5 rfl (lv_at hl 2 rfl) ?_
  refine gx_iald (v := 97) S hG 0 h1 rfl (fin_l (by decide)) (by decide) dX10_writes_6 ?_
  refine lv_i2c (v := 97) S.1 S.2.1 dX10_writes_7 (by decide) ?_
  refine fx_cVr (As := [.int 97]) (rest := []) S hG (k1601_J4_append_cf468 (by omega) (by omega) h2 h3) h2 rfl (cwV 1 S.2.2.2.2 gX10_writes_J4_append_cf468 rfl rfl rfl (by decide +kernel) ⟨Nat.le_of_ble_eq_true rfl, Nat.le_of_ble_eq_true rfl⟩) rfl hl.1 rfl (Nat.le_of_ble_eq_true rfl) dX10_writes_8 ⟨Nat.le_of_ble_eq_true rfl, Nat.le_of_ble_eq_true rfl⟩ (fun rv_1 _ H locs hp hG => ?_)
  subst rv_1
  refine lv_pop S.1 S.2.1 dX10_writes_11 rfl ?_
  refine lv_aload_n S.1 S.2.1 dX10_writes_12 rfl (lv_at hl 1 rfl) ?_
  refine gx_getN (C := RX9) (T := TX9) (N := 5) S hG (fu_at (by omega) (fu_at (by omega) h0)) i_X10_writes_X9 rfl 1 (by decide) (List.mem_of_getElem? (i := 2) rfl) rfl dX10_writes_13 ?_
  refine lv_iload_n S.1 S.2.1 dX10_writes_16 rfl (lv_at hl 2 rfl) ?_
  refine gx_iald (v := 0) S hG 0 (fu_at (by omega) (fu_at (by omega) h4)) rfl (fin_l (by decide)) (by decide) dX10_writes_17 ?_
  refine lv_if_le (tgt := 37) S.1 S.2.1 dX10_writes_18 (by decide) (fun _ => ?_) (fun c => absurd (by decide) c)
  refine lv_aload_n S.1 S.2.1 dX10_writes_37 rfl (lv_at hl 1 rfl) ?_
  refine gx_getN (C := RX9) (T := TX9) (N := 5) S hG (fu_at (by omega) (fu_at (by omega) h0)) i_X10_writes_X9 rfl 2 (by decide) (List.mem_of_getElem? (i := 3) rfl) rfl dX10_writes_38 ?_
  refine lv_iload_n S.1 S.2.1 dX10_writes_41 rfl (lv_at hl 2 rfl) ?_
  refine gx_iald (v := 0) S hG 0 (fu_at (by omega) (fu_at (by omega) h5)) rfl (fin_l (by decide)) (by decide) dX10_writes_42 ?_
  refine lv_if_le (tgt := 62) S.1 S.2.1 dX10_writes_43 (by decide) (fun _ => ?_) (fun c => absurd (by decide) c)
  refine lv_aload_n S.1 S.2.1 dX10_writes_62 rfl (lv_at hl 1 rfl) ?_
  refine lv_iload_n S.1 S.2.1 dX10_writes_63 rfl (lv_at hl 2 rfl) ?_
  refine fx_cVNi (host := "TreeDifferModel") (As := [.int 0]) (rest := []) S hG (k194_X9_many (by omega) (fu_at (by omega) (fu_at (by omega) h0))) (fu_at (by omega) (fu_at (by omega) h0)) rfl ⟨(va_cnB 1 S.2.2.2.2 gX10_writes_X9_many_n170 rfl rfl rfl (hG.nest (show _ ∈ fen2.2.2.1 from by decide)) (S.2.2.2.2 (.initialized RX9) (by decide +kernel)) (by decide +kernel) ⟨Nat.le_of_ble_eq_true rfl, Nat.le_of_ble_eq_true rfl⟩), S.2.2.2.2 (.instanceMethod yX9_many) (by decide +kernel), S.2.2.2.2 (.selects RX9 yX9_many yX9_many) (by decide +kernel)⟩ rfl hl.1 rfl (Nat.le_of_ble_eq_true rfl) dX10_writes_64 ⟨Nat.le_of_ble_eq_true rfl, Nat.le_of_ble_eq_true rfl⟩ (fun rv_2 _ H locs hp hG => ?_)
  subst rv_2
  refine lv_if_ne (tgt := 71) S.1 S.2.1 dX10_writes_67 (by decide) (fun c => absurd (by decide) c) (fun _ => ?_)
  exact fx_vret S hr hlocks () hG trivial dX10_writes_70
theorem k1630_X10_writeTree {n : Nat} (hn : N0 + 231 ≤ n) (h0 : F (N0 + 164) = some (.inr (12, [.ref (N0 + 165), .int 0, .ref (N0 + 181), .int 0, .int 0, .int 0, .int (-1), .ref (ql 24), .ref (N0 + 182), .ref (N0 + 187), .ref (N0 + 208), .ref (N0 + 209), .ref (N0 + 210), .ref (N0 + 211), .ref (N0 + 212), .int 0, .ref (N0 + 213), .ref (N0 + 218), .ref (N0 + 223), .ref (N0 + 224), .ref (N0 + 225), .ref (N0 + 226), .ref (N0 + 227), .int 0, .int 0, .ref (N0 + 228), .null, .int (-1), .int 0, .int 0, .int 0]))) (h1 : F (N0 + 165) = some (.inl (cTm, 3, .inr (.inr (.inr (.inr (va_up (va_up (va_up (fun _ => none) 0 (some (N0 + 166))) 1 (some (N0 + 171))) 2 (some (N0 + 176))))))))) (h2 : F (N0 + 176) = some (.inr (11, [.ref (N0 + 177), .ref (N0 + 178), .ref (N0 + 179), .ref (N0 + 180), .int 1]))) (h3 : F (N0 + 177) = some (.inl (cI, 20, .inl (upd (fun _ => 0) 0 97)))) (h4 : F (N0 + 178) = some (.inl (cI, 20, .inl (upd (fun _ => 0) 0 0)))) (h5 : F (N0 + 179) = some (.inl (cI, 20, .inl (upd (fun _ => 0) 0 0)))) : Met l yX10_writeTree wsX10_writeTree ({ frames := 6, cells := 4, slots := 25, locals := 151 }) (va_Pc [.ref (N0 + 164), .int 2] (fP N0 D vwCl (fty cI cC cL cD cII cTr cTm cIt cB) (fen ql) F n)) (fQi N0 D vwCl (fty cI cC cL cD cII cTr cTm cIt cB) (fun (r : Int32) (_ : Unit) => r = 1) (fun _ => (fblk (fu F (N0 + 164) (.inr (12, [.ref (N0 + 165), .int 0, .ref (N0 + 181), .int 0, .int 0, .int 0, .int (-1), .ref (n + 2), .ref (N0 + 182), .ref (N0 + 187), .ref (N0 + 208), .ref (N0 + 209), .ref (N0 + 210), .ref (N0 + 211), .ref (N0 + 212), .int 0, .ref (N0 + 213), .ref (N0 + 218), .ref (N0 + 223), .ref (N0 + 224), .ref (N0 + 225), .ref (N0 + 226), .ref (N0 + 227), .int 0, .int 0, .ref (N0 + 228), .null, .int (-1), .int 0, .int 0, .int 0]))) n [.inr (1, [.ref (n + 1), .int 0, .int 0, .int 1]), .inl (cB, 16, .inl (upd (fun _ => 0) 0 97)), .inr (0, [.ref (n + 3), .int 0, .int 0, .int 0]), .inl (cB, 1, .inl (upd (fun _ => 0) 0 97))])) (fun _ => (n + 4))) 4 25 (fA N0) := by
  refine fx_start 3 rfl rfl (Nat.le_of_ble_eq_true rfl) ?_ rfl
  intro p e s m below meth c ls S hr hlocks hin hG hl
  have hl : lv_has ls 3 [(0, .ref (N0 + 164)), (1, .int 2)] := hl
  have lt_h0 := hG.1.lt h0
  have lt_h1 := hG.1.lt h1
  have lt_h2 := hG.1.lt h2
  have lt_h3 := hG.1.lt h3
  have lt_h4 := hG.1.lt h4
  have lt_h5 := hG.1.lt h5
  refine lv_aload_n S.1 S.2.1 dX10_writeTree_0 rfl (lv_at hl 0 rfl) ?_
  refine lv_iconst (v := 0) S.1 S.2.1 dX10_writeTree_1 (by decide) ?_
  refine gx_put (C := RX10) (T := TX10) (N := 31) (ty := .int) (v := .int 0) (fs' := [.ref (N0 + 165), .int 0, .ref (N0 + 181), .int 0, .int 0, .int 0, .int (-1), .ref (ql 24), .ref (N0 + 182), .ref (N0 + 187), .ref (N0 + 208), .ref (N0 + 209), .ref (N0 + 210), .ref (N0 + 211), .ref (N0 + 212), .int 0, .ref (N0 + 213), .ref (N0 + 218), .ref (N0 + 223), .ref (N0 + 224), .ref (N0 + 225), .ref (N0 + 226), .ref (N0 + 227), .int 0, .int 0, .ref (N0 + 228), .null, .int (-1), .int 0, .int 0, .int 0]) S hG h0 i_X10_writeTree_X10 rfl 1 (by decide) tyX10 tyX10_ok nmX10 (by decide +kernel) rfl (by decide +kernel) rfl rfl (Nat.le_of_ble_eq_true rfl) rfl dX10_writeTree_2 (fun H locs hG => ?_)
  refine lv_iload_n S.1 S.2.1 dX10_writeTree_5 rfl (lv_at hl 1 rfl) ?_
  refine fx_cSi (As := [.int 2]) (rest := []) S hG (k52_X10_isTree (by omega)) (cwS 1 S.2.2.2.2 gX10_writeTree_X10_isTree rfl rfl rfl (by decide +kernel) ⟨Nat.le_of_ble_eq_true rfl, Nat.le_of_ble_eq_true rfl⟩) rfl hl.1 rfl (Nat.le_of_ble_eq_true rfl) dX10_writeTree_6 ⟨Nat.le_of_ble_eq_true rfl, Nat.le_of_ble_eq_true rfl⟩ (fun rv_1 _ H locs hp hG => ?_)
  subst rv_1
  refine lv_if_ne (tgt := 18) S.1 S.2.1 dX10_writeTree_9 (by decide) (fun _ => ?_) (fun c => absurd c (by decide))
  refine gx_new (C := RJ4) (T := TJ4) (N := 4) (ci := 1) (fs := [.null, .int 0, .int 0, .int 0]) S hG i_X10_writeTree_J4 tyJ4 tyJ4_ok rfl (by decide +kernel) (by decide +kernel) (by decide +kernel) (fun j hj => by rcases (show j = 0 ∨ j = 1 ∨ j = 2 ∨ j = 3 by omega) with rfl | rfl | rfl | rfl <;> rfl) (by decide) (by decide) dX10_writeTree_18 (fun H hG => ?_)
  refine W.widen (k := 1) (n := 4) (by decide) (by decide) ?_
  refine lv_dup S.1 S.2.1 dX10_writeTree_21 rfl ?_
  refine fx_cIv (As := []) (rest := [.ref n]) S hG (k1596_J4_init_da8c8 (by omega) (by omega) fu_s) (cwI 0 S.2.2.2.2 gX10_writeTree_J4_init_da8c8 rfl rfl rfl (S.2.2.2.2 (.initialized RJ4) (by decide +kernel)) (S.2.2.2.2 (.methodLink RX10 181 yJ4_init_da8c8) (by decide +kernel)) (S.2.2.2.2 (.instanceMethod yJ4_init_da8c8) (by decide +kernel)) rfl (by decide +kernel) ⟨Nat.le_of_ble_eq_true rfl, Nat.le_of_ble_eq_true rfl⟩) rfl hl.1 rfl (Nat.le_of_ble_eq_true rfl) dX10_writeTree_22 ⟨Nat.le_of_ble_eq_true rfl, Nat.le_of_ble_eq_true rfl⟩ (fun _ H locs hp hG => ?_)
  refine W.widen (k := 2) (n := 20) (by decide) (by decide) ?_
  refine lv_astore_n (lv' := [(2, .ref n), (0, .ref (N0 + 164)), (1, .int 2)]) S.1 S.2.1 dX10_writeTree_25 rfl hl (by decide) rfl (fun ls hl => ?_)
  refine lv_aload_n S.1 S.2.1 dX10_writeTree_26 rfl (lv_at hl 1 rfl) ?_
  refine lv_aload_n S.1 S.2.1 dX10_writeTree_27 rfl (lv_at hl 1 rfl) ?_
  refine gx_get (C := RX10) (T := TX10) (N := 31) S hG (fblk_sk 1 rfl (by omega) (fu_at (by omega) (fu_at (by omega) fu_s))) i_X10_writeTree_X10 rfl 0 (by decide) (by decide +kernel) rfl dX10_writeTree_28 ?_
  refine lv_iload_n S.1 S.2.1 dX10_writeTree_31 rfl (lv_at hl 2 rfl) ?_
  refine gx_aldq (x := (N0 + 176)) S hG 6 rfl (fblk_sk 1 rfl (by omega) (fu_at (by omega) (fu_at (by omega) (fu_at (by omega) h1)))) rfl (fin_l (by decide)) (rfl) dX10_writeTree_32 ?_
  refine lv_iconst (v := 0) S.1 S.2.1 dX10_writeTree_33 (by decide) ?_
  refine lv_aload_n S.1 S.2.1 dX10_writeTree_34 rfl (lv_at hl 0 rfl) ?_
  refine fx_cVv (As := [.ref (N0 + 176), .int 0, .ref n]) (rest := []) S hG (k1629_X10_writes (by omega) (by omega) (fblk_sk 1 rfl (by omega) (fu_at (by omega) (fu_at (by omega) (fu_at (by omega) h2)))) (fblk_sk 1 rfl (by omega) (fu_at (by omega) (fu_at (by omega) (fu_at (by omega) h3)))) (fblk_sk 1 rfl (by omega) fu_s) (fblk_at 0 (by omega) rfl) (fblk_sk 1 rfl (by omega) (fu_at (by omega) (fu_at (by omega) (fu_at (by omega) h4)))) (fblk_sk 1 rfl (by omega) (fu_at (by omega) (fu_at (by omega) (fu_at (by omega) h5))))) (fblk_sk 1 rfl (by omega) (fu_at (by omega) (fu_at (by omega) fu_s))) rfl (cwV 3 S.2.2.2.2 gX10_writeTree_X10_writes rfl rfl rfl (by decide +kernel) ⟨Nat.le_of_ble_eq_true rfl, Nat.le_of_ble_eq_true rfl⟩) rfl hl.1 rfl (Nat.le_of_ble_eq_true rfl) dX10_writeTree_35 ⟨Nat.le_of_ble_eq_true rfl, Nat.le_of_ble_eq_true rfl⟩ (fun _ H locs hp hG => ?_)
  refine lv_aload_n S.1 S.2.1 dX10_writeTree_38 rfl (lv_at hl 1 rfl) ?_
  refine lv_aload_n S.1 S.2.1 dX10_writeTree_39 rfl (lv_at hl 0 rfl) ?_
  refine fx_cVr (As := []) (rest := [.ref (N0 + 164)]) S hG (k1612_J4_toString_0e30d (by omega) (by omega) (fu_at (by omega) fu_s) fu_s) (fu_at (by omega) fu_s) rfl (cwV 0 S.2.2.2.2 gX10_writeTree_J4_toString_0e30d rfl rfl rfl (by decide +kernel) ⟨Nat.le_of_ble_eq_true rfl, Nat.le_of_ble_eq_true rfl⟩) rfl hl.1 rfl (Nat.le_of_ble_eq_true rfl) dX10_writeTree_40 ⟨Nat.le_of_ble_eq_true rfl, Nat.le_of_ble_eq_true rfl⟩ (fun rv_4 _ H locs hp hG => ?_)
  subst rv_4
  refine W.widen (k := 4) (n := 25) (by decide) (by decide) ?_
  refine gx_put (C := RX10) (T := TX10) (N := 31) (ty := (.object "java/lang/String")) (v := .ref (n + 2)) (fs' := [.ref (N0 + 165), .int 0, .ref (N0 + 181), .int 0, .int 0, .int 0, .int (-1), .ref (n + 2), .ref (N0 + 182), .ref (N0 + 187), .ref (N0 + 208), .ref (N0 + 209), .ref (N0 + 210), .ref (N0 + 211), .ref (N0 + 212), .int 0, .ref (N0 + 213), .ref (N0 + 218), .ref (N0 + 223), .ref (N0 + 224), .ref (N0 + 225), .ref (N0 + 226), .ref (N0 + 227), .int 0, .int 0, .ref (N0 + 228), .null, .int (-1), .int 0, .int 0, .int 0]) S hG (fblk_sk 2 rfl (by omega) (fu_at (by omega) (fu_at (by omega) (fblk_sk 1 rfl (by omega) (fu_at (by omega) (fu_at (by omega) fu_s)))))) i_X10_writeTree_X10 rfl 7 (by decide) tyX10 tyX10_ok nmX10 (by decide +kernel) rfl (by decide +kernel) rfl rfl (Nat.le_of_ble_eq_true rfl) rfl dX10_writeTree_43 (fun H locs hG => ?_)
  refine lv_aload_n S.1 S.2.1 dX10_writeTree_46 rfl (lv_at hl 1 rfl) ?_
  refine gx_get (C := RX10) (T := TX10) (N := 31) S hG fu_s i_X10_writeTree_X10 rfl 7 (by decide) (by decide +kernel) rfl dX10_writeTree_47 ?_
  refine fx_cVi (As := []) (rest := []) S hG (k1614_J0_length_8abf5 (by omega) (by omega) (fu_at (by omega) (fblk_at 0 (by omega) rfl)) (fu_at (by omega) (fblk_at 1 (by omega) rfl))) (fu_at (by omega) (fblk_at 0 (by omega) rfl)) rfl (cwV 0 S.2.2.2.2 gX10_writeTree_J0_length_8abf5 rfl rfl rfl (by decide +kernel) ⟨Nat.le_of_ble_eq_true rfl, Nat.le_of_ble_eq_true rfl⟩) rfl hl.1 rfl (Nat.le_of_ble_eq_true rfl) dX10_writeTree_50 ⟨Nat.le_of_ble_eq_true rfl, Nat.le_of_ble_eq_true rfl⟩ (fun rv_5 _ H locs hp hG => ?_)
  subst rv_5
  have hG : fG N0 D vwCl (fty cI cC cL cD cII cTr cTm cIt cB) (fen ql) s (fblk (fu F (N0 + 164) (.inr (12, [.ref (N0 + 165), .int 0, .ref (N0 + 181), .int 0, .int 0, .int 0, .int (-1), .ref (n + 2), .ref (N0 + 182), .ref (N0 + 187), .ref (N0 + 208), .ref (N0 + 209), .ref (N0 + 210), .ref (N0 + 211), .ref (N0 + 212), .int 0, .ref (N0 + 213), .ref (N0 + 218), .ref (N0 + 223), .ref (N0 + 224), .ref (N0 + 225), .ref (N0 + 226), .ref (N0 + 227), .int 0, .int 0, .ref (N0 + 228), .null, .int (-1), .int 0, .int 0, .int 0]))) n [.inr (1, [.ref (n + 1), .int 0, .int 0, .int 1]), .inl (cB, 16, .inl (upd (fun _ => 0) 0 97)), .inr (0, [.ref (n + 3), .int 0, .int 0, .int 0]), .inl (cB, 1, .inl (upd (fun _ => 0) 0 97))]) (n + 4) H locs := hG.weak (fun a e h => by
    rcases fblk_cases 4 rfl h with ⟨k, rfl, hlt, hk⟩ | ⟨hout, h⟩
    · rcases (show k = 0 ∨ k = 1 ∨ k = 2 ∨ k = 3 by omega) with rfl | rfl | rfl | rfl
      · cases (show some (.inr (1, [.ref (n + 1), .int 0, .int 0, .int 1])) = some e from hk); exact (fu_at (by omega) (fblk_sk 2 rfl (by omega) (fu_at (by omega) fu_s)))
      · cases (show some (.inl (cB, 16, .inl (upd (fun _ => 0) 0 97))) = some e from hk); exact (fu_at (by omega) (fblk_sk 2 rfl (by omega) fu_s))
      · cases (show some (.inr (0, [.ref (n + 3), .int 0, .int 0, .int 0])) = some e from hk); exact (fu_at (by omega) (fblk_at 0 (by omega) rfl))
      · cases (show some (.inl (cB, 1, .inl (upd (fun _ => 0) 0 97))) = some e from hk); exact (fu_at (by omega) (fblk_at 1 (by omega) rfl))
    · rcases fu_cases h with ⟨rfl, he⟩ | ⟨hne0, h⟩
      · cases he; exact fu_s
      · exact (fu_at (by omega) (fblk_sk 2 rfl (by omega) (fu_at (by omega) (fu_at (by omega) (fblk_sk 1 rfl (by omega) (fu_at (by omega) (fu_at (by omega) (fu_at (by omega) h)))))))))
  exact fx_iret S hr hlocks () hG (rfl) dX10_writeTree_53
theorem k1631_X7_writeTree {n : Nat} {a1 : Int32} (g_a1_ge_3 : 3 ≤ a1) (hst : l.stackTraces = false) (hn : N0 + 231 ≤ n) (h0 : F N0 = some (.inr (9, [.ref (N0 + 1), .ref (N0 + 2), .ref (N0 + 11), .ref (N0 + 13), .ref (N0 + 63), .ref (N0 + 65), .ref (N0 + 85), .int (-1), .int (-1), .int 32]))) : vx_Met l yX7_writeTree wsX7_writeTree ({ frames := 7, cells := 1, slots := 6, locals := 103 }) (va_Pc [.ref N0, .int a1] (fP N0 D vwCl (fty cI cC cL cD cII cTr cTm cIt cB) (fen ql) F n)) (fNo N0 D vwCl (fty cI cC cL cD cII cTr cTm cIt cB) F n) (fXC N0 D vwCl (fty cI cC cL cD cII cTr cTm cIt cB) "java/lang/IndexOutOfBoundsException" F n) 1 6 (fA N0) := by
  refine fx_startX 3 rfl rfl (Nat.le_of_ble_eq_true rfl) ?_ rfl
  intro p e s m below meth c ls S htab hlocks hG hl
  have hl : lv_has ls 3 [(0, .ref N0), (1, .int a1)] := hl
  have lt_h0 := hG.1.lt h0
  refine lv_aload_n S.1 S.2.1 dX7_writeTree_0 rfl (lv_at hl 0 rfl) ?_
  refine lv_iload_n S.1 S.2.1 dX7_writeTree_1 rfl (lv_at hl 1 rfl) ?_
  refine fx_xV (As := [.int a1]) (rest := []) S hG (k54_X7_treeAt g_a1_ge_3 hst (by omega)) h0 rfl (cwV 1 S.2.2.2.2 gX7_writeTree_X7_treeAt rfl rfl rfl (by decide +kernel) ⟨Nat.le_of_ble_eq_true rfl, Nat.le_of_ble_eq_true rfl⟩) rfl hl.1 rfl (Nat.le_of_ble_eq_true rfl) dX7_writeTree_2 ⟨Nat.le_of_ble_eq_true rfl, Nat.le_of_ble_eq_true rfl⟩ (fun ceq_1 q_1 H locs n_2 hn_2 hG h1q_1 h2q_1 h3q_1 => ?_)
  exact fx_out htab hlocks hG (by omega) h1q_1 h2q_1 h3q_1 (by decide) (by decide)
theorem k1632_L_writeTree {n : Nat} {a1 : Int32} (g_a1_ge_3 : 3 ≤ a1) (hst : l.stackTraces = false) (hn : N0 + 231 ≤ n) (h0 : F N0 = some (.inr (9, [.ref (N0 + 1), .ref (N0 + 2), .ref (N0 + 11), .ref (N0 + 13), .ref (N0 + 63), .ref (N0 + 65), .ref (N0 + 85), .int (-1), .int (-1), .int 32]))) : Met l yL_writeTree wsL_writeTree ({ frames := 8, cells := 1, slots := 6, locals := 125 }) (va_Pc [.ref N0, .int a1, .ref (N0 + 229)] (fP N0 D vwCl (fty cI cC cL cD cII cTr cTm cIt cB) (fen ql) F n)) (fQi N0 D vwCl (fty cI cC cL cD cII cTr cTm cIt cB) (fun (r : Int32) (u : Nat) => r = 1 ∧ n ≤ u) (fun _ => F) (fun u => u)) 1 6 (fA N0) := by
  refine fx_startW (hh := [(0, 9, 12, 19)]) 4 rfl rfl (Nat.le_of_ble_eq_true rfl) ?_ rfl
  intro p e s m below meth c ls S htab hr hlocks hG hl
  have hl : lv_has ls 4 [(0, .ref N0), (1, .int a1), (2, .ref (N0 + 229))] := hl
  have lt_h0 := hG.1.lt h0
  refine lv_aload_n S.1 S.2.1 dL_writeTree_0 rfl (lv_at hl 2 rfl) ?_
  refine lv_iconst (v := 0) S.1 S.2.1 dL_writeTree_1 (by decide) ?_
  refine lv_aload_n S.1 S.2.1 dL_writeTree_2 rfl (lv_at hl 0 rfl) ?_
  refine lv_iload_n S.1 S.2.1 dL_writeTree_3 rfl (lv_at hl 1 rfl) ?_
  refine fx_xV (As := [.int a1]) (rest := [.int 0, .ref (N0 + 229)]) S hG (k1631_X7_writeTree g_a1_ge_3 hst (by omega) h0) h0 rfl (cwV 1 S.2.2.2.2 gL_writeTree_X7_writeTree rfl rfl rfl (by decide +kernel) ⟨Nat.le_of_ble_eq_true rfl, Nat.le_of_ble_eq_true rfl⟩) rfl hl.1 rfl (Nat.le_of_ble_eq_true rfl) dL_writeTree_4 ⟨Nat.le_of_ble_eq_true rfl, Nat.le_of_ble_eq_true rfl⟩ (fun ceq_1 q_1 H locs n_2 hn_2 hG h1q_1 h2q_1 h3q_1 => ?_)
  refine fx_catch (hh := [(0, 9, 12, 19)]) S htab hG h1q_1 h2q_1 h3q_1 [] ⟨0, 9, 12, 19⟩ [] rfl [] (fun z hz => absurd hz List.not_mem_nil) (by decide) (by decide) (by decide +kernel) (List.mem_of_getElem? (i := 2) rfl) ?_
  refine lv_astore_n (lv' := [(3, .ref q_1), (0, .ref N0), (1, .int a1), (2, .ref (N0 + 229))]) S.1 S.2.1 dL_writeTree_12 rfl hl (by decide) rfl (fun ls hl => ?_)
  refine lv_iconst (v := 1) S.1 S.2.1 dL_writeTree_13 (by decide) ?_
  exact fx_iret S hr hlocks n_2 hG (⟨rfl, hn_2⟩) dL_writeTree_14
theorem k1633_X10_writeTree {n : Nat} {a1 : Int32} (g_a1_ge_3 : 3 ≤ a1) (hn : N0 + 231 ≤ n) (h0 : F (N0 + 164) = some (.inr (12, [.ref (N0 + 165), .int 0, .ref (N0 + 181), .int 0, .int 0, .int 0, .int (-1), .ref (ql 24), .ref (N0 + 182), .ref (N0 + 187), .ref (N0 + 208), .ref (N0 + 209), .ref (N0 + 210), .ref (N0 + 211), .ref (N0 + 212), .int 0, .ref (N0 + 213), .ref (N0 + 218), .ref (N0 + 223), .ref (N0 + 224), .ref (N0 + 225), .ref (N0 + 226), .ref (N0 + 227), .int 0, .int 0, .ref (N0 + 228), .null, .int (-1), .int 0, .int 0, .int 0]))) : Met l yX10_writeTree wsX10_writeTree ({ frames := 2, cells := 0, slots := 0, locals := 42 }) (va_Pc [.ref (N0 + 164), .int a1] (fP N0 D vwCl (fty cI cC cL cD cII cTr cTm cIt cB) (fen ql) F n)) (fQi N0 D vwCl (fty cI cC cL cD cII cTr cTm cIt cB) (fun (r : Int32) (_ : Unit) => r = 0) (fun _ => (fu F (N0 + 164) (.inr (12, [.ref (N0 + 165), .int 1, .ref (N0 + 181), .int 0, .int 0, .int 0, .int (-1), .ref (ql 24), .ref (N0 + 182), .ref (N0 + 187), .ref (N0 + 208), .ref (N0 + 209), .ref (N0 + 210), .ref (N0 + 211), .ref (N0 + 212), .int 0, .ref (N0 + 213), .ref (N0 + 218), .ref (N0 + 223), .ref (N0 + 224), .ref (N0 + 225), .ref (N0 + 226), .ref (N0 + 227), .int 0, .int 0, .ref (N0 + 228), .null, .int (-1), .int 0, .int 0, .int 0])))) (fun _ => n)) 0 0 (fA N0) := by
  refine fx_start 3 rfl rfl (Nat.le_of_ble_eq_true rfl) ?_ rfl
  intro p e s m below meth c ls S hr hlocks hin hG hl
  have hl : lv_has ls 3 [(0, .ref (N0 + 164)), (1, .int a1)] := hl
  have lt_h0 := hG.1.lt h0
  refine lv_aload_n S.1 S.2.1 dX10_writeTree_0 rfl (lv_at hl 0 rfl) ?_
  refine lv_iconst (v := 0) S.1 S.2.1 dX10_writeTree_1 (by decide) ?_
  refine gx_put (C := RX10) (T := TX10) (N := 31) (ty := .int) (v := .int 0) (fs' := [.ref (N0 + 165), .int 0, .ref (N0 + 181), .int 0, .int 0, .int 0, .int (-1), .ref (ql 24), .ref (N0 + 182), .ref (N0 + 187), .ref (N0 + 208), .ref (N0 + 209), .ref (N0 + 210), .ref (N0 + 211), .ref (N0 + 212), .int 0, .ref (N0 + 213), .ref (N0 + 218), .ref (N0 + 223), .ref (N0 + 224), .ref (N0 + 225), .ref (N0 + 226), .ref (N0 + 227), .int 0, .int 0, .ref (N0 + 228), .null, .int (-1), .int 0, .int 0, .int 0]) S hG h0 i_X10_writeTree_X10 rfl 1 (by decide) tyX10 tyX10_ok nmX10 (by decide +kernel) rfl (by decide +kernel) rfl rfl (Nat.le_of_ble_eq_true rfl) rfl dX10_writeTree_2 (fun H locs hG => ?_)
  refine lv_iload_n S.1 S.2.1 dX10_writeTree_5 rfl (lv_at hl 1 rfl) ?_
  refine fx_cSi (As := [.int a1]) (rest := []) S hG (k58_X10_isTree g_a1_ge_3 (by omega)) (cwS 1 S.2.2.2.2 gX10_writeTree_X10_isTree rfl rfl rfl (by decide +kernel) ⟨Nat.le_of_ble_eq_true rfl, Nat.le_of_ble_eq_true rfl⟩) rfl hl.1 rfl (Nat.le_of_ble_eq_true rfl) dX10_writeTree_6 ⟨Nat.le_of_ble_eq_true rfl, Nat.le_of_ble_eq_true rfl⟩ (fun rv_1 _ H locs hp hG => ?_)
  subst rv_1
  refine lv_if_ne (tgt := 18) S.1 S.2.1 dX10_writeTree_9 (by decide) (fun c => absurd (by decide) c) (fun _ => ?_)
  refine lv_aload_n S.1 S.2.1 dX10_writeTree_12 rfl (lv_at hl 0 rfl) ?_
  refine lv_iconst (v := 1) S.1 S.2.1 dX10_writeTree_13 (by decide) ?_
  refine fx_cVi (As := [.int 1]) (rest := []) S hG (k23_X10_fails (by omega) fu_s) fu_s rfl (cwV 1 S.2.2.2.2 gX10_writeTree_X10_fails rfl rfl rfl (by decide +kernel) ⟨Nat.le_of_ble_eq_true rfl, Nat.le_of_ble_eq_true rfl⟩) rfl hl.1 rfl (Nat.le_of_ble_eq_true rfl) dX10_writeTree_14 ⟨Nat.le_of_ble_eq_true rfl, Nat.le_of_ble_eq_true rfl⟩ (fun rv_2 _ H locs hp hG => ?_)
  subst rv_2
  have hG : fG N0 D vwCl (fty cI cC cL cD cII cTr cTm cIt cB) (fen ql) s (fu F (N0 + 164) (.inr (12, [.ref (N0 + 165), .int 1, .ref (N0 + 181), .int 0, .int 0, .int 0, .int (-1), .ref (ql 24), .ref (N0 + 182), .ref (N0 + 187), .ref (N0 + 208), .ref (N0 + 209), .ref (N0 + 210), .ref (N0 + 211), .ref (N0 + 212), .int 0, .ref (N0 + 213), .ref (N0 + 218), .ref (N0 + 223), .ref (N0 + 224), .ref (N0 + 225), .ref (N0 + 226), .ref (N0 + 227), .int 0, .int 0, .ref (N0 + 228), .null, .int (-1), .int 0, .int 0, .int 0]))) n H locs := hG.weak (fun a e h => by
    rcases fu_cases h with ⟨rfl, he⟩ | ⟨hne0, h⟩
    · cases he; exact fu_s
    · exact (fu_at (by omega) (fu_at (by omega) h)))
  exact fx_iret S hr hlocks () hG (rfl) dX10_writeTree_17
theorem l3_0 {p : Program} {e : Env} {s : State} {m : MethodId} {below : List Frame} {meth : Method} {c : Code} {b : Nat} {xs : Nat → Int32} {H : Heap} {locs : List Loc} {ls : Array Slot} {n : Nat} {a1 a2 a3 a4 : Int32} (g_a1_le_m1 : a1 ≤ (-1)) (S : CallFix p m c cL_law 9 s #[.ref b] wsL_law "TreeDifferLaw") (hr : meth.sig.returnType = ret) (hlocks : meth.locks = false) (hst : l.stackTraces = false) (hX : va_X b 5 xs s s.heap) (hbl : b < s.heap.size ∧ b < N0) (hN : s.heap.size = N0) (hn : N0 + 231 ≤ n) (hx1 : xs 1 = a1) (hx2 : xs 2 = a2) (hx3 : xs 3 = a3) (hx4 : xs 4 = a4) (h0 : F N0 = some (.inr (9, [.ref (N0 + 1), .ref (N0 + 2), .ref (N0 + 11), .ref (N0 + 13), .ref (N0 + 63), .ref (N0 + 65), .ref (N0 + 85), .int (-1), .int (-1), .int 32]))) (h1 : F (N0 + 164) = some (.inr (12, [.ref (N0 + 165), .int 0, .ref (N0 + 181), .int 0, .int 0, .int 0, .int (-1), .ref (ql 24), .ref (N0 + 182), .ref (N0 + 187), .ref (N0 + 208), .ref (N0 + 209), .ref (N0 + 210), .ref (N0 + 211), .ref (N0 + 212), .int 0, .ref (N0 + 213), .ref (N0 + 218), .ref (N0 + 223), .ref (N0 + 224), .ref (N0 + 225), .ref (N0 + 226), .ref (N0 + 227), .int 0, .int 0, .ref (N0 + 228), .null, .int (-1), .int 0, .int 0, .int 0]))) (hG : fG N0 D vwCl (fty cI cC cL cD cII cTr cTm cIt cB) (fen ql) s F n H locs) (hl : lv_has ls 9 [(0, .ref b), (1, .ref N0), (2, .ref (N0 + 164)), (3, .ref (N0 + 229)), (4, .ref (N0 + 230)), (5, .int 0)]) : W p l e { frames := 2048, cells := 600002, slots := 7302232, locals := 84000 } s m #[.ref b] below meth c H locs 231 4980 (lw_Z below #[.ref b] s) (F0 m 374 ls []) := by
  have lt_h0 := hG.1.lt h0
  have lt_h1 := hG.1.lt h1
  refine lv_aload_n S.1 S.2.1 dL_law_374 rfl (lv_at hl 1 rfl) ?_
  refine lv_aload_n S.1 S.2.1 dL_law_375 rfl (lv_at hl 0 rfl) ?_
  refine lv_iload S.1 S.2.1 dL_law_376 (lv_at hl 5 rfl) ?_
  refine lv_iconst (v := 1) S.1 S.2.1 dL_law_378 (by decide) ?_
  refine lv_iadd S.1 S.2.1 dL_law_379 ?_
  refine fx_topi (y := 1) (by decide) ?_
  refine gx_sld (v := a1) S hG hX hbl (fin_l (by decide)) hx1 dL_law_380 ?_
  refine lv_aload_n S.1 S.2.1 dL_law_381 rfl (lv_at hl 3 rfl) ?_
  refine fx_cTi (As := [.ref N0, .int a1, .ref (N0 + 229)]) (rest := []) S hG (k1586_L_writeTree g_a1_le_m1 hst (by omega) h0) (vx_cwSW 3 S.2.2.2.2 gL_law_L_writeTree rfl rfl rfl (by decide +kernel) ⟨Nat.le_of_ble_eq_true rfl, Nat.le_of_ble_eq_true rfl⟩) rfl hl.1 rfl (Nat.le_of_ble_eq_true rfl) dL_law_382 ⟨Nat.le_of_ble_eq_true rfl, Nat.le_of_ble_eq_true rfl⟩ (fun rv_u_1 u_1 H locs hp hG => ?_)
  obtain ⟨rfl, hu_1⟩ := hp
  refine W.widen (k := 232) (n := 4986) (by decide) (by decide) ?_
  refine lv_istore (lv' := [(6, .int 1), (0, .ref b), (1, .ref N0), (2, .ref (N0 + 164)), (3, .ref (N0 + 229)), (4, .ref (N0 + 230)), (5, .int 0)]) S.1 S.2.1 dL_law_385 hl (by decide) rfl (fun ls hl => ?_)
  refine lv_aload_n S.1 S.2.1 dL_law_387 rfl (lv_at hl 3 rfl) ?_
  refine lv_aload_n S.1 S.2.1 dL_law_388 rfl (lv_at hl 1 rfl) ?_
  refine lv_iload S.1 S.2.1 dL_law_389 (lv_at hl 6 rfl) ?_
  refine lv_iconst (v := 1) S.1 S.2.1 dL_law_391 (by decide) ?_
  refine lv_iadd S.1 S.2.1 dL_law_392 ?_
  refine fx_topi (y := 1) (by decide) ?_
  refine gx_sld (v := a1) S hG hX hbl (fin_l (by decide)) hx1 dL_law_393 ?_
  refine fx_cVi (As := [.int a1]) (rest := []) S hG (k1587_X10_writeTree g_a1_le_m1 (by omega) h1) h1 rfl (cwV 1 S.2.2.2.2 gL_law_X10_writeTree rfl rfl rfl (by decide +kernel) ⟨Nat.le_of_ble_eq_true rfl, Nat.le_of_ble_eq_true rfl⟩) rfl hl.1 rfl (Nat.le_of_ble_eq_true rfl) dL_law_394 ⟨Nat.le_of_ble_eq_true rfl, Nat.le_of_ble_eq_true rfl⟩ (fun rv_2 _ H locs hp hG => ?_)
  subst rv_2
  refine lv_istore (lv' := [(7, .int 0), (6, .int 1), (0, .ref b), (1, .ref N0), (2, .ref (N0 + 164)), (3, .ref (N0 + 229)), (4, .ref (N0 + 230)), (5, .int 0)]) S.1 S.2.1 dL_law_397 hl (by decide) rfl (fun ls hl => ?_)
  refine lv_aload_n S.1 S.2.1 dL_law_399 rfl (lv_at hl 4 rfl) ?_
  refine fx_cVi (As := []) (rest := []) S hG (k25_X10_thrown (by omega) fu_s) fu_s rfl (cwV 0 S.2.2.2.2 gL_law_X10_thrown rfl rfl rfl (by decide +kernel) ⟨Nat.le_of_ble_eq_true rfl, Nat.le_of_ble_eq_true rfl⟩) rfl hl.1 rfl (Nat.le_of_ble_eq_true rfl) dL_law_400 ⟨Nat.le_of_ble_eq_true rfl, Nat.le_of_ble_eq_true rfl⟩ (fun rv_3 _ H locs hp hG => ?_)
  subst rv_3
  refine lv_iload S.1 S.2.1 dL_law_403 (lv_at hl 1 rfl) ?_
  refine lv_icmp_eq (tgt := 410) S.1 S.2.1 dL_law_405 (by decide) (fun _ => ?_) (fun c => absurd (by decide) c)
  refine lv_iload S.1 S.2.1 dL_law_410 (lv_at hl 1 rfl) ?_
  refine lv_if_ne (tgt := 427) S.1 S.2.1 dL_law_412 (by decide) (fun _ => ?_) (fun c => absurd c (by decide))
  refine lv_goto (tgt := 2650) S.1 S.2.1 dL_law_427 (by decide) ?_
  refine lv_iinc (v := 5) (lv' := [(5, .int 5), (7, .int 0), (6, .int 1), (0, .ref b), (1, .ref N0), (2, .ref (N0 + 164)), (3, .ref (N0 + 229)), (4, .ref (N0 + 230))]) S.1 S.2.1 dL_law_2650 hl (k := 7) rfl (by decide) (by decide) rfl (fun ls hl => ?_)
  refine lv_goto (tgt := 28) S.1 S.2.1 dL_law_2653 (by decide) ?_
  refine lv_iload S.1 S.2.1 dL_law_28 (lv_at hl 0 rfl) ?_
  refine lv_aload_n S.1 S.2.1 dL_law_30 rfl (lv_at hl 3 rfl) ?_
  refine gx_slen (v := 5) S hG hX hbl rfl dL_law_31 ?_
  refine lv_iconst (v := 5) S.1 S.2.1 dL_law_32 (by decide) ?_
  refine lv_isub S.1 S.2.1 dL_law_33 ?_
  refine fx_topi (y := 0) (by decide) ?_
  refine lv_icmp_gt (tgt := 2656) S.1 S.2.1 dL_law_34 (by decide) (fun _ => ?_) (fun c => absurd (by decide) c)
  refine lv_iconst (v := 1) S.1 S.2.1 dL_law_2656 (by decide) ?_
  refine va_forget (fun q hq => by rw [hN]; exact hG.2.1.2.2 q hq) ?_
  refine W.widen (k := 600002) (n := 7302232) (by decide) (by decide) ?_
  exact lw_ret (d0 := s.drawn) (Drawn.sameBut.refl _ _) S.1 S.2.1 hr hlocks dL_law_2657
theorem l3_1 {p : Program} {e : Env} {s : State} {m : MethodId} {below : List Frame} {meth : Method} {c : Code} {b : Nat} {xs : Nat → Int32} {H : Heap} {locs : List Loc} {ls : Array Slot} {n : Nat} {a2 a3 a4 : Int32} (S : CallFix p m c cL_law 9 s #[.ref b] wsL_law "TreeDifferLaw") (hr : meth.sig.returnType = ret) (hlocks : meth.locks = false) (hst : l.stackTraces = false) (hX : va_X b 5 xs s s.heap) (hbl : b < s.heap.size ∧ b < N0) (hN : s.heap.size = N0) (hn : N0 + 231 ≤ n) (hx1 : xs 1 = 0) (hx2 : xs 2 = a2) (hx3 : xs 3 = a3) (hx4 : xs 4 = a4) (h0 : F N0 = some (.inr (9, [.ref (N0 + 1), .ref (N0 + 2), .ref (N0 + 11), .ref (N0 + 13), .ref (N0 + 63), .ref (N0 + 65), .ref (N0 + 85), .int (-1), .int (-1), .int 32]))) (h1 : F (N0 + 1) = some (.inl (cTr, 3, .inr (.inr (.inr (.inr (va_up (va_up (va_up (fun _ => none) 0 (some (N0 + 143))) 1 (some (N0 + 150))) 2 (some (N0 + 157))))))))) (h2 : F (N0 + 11) = some (.inr (2, [.ref (N0 + 12), .int 0]))) (h3 : F (N0 + 143) = some (.inr (7, [.ref (N0 + 144), .ref (N0 + 145), .ref (N0 + 146), .ref (N0 + 147), .ref (N0 + 148), .ref (N0 + 149), .int 1]))) (h4 : F (N0 + 144) = some (.inl (cC, 20, .inl (upd (fun _ => 0) 0 97)))) (h5 : F (N0 + 12) = some (.inl (cC, 160, .inl (fun _ => 0)))) (h6 : F (N0 + 145) = some (.inl (cI, 20, .inl (fun _ => 0)))) (h7 : F (N0 + 146) = some (.inl (cI, 20, .inl (fun _ => 0)))) (h8 : F (N0 + 229) = some (.inl (cL, 1, .inr (.inl (fun _ => 0))))) (h9 : F (N0 + 164) = some (.inr (12, [.ref (N0 + 165), .int 0, .ref (N0 + 181), .int 0, .int 0, .int 0, .int (-1), .ref (ql 24), .ref (N0 + 182), .ref (N0 + 187), .ref (N0 + 208), .ref (N0 + 209), .ref (N0 + 210), .ref (N0 + 211), .ref (N0 + 212), .int 0, .ref (N0 + 213), .ref (N0 + 218), .ref (N0 + 223), .ref (N0 + 224), .ref (N0 + 225), .ref (N0 + 226), .ref (N0 + 227), .int 0, .int 0, .ref (N0 + 228), .null, .int (-1), .int 0, .int 0, .int 0]))) (h10 : F (N0 + 165) = some (.inl (cTm, 3, .inr (.inr (.inr (.inr (va_up (va_up (va_up (fun _ => none) 0 (some (N0 + 166))) 1 (some (N0 + 171))) 2 (some (N0 + 176))))))))) (h11 : F (N0 + 166) = some (.inr (11, [.ref (N0 + 167), .ref (N0 + 168), .ref (N0 + 169), .ref (N0 + 170), .int 1]))) (h12 : F (N0 + 167) = some (.inl (cI, 20, .inl (upd (fun _ => 0) 0 97)))) (h13 : F (N0 + 168) = some (.inl (cI, 20, .inl (upd (fun _ => 0) 0 0)))) (h14 : F (N0 + 169) = some (.inl (cI, 20, .inl (upd (fun _ => 0) 0 0)))) (hG : fG N0 D vwCl (fty cI cC cL cD cII cTr cTm cIt cB) (fen ql) s F n H locs) (hl : lv_has ls 9 [(0, .ref b), (1, .ref N0), (2, .ref (N0 + 164)), (3, .ref (N0 + 229)), (4, .ref (N0 + 230)), (5, .int 0)]) : W p l e { frames := 2048, cells := 600002, slots := 7302232, locals := 84000 } s m #[.ref b] below meth c H locs 231 4980 (lw_Z below #[.ref b] s) (F0 m 374 ls []) := by
  have lt_h0 := hG.1.lt h0
  have lt_h1 := hG.1.lt h1
  have lt_h2 := hG.1.lt h2
  have lt_h3 := hG.1.lt h3
  have lt_h4 := hG.1.lt h4
  have lt_h5 := hG.1.lt h5
  have lt_h6 := hG.1.lt h6
  have lt_h7 := hG.1.lt h7
  have lt_h8 := hG.1.lt h8
  have lt_h9 := hG.1.lt h9
  have lt_h10 := hG.1.lt h10
  have lt_h11 := hG.1.lt h11
  have lt_h12 := hG.1.lt h12
  have lt_h13 := hG.1.lt h13
  have lt_h14 := hG.1.lt h14
  refine lv_aload_n S.1 S.2.1 dL_law_374 rfl (lv_at hl 1 rfl) ?_
  refine lv_aload_n S.1 S.2.1 dL_law_375 rfl (lv_at hl 0 rfl) ?_
  refine lv_iload S.1 S.2.1 dL_law_376 (lv_at hl 5 rfl) ?_
  refine lv_iconst (v := 1) S.1 S.2.1 dL_law_378 (by decide) ?_
  refine lv_iadd S.1 S.2.1 dL_law_379 ?_
  refine fx_topi (y := 1) (by decide) ?_
  refine gx_sld (v := 0) S hG hX hbl (fin_l (by decide)) hx1 dL_law_380 ?_
  refine lv_aload_n S.1 S.2.1 dL_law_381 rfl (lv_at hl 3 rfl) ?_
  refine fx_cTi (As := [.ref N0, .int 0, .ref (N0 + 229)]) (rest := []) S hG (k1594_L_writeTree (by omega) h0 h1 h2 h3 h4 h5 h6 h7 h8) (vx_cwSW 3 S.2.2.2.2 gL_law_L_writeTree rfl rfl rfl (by decide +kernel) ⟨Nat.le_of_ble_eq_true rfl, Nat.le_of_ble_eq_true rfl⟩) rfl hl.1 rfl (Nat.le_of_ble_eq_true rfl) dL_law_382 ⟨Nat.le_of_ble_eq_true rfl, Nat.le_of_ble_eq_true rfl⟩ (fun rv_1 _ H locs hp hG => ?_)
  subst rv_1
  refine lv_istore (lv' := [(6, .int 0), (0, .ref b), (1, .ref N0), (2, .ref (N0 + 164)), (3, .ref (N0 + 229)), (4, .ref (N0 + 230)), (5, .int 0)]) S.1 S.2.1 dL_law_385 hl (by decide) rfl (fun ls hl => ?_)
  refine lv_aload_n S.1 S.2.1 dL_law_387 rfl (lv_at hl 3 rfl) ?_
  refine lv_aload_n S.1 S.2.1 dL_law_388 rfl (lv_at hl 1 rfl) ?_
  refine lv_iload S.1 S.2.1 dL_law_389 (lv_at hl 6 rfl) ?_
  refine lv_iconst (v := 1) S.1 S.2.1 dL_law_391 (by decide) ?_
  refine lv_iadd S.1 S.2.1 dL_law_392 ?_
  refine fx_topi (y := 1) (by decide) ?_
  refine gx_sld (v := 0) S hG hX hbl (fin_l (by decide)) hx1 dL_law_393 ?_
  refine fx_cVi (As := [.int 0]) (rest := []) S hG (k1615_X10_writeTree (by omega) (fu_at (by omega) (fu_at (by omega) (fu_at (by omega) h9))) (fu_at (by omega) (fu_at (by omega) (fu_at (by omega) h10))) (fu_at (by omega) (fu_at (by omega) (fu_at (by omega) h11))) (fu_at (by omega) (fu_at (by omega) (fu_at (by omega) h12))) (fu_at (by omega) (fu_at (by omega) (fu_at (by omega) h13))) (fu_at (by omega) (fu_at (by omega) (fu_at (by omega) h14)))) (fu_at (by omega) (fu_at (by omega) (fu_at (by omega) h9))) rfl (cwV 1 S.2.2.2.2 gL_law_X10_writeTree rfl rfl rfl (by decide +kernel) ⟨Nat.le_of_ble_eq_true rfl, Nat.le_of_ble_eq_true rfl⟩) rfl hl.1 rfl (Nat.le_of_ble_eq_true rfl) dL_law_394 ⟨Nat.le_of_ble_eq_true rfl, Nat.le_of_ble_eq_true rfl⟩ (fun rv_2 _ H locs hp hG => ?_)
  subst rv_2
  refine W.widen (k := 235) (n := 5005) (by decide) (by decide) ?_
  refine lv_istore (lv' := [(7, .int 1), (6, .int 0), (0, .ref b), (1, .ref N0), (2, .ref (N0 + 164)), (3, .ref (N0 + 229)), (4, .ref (N0 + 230)), (5, .int 0)]) S.1 S.2.1 dL_law_397 hl (by decide) rfl (fun ls hl => ?_)
  refine lv_aload_n S.1 S.2.1 dL_law_399 rfl (lv_at hl 4 rfl) ?_
  refine fx_cVi (As := []) (rest := []) S hG (k1616_X10_thrown (by omega) (by omega) (fblk_sk 4 rfl (by omega) fu_s)) (fblk_sk 4 rfl (by omega) fu_s) rfl (cwV 0 S.2.2.2.2 gL_law_X10_thrown rfl rfl rfl (by decide +kernel) ⟨Nat.le_of_ble_eq_true rfl, Nat.le_of_ble_eq_true rfl⟩) rfl hl.1 rfl (Nat.le_of_ble_eq_true rfl) dL_law_400 ⟨Nat.le_of_ble_eq_true rfl, Nat.le_of_ble_eq_true rfl⟩ (fun rv_3 _ H locs hp hG => ?_)
  subst rv_3
  refine lv_iload S.1 S.2.1 dL_law_403 (lv_at hl 1 rfl) ?_
  refine lv_icmp_eq (tgt := 410) S.1 S.2.1 dL_law_405 (by decide) (fun _ => ?_) (fun c => absurd (by decide) c)
  refine lv_iload S.1 S.2.1 dL_law_410 (lv_at hl 1 rfl) ?_
  refine lv_if_ne (tgt := 427) S.1 S.2.1 dL_law_412 (by decide) (fun c => absurd (by decide) c) (fun _ => ?_)
  refine lv_aload_n S.1 S.2.1 dL_law_415 rfl (lv_at hl 5 rfl) ?_
  refine lv_iconst (v := 0) S.1 S.2.1 dL_law_416 (by decide) ?_
  refine gx_lald (v := 1) S hG 2 (fblk_sk 4 rfl (by omega) (fu_at (by omega) fu_s)) rfl (fin_l (by decide)) rfl dL_law_417 ?_
  refine lv_iload S.1 S.2.1 dL_law_418 (lv_at hl 0 rfl) ?_
  refine lv_i2l (v := 1) S.1 S.2.1 dL_law_420 (by decide) ?_
  refine gx_lcmpEq S rfl dL_law_421 ?_
  refine lv_if_eq (tgt := 427) S.1 S.2.1 dL_law_422 (by decide) (fun _ => ?_) (fun c => absurd (by decide) c)
  refine lv_goto (tgt := 2650) S.1 S.2.1 dL_law_427 (by decide) ?_
  refine lv_iinc (v := 5) (lv' := [(5, .int 5), (7, .int 1), (6, .int 0), (0, .ref b), (1, .ref N0), (2, .ref (N0 + 164)), (3, .ref (N0 + 229)), (4, .ref (N0 + 230))]) S.1 S.2.1 dL_law_2650 hl (k := 7) rfl (by decide) (by decide) rfl (fun ls hl => ?_)
  refine lv_goto (tgt := 28) S.1 S.2.1 dL_law_2653 (by decide) ?_
  refine lv_iload S.1 S.2.1 dL_law_28 (lv_at hl 0 rfl) ?_
  refine lv_aload_n S.1 S.2.1 dL_law_30 rfl (lv_at hl 3 rfl) ?_
  refine gx_slen (v := 5) S hG hX hbl rfl dL_law_31 ?_
  refine lv_iconst (v := 5) S.1 S.2.1 dL_law_32 (by decide) ?_
  refine lv_isub S.1 S.2.1 dL_law_33 ?_
  refine fx_topi (y := 0) (by decide) ?_
  refine lv_icmp_gt (tgt := 2656) S.1 S.2.1 dL_law_34 (by decide) (fun _ => ?_) (fun c => absurd (by decide) c)
  refine lv_iconst (v := 1) S.1 S.2.1 dL_law_2656 (by decide) ?_
  refine va_forget (fun q hq => by rw [hN]; exact hG.2.1.2.2 q hq) ?_
  refine W.widen (k := 600002) (n := 7302232) (by decide) (by decide) ?_
  exact lw_ret (d0 := s.drawn) (Drawn.sameBut.refl _ _) S.1 S.2.1 hr hlocks dL_law_2657
theorem l3_2 {p : Program} {e : Env} {s : State} {m : MethodId} {below : List Frame} {meth : Method} {c : Code} {b : Nat} {xs : Nat → Int32} {H : Heap} {locs : List Loc} {ls : Array Slot} {n : Nat} {a2 a3 a4 : Int32} (S : CallFix p m c cL_law 9 s #[.ref b] wsL_law "TreeDifferLaw") (hr : meth.sig.returnType = ret) (hlocks : meth.locks = false) (hst : l.stackTraces = false) (hX : va_X b 5 xs s s.heap) (hbl : b < s.heap.size ∧ b < N0) (hN : s.heap.size = N0) (hn : N0 + 231 ≤ n) (hx1 : xs 1 = 1) (hx2 : xs 2 = a2) (hx3 : xs 3 = a3) (hx4 : xs 4 = a4) (h0 : F N0 = some (.inr (9, [.ref (N0 + 1), .ref (N0 + 2), .ref (N0 + 11), .ref (N0 + 13), .ref (N0 + 63), .ref (N0 + 65), .ref (N0 + 85), .int (-1), .int (-1), .int 32]))) (h1 : F (N0 + 1) = some (.inl (cTr, 3, .inr (.inr (.inr (.inr (va_up (va_up (va_up (fun _ => none) 0 (some (N0 + 143))) 1 (some (N0 + 150))) 2 (some (N0 + 157))))))))) (h2 : F (N0 + 11) = some (.inr (2, [.ref (N0 + 12), .int 0]))) (h3 : F (N0 + 150) = some (.inr (7, [.ref (N0 + 151), .ref (N0 + 152), .ref (N0 + 153), .ref (N0 + 154), .ref (N0 + 155), .ref (N0 + 156), .int 1]))) (h4 : F (N0 + 151) = some (.inl (cC, 20, .inl (upd (fun _ => 0) 0 97)))) (h5 : F (N0 + 12) = some (.inl (cC, 160, .inl (fun _ => 0)))) (h6 : F (N0 + 152) = some (.inl (cI, 20, .inl (fun _ => 0)))) (h7 : F (N0 + 153) = some (.inl (cI, 20, .inl (fun _ => 0)))) (h8 : F (N0 + 229) = some (.inl (cL, 1, .inr (.inl (fun _ => 0))))) (h9 : F (N0 + 164) = some (.inr (12, [.ref (N0 + 165), .int 0, .ref (N0 + 181), .int 0, .int 0, .int 0, .int (-1), .ref (ql 24), .ref (N0 + 182), .ref (N0 + 187), .ref (N0 + 208), .ref (N0 + 209), .ref (N0 + 210), .ref (N0 + 211), .ref (N0 + 212), .int 0, .ref (N0 + 213), .ref (N0 + 218), .ref (N0 + 223), .ref (N0 + 224), .ref (N0 + 225), .ref (N0 + 226), .ref (N0 + 227), .int 0, .int 0, .ref (N0 + 228), .null, .int (-1), .int 0, .int 0, .int 0]))) (h10 : F (N0 + 165) = some (.inl (cTm, 3, .inr (.inr (.inr (.inr (va_up (va_up (va_up (fun _ => none) 0 (some (N0 + 166))) 1 (some (N0 + 171))) 2 (some (N0 + 176))))))))) (h11 : F (N0 + 171) = some (.inr (11, [.ref (N0 + 172), .ref (N0 + 173), .ref (N0 + 174), .ref (N0 + 175), .int 1]))) (h12 : F (N0 + 172) = some (.inl (cI, 20, .inl (upd (fun _ => 0) 0 97)))) (h13 : F (N0 + 173) = some (.inl (cI, 20, .inl (upd (fun _ => 0) 0 0)))) (h14 : F (N0 + 174) = some (.inl (cI, 20, .inl (upd (fun _ => 0) 0 0)))) (hG : fG N0 D vwCl (fty cI cC cL cD cII cTr cTm cIt cB) (fen ql) s F n H locs) (hl : lv_has ls 9 [(0, .ref b), (1, .ref N0), (2, .ref (N0 + 164)), (3, .ref (N0 + 229)), (4, .ref (N0 + 230)), (5, .int 0)]) : W p l e { frames := 2048, cells := 600002, slots := 7302232, locals := 84000 } s m #[.ref b] below meth c H locs 231 4980 (lw_Z below #[.ref b] s) (F0 m 374 ls []) := by
  have lt_h0 := hG.1.lt h0
  have lt_h1 := hG.1.lt h1
  have lt_h2 := hG.1.lt h2
  have lt_h3 := hG.1.lt h3
  have lt_h4 := hG.1.lt h4
  have lt_h5 := hG.1.lt h5
  have lt_h6 := hG.1.lt h6
  have lt_h7 := hG.1.lt h7
  have lt_h8 := hG.1.lt h8
  have lt_h9 := hG.1.lt h9
  have lt_h10 := hG.1.lt h10
  have lt_h11 := hG.1.lt h11
  have lt_h12 := hG.1.lt h12
  have lt_h13 := hG.1.lt h13
  have lt_h14 := hG.1.lt h14
  refine lv_aload_n S.1 S.2.1 dL_law_374 rfl (lv_at hl 1 rfl) ?_
  refine lv_aload_n S.1 S.2.1 dL_law_375 rfl (lv_at hl 0 rfl) ?_
  refine lv_iload S.1 S.2.1 dL_law_376 (lv_at hl 5 rfl) ?_
  refine lv_iconst (v := 1) S.1 S.2.1 dL_law_378 (by decide) ?_
  refine lv_iadd S.1 S.2.1 dL_law_379 ?_
  refine fx_topi (y := 1) (by decide) ?_
  refine gx_sld (v := 1) S hG hX hbl (fin_l (by decide)) hx1 dL_law_380 ?_
  refine lv_aload_n S.1 S.2.1 dL_law_381 rfl (lv_at hl 3 rfl) ?_
  refine fx_cTi (As := [.ref N0, .int 1, .ref (N0 + 229)]) (rest := []) S hG (k1621_L_writeTree (by omega) h0 h1 h2 h3 h4 h5 h6 h7 h8) (vx_cwSW 3 S.2.2.2.2 gL_law_L_writeTree rfl rfl rfl (by decide +kernel) ⟨Nat.le_of_ble_eq_true rfl, Nat.le_of_ble_eq_true rfl⟩) rfl hl.1 rfl (Nat.le_of_ble_eq_true rfl) dL_law_382 ⟨Nat.le_of_ble_eq_true rfl, Nat.le_of_ble_eq_true rfl⟩ (fun rv_1 _ H locs hp hG => ?_)
  subst rv_1
  refine lv_istore (lv' := [(6, .int 0), (0, .ref b), (1, .ref N0), (2, .ref (N0 + 164)), (3, .ref (N0 + 229)), (4, .ref (N0 + 230)), (5, .int 0)]) S.1 S.2.1 dL_law_385 hl (by decide) rfl (fun ls hl => ?_)
  refine lv_aload_n S.1 S.2.1 dL_law_387 rfl (lv_at hl 3 rfl) ?_
  refine lv_aload_n S.1 S.2.1 dL_law_388 rfl (lv_at hl 1 rfl) ?_
  refine lv_iload S.1 S.2.1 dL_law_389 (lv_at hl 6 rfl) ?_
  refine lv_iconst (v := 1) S.1 S.2.1 dL_law_391 (by decide) ?_
  refine lv_iadd S.1 S.2.1 dL_law_392 ?_
  refine fx_topi (y := 1) (by decide) ?_
  refine gx_sld (v := 1) S hG hX hbl (fin_l (by decide)) hx1 dL_law_393 ?_
  refine fx_cVi (As := [.int 1]) (rest := []) S hG (k1623_X10_writeTree (by omega) (fu_at (by omega) (fu_at (by omega) (fu_at (by omega) h9))) (fu_at (by omega) (fu_at (by omega) (fu_at (by omega) h10))) (fu_at (by omega) (fu_at (by omega) (fu_at (by omega) h11))) (fu_at (by omega) (fu_at (by omega) (fu_at (by omega) h12))) (fu_at (by omega) (fu_at (by omega) (fu_at (by omega) h13))) (fu_at (by omega) (fu_at (by omega) (fu_at (by omega) h14)))) (fu_at (by omega) (fu_at (by omega) (fu_at (by omega) h9))) rfl (cwV 1 S.2.2.2.2 gL_law_X10_writeTree rfl rfl rfl (by decide +kernel) ⟨Nat.le_of_ble_eq_true rfl, Nat.le_of_ble_eq_true rfl⟩) rfl hl.1 rfl (Nat.le_of_ble_eq_true rfl) dL_law_394 ⟨Nat.le_of_ble_eq_true rfl, Nat.le_of_ble_eq_true rfl⟩ (fun rv_2 _ H locs hp hG => ?_)
  subst rv_2
  refine W.widen (k := 235) (n := 5005) (by decide) (by decide) ?_
  refine lv_istore (lv' := [(7, .int 1), (6, .int 0), (0, .ref b), (1, .ref N0), (2, .ref (N0 + 164)), (3, .ref (N0 + 229)), (4, .ref (N0 + 230)), (5, .int 0)]) S.1 S.2.1 dL_law_397 hl (by decide) rfl (fun ls hl => ?_)
  refine lv_aload_n S.1 S.2.1 dL_law_399 rfl (lv_at hl 4 rfl) ?_
  refine fx_cVi (As := []) (rest := []) S hG (k1616_X10_thrown (by omega) (by omega) (fblk_sk 4 rfl (by omega) fu_s)) (fblk_sk 4 rfl (by omega) fu_s) rfl (cwV 0 S.2.2.2.2 gL_law_X10_thrown rfl rfl rfl (by decide +kernel) ⟨Nat.le_of_ble_eq_true rfl, Nat.le_of_ble_eq_true rfl⟩) rfl hl.1 rfl (Nat.le_of_ble_eq_true rfl) dL_law_400 ⟨Nat.le_of_ble_eq_true rfl, Nat.le_of_ble_eq_true rfl⟩ (fun rv_3 _ H locs hp hG => ?_)
  subst rv_3
  refine lv_iload S.1 S.2.1 dL_law_403 (lv_at hl 1 rfl) ?_
  refine lv_icmp_eq (tgt := 410) S.1 S.2.1 dL_law_405 (by decide) (fun _ => ?_) (fun c => absurd (by decide) c)
  refine lv_iload S.1 S.2.1 dL_law_410 (lv_at hl 1 rfl) ?_
  refine lv_if_ne (tgt := 427) S.1 S.2.1 dL_law_412 (by decide) (fun c => absurd (by decide) c) (fun _ => ?_)
  refine lv_aload_n S.1 S.2.1 dL_law_415 rfl (lv_at hl 5 rfl) ?_
  refine lv_iconst (v := 0) S.1 S.2.1 dL_law_416 (by decide) ?_
  refine gx_lald (v := 1) S hG 2 (fblk_sk 4 rfl (by omega) (fu_at (by omega) fu_s)) rfl (fin_l (by decide)) rfl dL_law_417 ?_
  refine lv_iload S.1 S.2.1 dL_law_418 (lv_at hl 0 rfl) ?_
  refine lv_i2l (v := 1) S.1 S.2.1 dL_law_420 (by decide) ?_
  refine gx_lcmpEq S rfl dL_law_421 ?_
  refine lv_if_eq (tgt := 427) S.1 S.2.1 dL_law_422 (by decide) (fun _ => ?_) (fun c => absurd (by decide) c)
  refine lv_goto (tgt := 2650) S.1 S.2.1 dL_law_427 (by decide) ?_
  refine lv_iinc (v := 5) (lv' := [(5, .int 5), (7, .int 1), (6, .int 0), (0, .ref b), (1, .ref N0), (2, .ref (N0 + 164)), (3, .ref (N0 + 229)), (4, .ref (N0 + 230))]) S.1 S.2.1 dL_law_2650 hl (k := 7) rfl (by decide) (by decide) rfl (fun ls hl => ?_)
  refine lv_goto (tgt := 28) S.1 S.2.1 dL_law_2653 (by decide) ?_
  refine lv_iload S.1 S.2.1 dL_law_28 (lv_at hl 0 rfl) ?_
  refine lv_aload_n S.1 S.2.1 dL_law_30 rfl (lv_at hl 3 rfl) ?_
  refine gx_slen (v := 5) S hG hX hbl rfl dL_law_31 ?_
  refine lv_iconst (v := 5) S.1 S.2.1 dL_law_32 (by decide) ?_
  refine lv_isub S.1 S.2.1 dL_law_33 ?_
  refine fx_topi (y := 0) (by decide) ?_
  refine lv_icmp_gt (tgt := 2656) S.1 S.2.1 dL_law_34 (by decide) (fun _ => ?_) (fun c => absurd (by decide) c)
  refine lv_iconst (v := 1) S.1 S.2.1 dL_law_2656 (by decide) ?_
  refine va_forget (fun q hq => by rw [hN]; exact hG.2.1.2.2 q hq) ?_
  refine W.widen (k := 600002) (n := 7302232) (by decide) (by decide) ?_
  exact lw_ret (d0 := s.drawn) (Drawn.sameBut.refl _ _) S.1 S.2.1 hr hlocks dL_law_2657
theorem l3_3 {p : Program} {e : Env} {s : State} {m : MethodId} {below : List Frame} {meth : Method} {c : Code} {b : Nat} {xs : Nat → Int32} {H : Heap} {locs : List Loc} {ls : Array Slot} {n : Nat} {a2 a3 a4 : Int32} (S : CallFix p m c cL_law 9 s #[.ref b] wsL_law "TreeDifferLaw") (hr : meth.sig.returnType = ret) (hlocks : meth.locks = false) (hst : l.stackTraces = false) (hX : va_X b 5 xs s s.heap) (hbl : b < s.heap.size ∧ b < N0) (hN : s.heap.size = N0) (hn : N0 + 231 ≤ n) (hx1 : xs 1 = 2) (hx2 : xs 2 = a2) (hx3 : xs 3 = a3) (hx4 : xs 4 = a4) (h0 : F N0 = some (.inr (9, [.ref (N0 + 1), .ref (N0 + 2), .ref (N0 + 11), .ref (N0 + 13), .ref (N0 + 63), .ref (N0 + 65), .ref (N0 + 85), .int (-1), .int (-1), .int 32]))) (h1 : F (N0 + 1) = some (.inl (cTr, 3, .inr (.inr (.inr (.inr (va_up (va_up (va_up (fun _ => none) 0 (some (N0 + 143))) 1 (some (N0 + 150))) 2 (some (N0 + 157))))))))) (h2 : F (N0 + 11) = some (.inr (2, [.ref (N0 + 12), .int 0]))) (h3 : F (N0 + 157) = some (.inr (7, [.ref (N0 + 158), .ref (N0 + 159), .ref (N0 + 160), .ref (N0 + 161), .ref (N0 + 162), .ref (N0 + 163), .int 1]))) (h4 : F (N0 + 158) = some (.inl (cC, 20, .inl (upd (fun _ => 0) 0 97)))) (h5 : F (N0 + 12) = some (.inl (cC, 160, .inl (fun _ => 0)))) (h6 : F (N0 + 159) = some (.inl (cI, 20, .inl (fun _ => 0)))) (h7 : F (N0 + 160) = some (.inl (cI, 20, .inl (fun _ => 0)))) (h8 : F (N0 + 229) = some (.inl (cL, 1, .inr (.inl (fun _ => 0))))) (h9 : F (N0 + 164) = some (.inr (12, [.ref (N0 + 165), .int 0, .ref (N0 + 181), .int 0, .int 0, .int 0, .int (-1), .ref (ql 24), .ref (N0 + 182), .ref (N0 + 187), .ref (N0 + 208), .ref (N0 + 209), .ref (N0 + 210), .ref (N0 + 211), .ref (N0 + 212), .int 0, .ref (N0 + 213), .ref (N0 + 218), .ref (N0 + 223), .ref (N0 + 224), .ref (N0 + 225), .ref (N0 + 226), .ref (N0 + 227), .int 0, .int 0, .ref (N0 + 228), .null, .int (-1), .int 0, .int 0, .int 0]))) (h10 : F (N0 + 165) = some (.inl (cTm, 3, .inr (.inr (.inr (.inr (va_up (va_up (va_up (fun _ => none) 0 (some (N0 + 166))) 1 (some (N0 + 171))) 2 (some (N0 + 176))))))))) (h11 : F (N0 + 176) = some (.inr (11, [.ref (N0 + 177), .ref (N0 + 178), .ref (N0 + 179), .ref (N0 + 180), .int 1]))) (h12 : F (N0 + 177) = some (.inl (cI, 20, .inl (upd (fun _ => 0) 0 97)))) (h13 : F (N0 + 178) = some (.inl (cI, 20, .inl (upd (fun _ => 0) 0 0)))) (h14 : F (N0 + 179) = some (.inl (cI, 20, .inl (upd (fun _ => 0) 0 0)))) (hG : fG N0 D vwCl (fty cI cC cL cD cII cTr cTm cIt cB) (fen ql) s F n H locs) (hl : lv_has ls 9 [(0, .ref b), (1, .ref N0), (2, .ref (N0 + 164)), (3, .ref (N0 + 229)), (4, .ref (N0 + 230)), (5, .int 0)]) : W p l e { frames := 2048, cells := 600002, slots := 7302232, locals := 84000 } s m #[.ref b] below meth c H locs 231 4980 (lw_Z below #[.ref b] s) (F0 m 374 ls []) := by
  have lt_h0 := hG.1.lt h0
  have lt_h1 := hG.1.lt h1
  have lt_h2 := hG.1.lt h2
  have lt_h3 := hG.1.lt h3
  have lt_h4 := hG.1.lt h4
  have lt_h5 := hG.1.lt h5
  have lt_h6 := hG.1.lt h6
  have lt_h7 := hG.1.lt h7
  have lt_h8 := hG.1.lt h8
  have lt_h9 := hG.1.lt h9
  have lt_h10 := hG.1.lt h10
  have lt_h11 := hG.1.lt h11
  have lt_h12 := hG.1.lt h12
  have lt_h13 := hG.1.lt h13
  have lt_h14 := hG.1.lt h14
  refine lv_aload_n S.1 S.2.1 dL_law_374 rfl (lv_at hl 1 rfl) ?_
  refine lv_aload_n S.1 S.2.1 dL_law_375 rfl (lv_at hl 0 rfl) ?_
  refine lv_iload S.1 S.2.1 dL_law_376 (lv_at hl 5 rfl) ?_
  refine lv_iconst (v := 1) S.1 S.2.1 dL_law_378 (by decide) ?_
  refine lv_iadd S.1 S.2.1 dL_law_379 ?_
  refine fx_topi (y := 1) (by decide) ?_
  refine gx_sld (v := 2) S hG hX hbl (fin_l (by decide)) hx1 dL_law_380 ?_
  refine lv_aload_n S.1 S.2.1 dL_law_381 rfl (lv_at hl 3 rfl) ?_
  refine fx_cTi (As := [.ref N0, .int 2, .ref (N0 + 229)]) (rest := []) S hG (k1628_L_writeTree (by omega) h0 h1 h2 h3 h4 h5 h6 h7 h8) (vx_cwSW 3 S.2.2.2.2 gL_law_L_writeTree rfl rfl rfl (by decide +kernel) ⟨Nat.le_of_ble_eq_true rfl, Nat.le_of_ble_eq_true rfl⟩) rfl hl.1 rfl (Nat.le_of_ble_eq_true rfl) dL_law_382 ⟨Nat.le_of_ble_eq_true rfl, Nat.le_of_ble_eq_true rfl⟩ (fun rv_1 _ H locs hp hG => ?_)
  subst rv_1
  refine lv_istore (lv' := [(6, .int 0), (0, .ref b), (1, .ref N0), (2, .ref (N0 + 164)), (3, .ref (N0 + 229)), (4, .ref (N0 + 230)), (5, .int 0)]) S.1 S.2.1 dL_law_385 hl (by decide) rfl (fun ls hl => ?_)
  refine lv_aload_n S.1 S.2.1 dL_law_387 rfl (lv_at hl 3 rfl) ?_
  refine lv_aload_n S.1 S.2.1 dL_law_388 rfl (lv_at hl 1 rfl) ?_
  refine lv_iload S.1 S.2.1 dL_law_389 (lv_at hl 6 rfl) ?_
  refine lv_iconst (v := 1) S.1 S.2.1 dL_law_391 (by decide) ?_
  refine lv_iadd S.1 S.2.1 dL_law_392 ?_
  refine fx_topi (y := 1) (by decide) ?_
  refine gx_sld (v := 2) S hG hX hbl (fin_l (by decide)) hx1 dL_law_393 ?_
  refine fx_cVi (As := [.int 2]) (rest := []) S hG (k1630_X10_writeTree (by omega) (fu_at (by omega) (fu_at (by omega) (fu_at (by omega) h9))) (fu_at (by omega) (fu_at (by omega) (fu_at (by omega) h10))) (fu_at (by omega) (fu_at (by omega) (fu_at (by omega) h11))) (fu_at (by omega) (fu_at (by omega) (fu_at (by omega) h12))) (fu_at (by omega) (fu_at (by omega) (fu_at (by omega) h13))) (fu_at (by omega) (fu_at (by omega) (fu_at (by omega) h14)))) (fu_at (by omega) (fu_at (by omega) (fu_at (by omega) h9))) rfl (cwV 1 S.2.2.2.2 gL_law_X10_writeTree rfl rfl rfl (by decide +kernel) ⟨Nat.le_of_ble_eq_true rfl, Nat.le_of_ble_eq_true rfl⟩) rfl hl.1 rfl (Nat.le_of_ble_eq_true rfl) dL_law_394 ⟨Nat.le_of_ble_eq_true rfl, Nat.le_of_ble_eq_true rfl⟩ (fun rv_2 _ H locs hp hG => ?_)
  subst rv_2
  refine W.widen (k := 235) (n := 5005) (by decide) (by decide) ?_
  refine lv_istore (lv' := [(7, .int 1), (6, .int 0), (0, .ref b), (1, .ref N0), (2, .ref (N0 + 164)), (3, .ref (N0 + 229)), (4, .ref (N0 + 230)), (5, .int 0)]) S.1 S.2.1 dL_law_397 hl (by decide) rfl (fun ls hl => ?_)
  refine lv_aload_n S.1 S.2.1 dL_law_399 rfl (lv_at hl 4 rfl) ?_
  refine fx_cVi (As := []) (rest := []) S hG (k1616_X10_thrown (by omega) (by omega) (fblk_sk 4 rfl (by omega) fu_s)) (fblk_sk 4 rfl (by omega) fu_s) rfl (cwV 0 S.2.2.2.2 gL_law_X10_thrown rfl rfl rfl (by decide +kernel) ⟨Nat.le_of_ble_eq_true rfl, Nat.le_of_ble_eq_true rfl⟩) rfl hl.1 rfl (Nat.le_of_ble_eq_true rfl) dL_law_400 ⟨Nat.le_of_ble_eq_true rfl, Nat.le_of_ble_eq_true rfl⟩ (fun rv_3 _ H locs hp hG => ?_)
  subst rv_3
  refine lv_iload S.1 S.2.1 dL_law_403 (lv_at hl 1 rfl) ?_
  refine lv_icmp_eq (tgt := 410) S.1 S.2.1 dL_law_405 (by decide) (fun _ => ?_) (fun c => absurd (by decide) c)
  refine lv_iload S.1 S.2.1 dL_law_410 (lv_at hl 1 rfl) ?_
  refine lv_if_ne (tgt := 427) S.1 S.2.1 dL_law_412 (by decide) (fun c => absurd (by decide) c) (fun _ => ?_)
  refine lv_aload_n S.1 S.2.1 dL_law_415 rfl (lv_at hl 5 rfl) ?_
  refine lv_iconst (v := 0) S.1 S.2.1 dL_law_416 (by decide) ?_
  refine gx_lald (v := 1) S hG 2 (fblk_sk 4 rfl (by omega) (fu_at (by omega) fu_s)) rfl (fin_l (by decide)) rfl dL_law_417 ?_
  refine lv_iload S.1 S.2.1 dL_law_418 (lv_at hl 0 rfl) ?_
  refine lv_i2l (v := 1) S.1 S.2.1 dL_law_420 (by decide) ?_
  refine gx_lcmpEq S rfl dL_law_421 ?_
  refine lv_if_eq (tgt := 427) S.1 S.2.1 dL_law_422 (by decide) (fun _ => ?_) (fun c => absurd (by decide) c)
  refine lv_goto (tgt := 2650) S.1 S.2.1 dL_law_427 (by decide) ?_
  refine lv_iinc (v := 5) (lv' := [(5, .int 5), (7, .int 1), (6, .int 0), (0, .ref b), (1, .ref N0), (2, .ref (N0 + 164)), (3, .ref (N0 + 229)), (4, .ref (N0 + 230))]) S.1 S.2.1 dL_law_2650 hl (k := 7) rfl (by decide) (by decide) rfl (fun ls hl => ?_)
  refine lv_goto (tgt := 28) S.1 S.2.1 dL_law_2653 (by decide) ?_
  refine lv_iload S.1 S.2.1 dL_law_28 (lv_at hl 0 rfl) ?_
  refine lv_aload_n S.1 S.2.1 dL_law_30 rfl (lv_at hl 3 rfl) ?_
  refine gx_slen (v := 5) S hG hX hbl rfl dL_law_31 ?_
  refine lv_iconst (v := 5) S.1 S.2.1 dL_law_32 (by decide) ?_
  refine lv_isub S.1 S.2.1 dL_law_33 ?_
  refine fx_topi (y := 0) (by decide) ?_
  refine lv_icmp_gt (tgt := 2656) S.1 S.2.1 dL_law_34 (by decide) (fun _ => ?_) (fun c => absurd (by decide) c)
  refine lv_iconst (v := 1) S.1 S.2.1 dL_law_2656 (by decide) ?_
  refine va_forget (fun q hq => by rw [hN]; exact hG.2.1.2.2 q hq) ?_
  refine W.widen (k := 600002) (n := 7302232) (by decide) (by decide) ?_
  exact lw_ret (d0 := s.drawn) (Drawn.sameBut.refl _ _) S.1 S.2.1 hr hlocks dL_law_2657
theorem l3_4 {p : Program} {e : Env} {s : State} {m : MethodId} {below : List Frame} {meth : Method} {c : Code} {b : Nat} {xs : Nat → Int32} {H : Heap} {locs : List Loc} {ls : Array Slot} {n : Nat} {a1 a2 a3 a4 : Int32} (g_a1_ge_3 : 3 ≤ a1) (S : CallFix p m c cL_law 9 s #[.ref b] wsL_law "TreeDifferLaw") (hr : meth.sig.returnType = ret) (hlocks : meth.locks = false) (hst : l.stackTraces = false) (hX : va_X b 5 xs s s.heap) (hbl : b < s.heap.size ∧ b < N0) (hN : s.heap.size = N0) (hn : N0 + 231 ≤ n) (hx1 : xs 1 = a1) (hx2 : xs 2 = a2) (hx3 : xs 3 = a3) (hx4 : xs 4 = a4) (h0 : F N0 = some (.inr (9, [.ref (N0 + 1), .ref (N0 + 2), .ref (N0 + 11), .ref (N0 + 13), .ref (N0 + 63), .ref (N0 + 65), .ref (N0 + 85), .int (-1), .int (-1), .int 32]))) (h1 : F (N0 + 164) = some (.inr (12, [.ref (N0 + 165), .int 0, .ref (N0 + 181), .int 0, .int 0, .int 0, .int (-1), .ref (ql 24), .ref (N0 + 182), .ref (N0 + 187), .ref (N0 + 208), .ref (N0 + 209), .ref (N0 + 210), .ref (N0 + 211), .ref (N0 + 212), .int 0, .ref (N0 + 213), .ref (N0 + 218), .ref (N0 + 223), .ref (N0 + 224), .ref (N0 + 225), .ref (N0 + 226), .ref (N0 + 227), .int 0, .int 0, .ref (N0 + 228), .null, .int (-1), .int 0, .int 0, .int 0]))) (hG : fG N0 D vwCl (fty cI cC cL cD cII cTr cTm cIt cB) (fen ql) s F n H locs) (hl : lv_has ls 9 [(0, .ref b), (1, .ref N0), (2, .ref (N0 + 164)), (3, .ref (N0 + 229)), (4, .ref (N0 + 230)), (5, .int 0)]) : W p l e { frames := 2048, cells := 600002, slots := 7302232, locals := 84000 } s m #[.ref b] below meth c H locs 231 4980 (lw_Z below #[.ref b] s) (F0 m 374 ls []) := by
  have lt_h0 := hG.1.lt h0
  have lt_h1 := hG.1.lt h1
  refine lv_aload_n S.1 S.2.1 dL_law_374 rfl (lv_at hl 1 rfl) ?_
  refine lv_aload_n S.1 S.2.1 dL_law_375 rfl (lv_at hl 0 rfl) ?_
  refine lv_iload S.1 S.2.1 dL_law_376 (lv_at hl 5 rfl) ?_
  refine lv_iconst (v := 1) S.1 S.2.1 dL_law_378 (by decide) ?_
  refine lv_iadd S.1 S.2.1 dL_law_379 ?_
  refine fx_topi (y := 1) (by decide) ?_
  refine gx_sld (v := a1) S hG hX hbl (fin_l (by decide)) hx1 dL_law_380 ?_
  refine lv_aload_n S.1 S.2.1 dL_law_381 rfl (lv_at hl 3 rfl) ?_
  refine fx_cTi (As := [.ref N0, .int a1, .ref (N0 + 229)]) (rest := []) S hG (k1632_L_writeTree g_a1_ge_3 hst (by omega) h0) (vx_cwSW 3 S.2.2.2.2 gL_law_L_writeTree rfl rfl rfl (by decide +kernel) ⟨Nat.le_of_ble_eq_true rfl, Nat.le_of_ble_eq_true rfl⟩) rfl hl.1 rfl (Nat.le_of_ble_eq_true rfl) dL_law_382 ⟨Nat.le_of_ble_eq_true rfl, Nat.le_of_ble_eq_true rfl⟩ (fun rv_u_1 u_1 H locs hp hG => ?_)
  obtain ⟨rfl, hu_1⟩ := hp
  refine W.widen (k := 232) (n := 4986) (by decide) (by decide) ?_
  refine lv_istore (lv' := [(6, .int 1), (0, .ref b), (1, .ref N0), (2, .ref (N0 + 164)), (3, .ref (N0 + 229)), (4, .ref (N0 + 230)), (5, .int 0)]) S.1 S.2.1 dL_law_385 hl (by decide) rfl (fun ls hl => ?_)
  refine lv_aload_n S.1 S.2.1 dL_law_387 rfl (lv_at hl 3 rfl) ?_
  refine lv_aload_n S.1 S.2.1 dL_law_388 rfl (lv_at hl 1 rfl) ?_
  refine lv_iload S.1 S.2.1 dL_law_389 (lv_at hl 6 rfl) ?_
  refine lv_iconst (v := 1) S.1 S.2.1 dL_law_391 (by decide) ?_
  refine lv_iadd S.1 S.2.1 dL_law_392 ?_
  refine fx_topi (y := 1) (by decide) ?_
  refine gx_sld (v := a1) S hG hX hbl (fin_l (by decide)) hx1 dL_law_393 ?_
  refine fx_cVi (As := [.int a1]) (rest := []) S hG (k1633_X10_writeTree g_a1_ge_3 (by omega) h1) h1 rfl (cwV 1 S.2.2.2.2 gL_law_X10_writeTree rfl rfl rfl (by decide +kernel) ⟨Nat.le_of_ble_eq_true rfl, Nat.le_of_ble_eq_true rfl⟩) rfl hl.1 rfl (Nat.le_of_ble_eq_true rfl) dL_law_394 ⟨Nat.le_of_ble_eq_true rfl, Nat.le_of_ble_eq_true rfl⟩ (fun rv_2 _ H locs hp hG => ?_)
  subst rv_2
  refine lv_istore (lv' := [(7, .int 0), (6, .int 1), (0, .ref b), (1, .ref N0), (2, .ref (N0 + 164)), (3, .ref (N0 + 229)), (4, .ref (N0 + 230)), (5, .int 0)]) S.1 S.2.1 dL_law_397 hl (by decide) rfl (fun ls hl => ?_)
  refine lv_aload_n S.1 S.2.1 dL_law_399 rfl (lv_at hl 4 rfl) ?_
  refine fx_cVi (As := []) (rest := []) S hG (k25_X10_thrown (by omega) fu_s) fu_s rfl (cwV 0 S.2.2.2.2 gL_law_X10_thrown rfl rfl rfl (by decide +kernel) ⟨Nat.le_of_ble_eq_true rfl, Nat.le_of_ble_eq_true rfl⟩) rfl hl.1 rfl (Nat.le_of_ble_eq_true rfl) dL_law_400 ⟨Nat.le_of_ble_eq_true rfl, Nat.le_of_ble_eq_true rfl⟩ (fun rv_3 _ H locs hp hG => ?_)
  subst rv_3
  refine lv_iload S.1 S.2.1 dL_law_403 (lv_at hl 1 rfl) ?_
  refine lv_icmp_eq (tgt := 410) S.1 S.2.1 dL_law_405 (by decide) (fun _ => ?_) (fun c => absurd (by decide) c)
  refine lv_iload S.1 S.2.1 dL_law_410 (lv_at hl 1 rfl) ?_
  refine lv_if_ne (tgt := 427) S.1 S.2.1 dL_law_412 (by decide) (fun _ => ?_) (fun c => absurd c (by decide))
  refine lv_goto (tgt := 2650) S.1 S.2.1 dL_law_427 (by decide) ?_
  refine lv_iinc (v := 5) (lv' := [(5, .int 5), (7, .int 0), (6, .int 1), (0, .ref b), (1, .ref N0), (2, .ref (N0 + 164)), (3, .ref (N0 + 229)), (4, .ref (N0 + 230))]) S.1 S.2.1 dL_law_2650 hl (k := 7) rfl (by decide) (by decide) rfl (fun ls hl => ?_)
  refine lv_goto (tgt := 28) S.1 S.2.1 dL_law_2653 (by decide) ?_
  refine lv_iload S.1 S.2.1 dL_law_28 (lv_at hl 0 rfl) ?_
  refine lv_aload_n S.1 S.2.1 dL_law_30 rfl (lv_at hl 3 rfl) ?_
  refine gx_slen (v := 5) S hG hX hbl rfl dL_law_31 ?_
  refine lv_iconst (v := 5) S.1 S.2.1 dL_law_32 (by decide) ?_
  refine lv_isub S.1 S.2.1 dL_law_33 ?_
  refine fx_topi (y := 0) (by decide) ?_
  refine lv_icmp_gt (tgt := 2656) S.1 S.2.1 dL_law_34 (by decide) (fun _ => ?_) (fun c => absurd (by decide) c)
  refine lv_iconst (v := 1) S.1 S.2.1 dL_law_2656 (by decide) ?_
  refine va_forget (fun q hq => by rw [hN]; exact hG.2.1.2.2 q hq) ?_
  refine W.widen (k := 600002) (n := 7302232) (by decide) (by decide) ?_
  exact lw_ret (d0 := s.drawn) (Drawn.sameBut.refl _ _) S.1 S.2.1 hr hlocks dL_law_2657
theorem case_3 {p : Program} {e : Env} {s : State} {m : MethodId} {below : List Frame} {meth : Method} {c : Code} {b : Nat} {xs : Nat → Int32} {H : Heap} {locs : List Loc} {ls : Array Slot} {n : Nat} {a1 a2 a3 a4 : Int32} (S : CallFix p m c cL_law 9 s #[.ref b] wsL_law "TreeDifferLaw") (hr : meth.sig.returnType = ret) (hlocks : meth.locks = false) (hst : l.stackTraces = false) (hX : va_X b 5 xs s s.heap) (hbl : b < s.heap.size ∧ b < N0) (hN : s.heap.size = N0) (hn : N0 + 231 ≤ n) (hx1 : xs 1 = a1) (hx2 : xs 2 = a2) (hx3 : xs 3 = a3) (hx4 : xs 4 = a4) (hL : ∀ (i : Nat) (q : Nat × va_E), (lneed N0 cI cC cL cD cII cTr cTm cIt cB ql)[i]? = some q → F (N0 + q.1) = some q.2) (hG : fG N0 D vwCl (fty cI cC cL cD cII cTr cTm cIt cB) (fen ql) s F n H locs) (hl : lv_has ls 9 [(0, .ref b), (1, .ref N0), (2, .ref (N0 + 164)), (3, .ref (N0 + 229)), (4, .ref (N0 + 230)), (5, .int 0)]) : W p l e { frames := 2048, cells := 600002, slots := 7302232, locals := 84000 } s m #[.ref b] below meth c H locs 231 4980 (lw_Z below #[.ref b] s) (F0 m 374 ls []) := by
  have hn1 := pk_nc a1
  have hf1 := pk_fc a1
  have hv1 := pk_vc a1
  obtain ⟨g_c1_ge_0, g_c1_le_65535⟩ := fl_c0 a1
  generalize hc1 : (a1.toUInt32 % 65536).toInt32 = c1 at *
  have hn2 := pk_nc a2
  have hf2 := pk_fc a2
  have hv2 := pk_vc a2
  obtain ⟨g_c2_ge_0, g_c2_le_65535⟩ := fl_c0 a2
  generalize hc2 : (a2.toUInt32 % 65536).toInt32 = c2 at *
  have hn3 := pk_nc a3
  have hf3 := pk_fc a3
  have hv3 := pk_vc a3
  obtain ⟨g_c3_ge_0, g_c3_le_65535⟩ := fl_c0 a3
  generalize hc3 : (a3.toUInt32 % 65536).toInt32 = c3 at *
  have hn4 := pk_nc a4
  have hf4 := pk_fc a4
  have hv4 := pk_vc a4
  obtain ⟨g_c4_ge_0, g_c4_le_65535⟩ := fl_c0 a4
  generalize hc4 : (a4.toUInt32 % 65536).toInt32 = c4 at *
  rcases fl_cut a1 0 (-1) (by decide) with g_a1_le_m1 | g_a1_ge_0
  · skip
    exact l3_0 g_a1_le_m1 S hr hlocks hst hX hbl hN hn hx1 hx2 hx3 hx4 (hL 0 _ rfl) (hL 4 _ rfl) hG hl
  · skip
    rcases fl_cut a1 3 2 (by decide) with g_a1_le_2 | g_a1_ge_3
    · skip
      rcases fl_cut a1 1 0 (by decide) with g_a1_le_0 | g_a1_ge_1
      · skip
        obtain rfl : a1 = 0 := Int32.le_antisymm g_a1_le_0 g_a1_ge_0
        exact l3_1 S hr hlocks hst hX hbl hN hn hx1 hx2 hx3 hx4 (hL 0 _ rfl) (hL 6 _ rfl) (hL 87 _ rfl) (hL 10 _ rfl) (hL 13 _ rfl) (hL 88 _ rfl) (hL 14 _ rfl) (hL 15 _ rfl) (hL 3 _ rfl) (hL 4 _ rfl) (hL 11 _ rfl) (hL 12 _ rfl) (hL 18 _ rfl) (hL 19 _ rfl) (hL 20 _ rfl) hG hl
      · skip
        rcases fl_cut a1 2 1 (by decide) with g_a1_le_1 | g_a1_ge_2
        · skip
          obtain rfl : a1 = 1 := Int32.le_antisymm g_a1_le_1 g_a1_ge_1
          exact l3_2 S hr hlocks hst hX hbl hN hn hx1 hx2 hx3 hx4 (hL 0 _ rfl) (hL 6 _ rfl) (hL 87 _ rfl) (hL 22 _ rfl) (hL 24 _ rfl) (hL 88 _ rfl) (hL 25 _ rfl) (hL 26 _ rfl) (hL 3 _ rfl) (hL 4 _ rfl) (hL 11 _ rfl) (hL 23 _ rfl) (hL 29 _ rfl) (hL 30 _ rfl) (hL 31 _ rfl) hG hl
        · skip
          obtain rfl : a1 = 2 := Int32.le_antisymm g_a1_le_2 g_a1_ge_2
          exact l3_3 S hr hlocks hst hX hbl hN hn hx1 hx2 hx3 hx4 (hL 0 _ rfl) (hL 6 _ rfl) (hL 87 _ rfl) (hL 33 _ rfl) (hL 35 _ rfl) (hL 88 _ rfl) (hL 36 _ rfl) (hL 37 _ rfl) (hL 3 _ rfl) (hL 4 _ rfl) (hL 11 _ rfl) (hL 34 _ rfl) (hL 40 _ rfl) (hL 41 _ rfl) (hL 42 _ rfl) hG hl
    · skip
      exact l3_4 g_a1_ge_3 S hr hlocks hst hX hbl hN hn hx1 hx2 hx3 hx4 (hL 0 _ rfl) (hL 4 _ rfl) hG hl
