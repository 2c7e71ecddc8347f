theorem dX0_init_0 : decode cX0_init 0 = .ok (.aload_n 0, 1) := by decide +kernel
theorem dX0_init_1 : decode cX0_init 1 = .ok (.invokespecial 3, 3) := by decide +kernel
theorem dX0_init_4 : decode cX0_init 4 = .ok (.aload_n 0, 1) := by decide +kernel
theorem dX0_init_5 : decode cX0_init 5 = .ok (.sipush 160, 3) := by decide +kernel
theorem dX0_init_8 : decode cX0_init 8 = .ok (.newarray .char, 2) := by decide +kernel
theorem dX0_init_10 : decode cX0_init 10 = .ok (.putfield 9, 3) := by decide +kernel
theorem dX0_init_13 : decode cX0_init 13 = .ok (.return_, 1) := by decide +kernel
theorem dX0_append_0 : decode cX0_append 0 = .ok (.aload_n 0, 1) := by decide +kernel
theorem dX0_append_1 : decode cX0_append 1 = .ok (.getfield 15, 3) := by decide +kernel
theorem dX0_append_4 : decode cX0_append 4 = .ok (.ifCond .lt 33, 3) := by decide +kernel
theorem dX0_append_7 : decode cX0_append 7 = .ok (.aload_n 0, 1) := by decide +kernel
theorem dX0_append_8 : decode cX0_append 8 = .ok (.getfield 15, 3) := by decide +kernel
theorem dX0_append_11 : decode cX0_append 11 = .ok (.sipush 160, 3) := by decide +kernel
theorem dX0_append_14 : decode cX0_append 14 = .ok (.if_icmp .ge 23, 3) := by decide +kernel
theorem dX0_append_17 : decode cX0_append 17 = .ok (.aload_n 0, 1) := by decide +kernel
theorem dX0_append_18 : decode cX0_append 18 = .ok (.getfield 9, 3) := by decide +kernel
theorem dX0_append_21 : decode cX0_append 21 = .ok (.aload_n 0, 1) := by decide +kernel
theorem dX0_append_22 : decode cX0_append 22 = .ok (.getfield 15, 3) := by decide +kernel
theorem dX0_append_25 : decode cX0_append 25 = .ok (.iload_n 1, 1) := by decide +kernel
theorem dX0_append_26 : decode cX0_append 26 = .ok (.castore, 1) := by decide +kernel
theorem dX0_append_27 : decode cX0_append 27 = .ok (.aload_n 0, 1) := by decide +kernel
theorem dX0_append_28 : decode cX0_append 28 = .ok (.dup, 1) := by decide +kernel
theorem dX0_append_29 : decode cX0_append 29 = .ok (.getfield 15, 3) := by decide +kernel
theorem dX0_append_32 : decode cX0_append 32 = .ok (.iconst 1, 1) := by decide +kernel
theorem dX0_append_33 : decode cX0_append 33 = .ok (.iadd, 1) := by decide +kernel
theorem dX0_append_34 : decode cX0_append 34 = .ok (.putfield 15, 3) := by decide +kernel
theorem dX0_append_37 : decode cX0_append 37 = .ok (.return_, 1) := by decide +kernel
set_option maxRecDepth 20000 in
theorem ggX0_appendNumber_X0_append : GoodIn wsX0_appendNumber wsX0_append := goodIn_r _ [5, 6, 7, 8, 9] (by decide +kernel) (by decide +kernel)
set_option maxRecDepth 20000 in
theorem gX0_appendNumber_X0_append : GoodIn wsX0_appendNumber (wsV RX0 19 RX0 yX0_append wsX0_append) := goodIn_app (goodIn_of _ (by decide +kernel)) ggX0_appendNumber_X0_append
theorem dX0_appendNumber_0 : decode cX0_appendNumber 0 = .ok (.iload_n 1, 1) := by decide +kernel
theorem dX0_appendNumber_1 : decode cX0_appendNumber 1 = .ok (.bipush 10, 2) := by decide +kernel
theorem dX0_appendNumber_3 : decode cX0_appendNumber 3 = .ok (.if_icmp .lt 15, 3) := by decide +kernel
theorem dX0_appendNumber_6 : decode cX0_appendNumber 6 = .ok (.aload_n 0, 1) := by decide +kernel
theorem dX0_appendNumber_7 : decode cX0_appendNumber 7 = .ok (.bipush 48, 2) := by decide +kernel
theorem dX0_appendNumber_9 : decode cX0_appendNumber 9 = .ok (.iload_n 1, 1) := by decide +kernel
theorem dX0_appendNumber_10 : decode cX0_appendNumber 10 = .ok (.bipush 10, 2) := by decide +kernel
theorem dX0_appendNumber_12 : decode cX0_appendNumber 12 = .ok (.idiv, 1) := by decide +kernel
theorem dX0_appendNumber_13 : decode cX0_appendNumber 13 = .ok (.iadd, 1) := by decide +kernel
theorem dX0_appendNumber_14 : decode cX0_appendNumber 14 = .ok (.i2c, 1) := by decide +kernel
theorem dX0_appendNumber_15 : decode cX0_appendNumber 15 = .ok (.invokevirtual 19, 3) := by decide +kernel
theorem dX0_appendNumber_18 : decode cX0_appendNumber 18 = .ok (.aload_n 0, 1) := by decide +kernel
theorem dX0_appendNumber_19 : decode cX0_appendNumber 19 = .ok (.bipush 48, 2) := by decide +kernel
theorem dX0_appendNumber_21 : decode cX0_appendNumber 21 = .ok (.iload_n 1, 1) := by decide +kernel
theorem dX0_appendNumber_22 : decode cX0_appendNumber 22 = .ok (.bipush 10, 2) := by decide +kernel
theorem dX0_appendNumber_24 : decode cX0_appendNumber 24 = .ok (.irem, 1) := by decide +kernel
theorem dX0_appendNumber_25 : decode cX0_appendNumber 25 = .ok (.iadd, 1) := by decide +kernel
theorem dX0_appendNumber_26 : decode cX0_appendNumber 26 = .ok (.i2c, 1) := by decide +kernel
theorem dX0_appendNumber_27 : decode cX0_appendNumber 27 = .ok (.invokevirtual 19, 3) := by decide +kernel
theorem dX0_appendNumber_30 : decode cX0_appendNumber 30 = .ok (.return_, 1) := by decide +kernel
set_option maxRecDepth 20000 in
theorem ggX0_appendTree_X5_depthOf : GoodIn wsX0_appendTree wsX5_depthOf := goodIn_r _ [6, 7, 30, 31, 32, 33, 34, 35, 36] (by decide +kernel) (by decide +kernel)
set_option maxRecDepth 20000 in
theorem gX0_appendTree_X5_depthOf : GoodIn wsX0_appendTree (wsV RX0 28 RX5 yX5_depthOf wsX5_depthOf) := goodIn_app (goodIn_of _ (by decide +kernel)) ggX0_appendTree_X5_depthOf
set_option maxRecDepth 20000 in
theorem ggX0_appendTree_X0_append : GoodIn wsX0_appendTree wsX0_append := goodIn_r _ [12, 13, 14, 37, 38] (by decide +kernel) (by decide +kernel)
set_option maxRecDepth 20000 in
theorem gX0_appendTree_X0_append : GoodIn wsX0_appendTree (wsV RX0 19 RX0 yX0_append wsX0_append) := goodIn_app (goodIn_of _ (by decide +kernel)) ggX0_appendTree_X0_append
set_option maxRecDepth 20000 in
theorem ggX0_appendTree_X0_appendClosings : GoodIn wsX0_appendTree wsX0_appendClosings := goodIn_r _ [18, 8, 9, 10, 11, 12, 13, 14, 37, 38] (by decide +kernel) (by decide +kernel)
set_option maxRecDepth 20000 in
theorem gX0_appendTree_X0_appendClosings : GoodIn wsX0_appendTree (wsV RX0 32 RX0 yX0_appendClosings wsX0_appendClosings) := goodIn_app (goodIn_of _ (by decide +kernel)) ggX0_appendTree_X0_appendClosings
set_option maxRecDepth 20000 in
theorem ggX0_appendTree_X0_appendHead : GoodIn wsX0_appendTree wsX0_appendHead := goodIn_r _ [22, 23, 24, 25, 8, 9, 10, 11, 12, 13, 14, 26, 27, 28, 29, 30, 31, 32, 33, 34, 35, 36, 37, 38] (by decide +kernel) (by decide +kernel)
set_option maxRecDepth 20000 in
theorem gX0_appendTree_X0_appendHead : GoodIn wsX0_appendTree (wsV RX0 36 RX0 yX0_appendHead wsX0_appendHead) := goodIn_app (goodIn_of _ (by decide +kernel)) ggX0_appendTree_X0_appendHead
theorem dX0_appendTree_0 : decode cX0_appendTree 0 = .ok (.iconst 0, 1) := by decide +kernel
theorem dX0_appendTree_1 : decode cX0_appendTree 1 = .ok (.istore_n 2, 1) := by decide +kernel
theorem dX0_appendTree_2 : decode cX0_appendTree 2 = .ok (.iconst 0, 1) := by decide +kernel
theorem dX0_appendTree_3 : decode cX0_appendTree 3 = .ok (.istore_n 3, 1) := by decide +kernel
theorem dX0_appendTree_4 : decode cX0_appendTree 4 = .ok (.iload_n 3, 1) := by decide +kernel
theorem dX0_appendTree_5 : decode cX0_appendTree 5 = .ok (.aload_n 1, 1) := by decide +kernel
theorem dX0_appendTree_6 : decode cX0_appendTree 6 = .ok (.getfield 23, 3) := by decide +kernel
theorem dX0_appendTree_9 : decode cX0_appendTree 9 = .ok (.if_icmp .ge 45, 3) := by decide +kernel
theorem dX0_appendTree_12 : decode cX0_appendTree 12 = .ok (.aload_n 1, 1) := by decide +kernel
theorem dX0_appendTree_13 : decode cX0_appendTree 13 = .ok (.iload_n 3, 1) := by decide +kernel
theorem dX0_appendTree_14 : decode cX0_appendTree 14 = .ok (.invokevirtual 28, 3) := by decide +kernel
theorem dX0_appendTree_17 : decode cX0_appendTree 17 = .ok (.istore 4, 2) := by decide +kernel
theorem dX0_appendTree_19 : decode cX0_appendTree 19 = .ok (.iload 4, 2) := by decide +kernel
theorem dX0_appendTree_21 : decode cX0_appendTree 21 = .ok (.iload_n 2, 1) := by decide +kernel
theorem dX0_appendTree_22 : decode cX0_appendTree 22 = .ok (.if_icmp .le 9, 3) := by decide +kernel
theorem dX0_appendTree_25 : decode cX0_appendTree 25 = .ok (.aload_n 0, 1) := by decide +kernel
theorem dX0_appendTree_26 : decode cX0_appendTree 26 = .ok (.bipush 40, 2) := by decide +kernel
theorem dX0_appendTree_28 : decode cX0_appendTree 28 = .ok (.invokevirtual 19, 3) := by decide +kernel
theorem dX0_appendTree_31 : decode cX0_appendTree 31 = .ok (.aload_n 0, 1) := by decide +kernel
theorem dX0_appendTree_32 : decode cX0_appendTree 32 = .ok (.iload_n 2, 1) := by decide +kernel
theorem dX0_appendTree_33 : decode cX0_appendTree 33 = .ok (.iload 4, 2) := by decide +kernel
theorem dX0_appendTree_35 : decode cX0_appendTree 35 = .ok (.isub, 1) := by decide +kernel
theorem dX0_appendTree_36 : decode cX0_appendTree 36 = .ok (.invokevirtual 32, 3) := by decide +kernel
theorem dX0_appendTree_39 : decode cX0_appendTree 39 = .ok (.aload_n 0, 1) := by decide +kernel
theorem dX0_appendTree_40 : decode cX0_appendTree 40 = .ok (.aload_n 1, 1) := by decide +kernel
theorem dX0_appendTree_41 : decode cX0_appendTree 41 = .ok (.iload_n 3, 1) := by decide +kernel
theorem dX0_appendTree_42 : decode cX0_appendTree 42 = .ok (.invokevirtual 36, 3) := by decide +kernel
theorem dX0_appendTree_45 : decode cX0_appendTree 45 = .ok (.iload 4, 2) := by decide +kernel
theorem dX0_appendTree_47 : decode cX0_appendTree 47 = .ok (.istore_n 2, 1) := by decide +kernel
theorem dX0_appendTree_48 : decode cX0_appendTree 48 = .ok (.iinc 3 1, 3) := by decide +kernel
theorem dX0_appendTree_51 : decode cX0_appendTree 51 = .ok (.goto (-47), 3) := by decide +kernel
theorem dX0_appendTree_54 : decode cX0_appendTree 54 = .ok (.aload_n 0, 1) := by decide +kernel
theorem dX0_appendTree_55 : decode cX0_appendTree 55 = .ok (.iload_n 2, 1) := by decide +kernel
theorem dX0_appendTree_56 : decode cX0_appendTree 56 = .ok (.invokevirtual 32, 3) := by decide +kernel
theorem dX0_appendTree_59 : decode cX0_appendTree 59 = .ok (.return_, 1) := by decide +kernel
set_option maxRecDepth 20000 in
theorem ggX0_appendClosings_X0_append : GoodIn wsX0_appendClosings wsX0_append := goodIn_r _ [5, 6, 7, 8, 9] (by decide +kernel) (by decide +kernel)
set_option maxRecDepth 20000 in
theorem gX0_appendClosings_X0_append : GoodIn wsX0_appendClosings (wsV RX0 19 RX0 yX0_append wsX0_append) := goodIn_app (goodIn_of _ (by decide +kernel)) ggX0_appendClosings_X0_append
theorem dX0_appendClosings_0 : decode cX0_appendClosings 0 = .ok (.iconst 0, 1) := by decide +kernel
theorem dX0_appendClosings_1 : decode cX0_appendClosings 1 = .ok (.istore_n 2, 1) := by decide +kernel
theorem dX0_appendClosings_2 : decode cX0_appendClosings 2 = .ok (.iload_n 2, 1) := by decide +kernel
theorem dX0_appendClosings_3 : decode cX0_appendClosings 3 = .ok (.iload_n 1, 1) := by decide +kernel
theorem dX0_appendClosings_4 : decode cX0_appendClosings 4 = .ok (.if_icmp .ge 15, 3) := by decide +kernel
theorem dX0_appendClosings_7 : decode cX0_appendClosings 7 = .ok (.aload_n 0, 1) := by decide +kernel
theorem dX0_appendClosings_8 : decode cX0_appendClosings 8 = .ok (.bipush 41, 2) := by decide +kernel
theorem dX0_appendClosings_10 : decode cX0_appendClosings 10 = .ok (.invokevirtual 19, 3) := by decide +kernel
theorem dX0_appendClosings_13 : decode cX0_appendClosings 13 = .ok (.iinc 2 1, 3) := by decide +kernel
theorem dX0_appendClosings_16 : decode cX0_appendClosings 16 = .ok (.goto (-14), 3) := by decide +kernel
theorem dX0_appendClosings_19 : decode cX0_appendClosings 19 = .ok (.return_, 1) := by decide +kernel
set_option maxRecDepth 20000 in
theorem ggX0_appendHead_X0_append : GoodIn wsX0_appendHead wsX0_append := goodIn_r _ [8, 9, 10, 22, 23] (by decide +kernel) (by decide +kernel)
set_option maxRecDepth 20000 in
theorem gX0_appendHead_X0_append : GoodIn wsX0_appendHead (wsV RX0 19 RX0 yX0_append wsX0_append) := goodIn_app (goodIn_of _ (by decide +kernel)) ggX0_appendHead_X0_append
set_option maxRecDepth 20000 in
theorem ggX0_appendHead_X0_appendNumber : GoodIn wsX0_appendHead wsX0_appendNumber := goodIn_r _ [14, 4, 5, 6, 7, 8, 9, 10, 22, 23] (by decide +kernel) (by decide +kernel)
set_option maxRecDepth 20000 in
theorem gX0_appendHead_X0_appendNumber : GoodIn wsX0_appendHead (wsV RX0 47 RX0 yX0_appendNumber wsX0_appendNumber) := goodIn_app (goodIn_of _ (by decide +kernel)) ggX0_appendHead_X0_appendNumber
theorem dX0_appendHead_0 : decode cX0_appendHead 0 = .ok (.aload_n 0, 1) := by decide +kernel
theorem dX0_appendHead_1 : decode cX0_appendHead 1 = .ok (.aload_n 1, 1) := by decide +kernel
theorem dX0_appendHead_2 : decode cX0_appendHead 2 = .ok (.getfield 40, 3) := by decide +kernel
theorem dX0_appendHead_5 : decode cX0_appendHead 5 = .ok (.iload_n 2, 1) := by decide +kernel
theorem dX0_appendHead_6 : decode cX0_appendHead 6 = .ok (.caload, 1) := by decide +kernel
theorem dX0_appendHead_7 : decode cX0_appendHead 7 = .ok (.invokevirtual 19, 3) := by decide +kernel
theorem dX0_appendHead_10 : decode cX0_appendHead 10 = .ok (.aload_n 1, 1) := by decide +kernel
theorem dX0_appendHead_11 : decode cX0_appendHead 11 = .ok (.getfield 43, 3) := by decide +kernel
theorem dX0_appendHead_14 : decode cX0_appendHead 14 = .ok (.iload_n 2, 1) := by decide +kernel
theorem dX0_appendHead_15 : decode cX0_appendHead 15 = .ok (.iaload, 1) := by decide +kernel
theorem dX0_appendHead_16 : decode cX0_appendHead 16 = .ok (.ifCond .eq 19, 3) := by decide +kernel
theorem dX0_appendHead_19 : decode cX0_appendHead 19 = .ok (.aload_n 0, 1) := by decide +kernel
theorem dX0_appendHead_20 : decode cX0_appendHead 20 = .ok (.bipush 35, 2) := by decide +kernel
theorem dX0_appendHead_22 : decode cX0_appendHead 22 = .ok (.invokevirtual 19, 3) := by decide +kernel
theorem dX0_appendHead_25 : decode cX0_appendHead 25 = .ok (.aload_n 0, 1) := by decide +kernel
theorem dX0_appendHead_26 : decode cX0_appendHead 26 = .ok (.aload_n 1, 1) := by decide +kernel
theorem dX0_appendHead_27 : decode cX0_appendHead 27 = .ok (.getfield 43, 3) := by decide +kernel
theorem dX0_appendHead_30 : decode cX0_appendHead 30 = .ok (.iload_n 2, 1) := by decide +kernel
theorem dX0_appendHead_31 : decode cX0_appendHead 31 = .ok (.iaload, 1) := by decide +kernel
theorem dX0_appendHead_32 : decode cX0_appendHead 32 = .ok (.invokevirtual 47, 3) := by decide +kernel
theorem dX0_appendHead_35 : decode cX0_appendHead 35 = .ok (.aload_n 1, 1) := by decide +kernel
theorem dX0_appendHead_36 : decode cX0_appendHead 36 = .ok (.getfield 50, 3) := by decide +kernel
theorem dX0_appendHead_39 : decode cX0_appendHead 39 = .ok (.iload_n 2, 1) := by decide +kernel
theorem dX0_appendHead_40 : decode cX0_appendHead 40 = .ok (.iaload, 1) := by decide +kernel
theorem dX0_appendHead_41 : decode cX0_appendHead 41 = .ok (.ifCond .eq 19, 3) := by decide +kernel
theorem dX0_appendHead_44 : decode cX0_appendHead 44 = .ok (.aload_n 0, 1) := by decide +kernel
theorem dX0_appendHead_45 : decode cX0_appendHead 45 = .ok (.bipush 61, 2) := by decide +kernel
theorem dX0_appendHead_47 : decode cX0_appendHead 47 = .ok (.invokevirtual 19, 3) := by decide +kernel
theorem dX0_appendHead_50 : decode cX0_appendHead 50 = .ok (.aload_n 0, 1) := by decide +kernel
theorem dX0_appendHead_51 : decode cX0_appendHead 51 = .ok (.aload_n 1, 1) := by decide +kernel
theorem dX0_appendHead_52 : decode cX0_appendHead 52 = .ok (.getfield 50, 3) := by decide +kernel
theorem dX0_appendHead_55 : decode cX0_appendHead 55 = .ok (.iload_n 2, 1) := by decide +kernel
theorem dX0_appendHead_56 : decode cX0_appendHead 56 = .ok (.iaload, 1) := by decide +kernel
theorem dX0_appendHead_57 : decode cX0_appendHead 57 = .ok (.invokevirtual 47, 3) := by decide +kernel
theorem dX0_appendHead_60 : decode cX0_appendHead 60 = .ok (.return_, 1) := by decide +kernel
theorem dX0_isSound_0 : decode cX0_isSound 0 = .ok (.aload_n 0, 1) := by decide +kernel
theorem dX0_isSound_1 : decode cX0_isSound 1 = .ok (.getfield 15, 3) := by decide +kernel
theorem dX0_isSound_4 : decode cX0_isSound 4 = .ok (.ifCond .lt 17, 3) := by decide +kernel
theorem dX0_isSound_7 : decode cX0_isSound 7 = .ok (.aload_n 0, 1) := by decide +kernel
theorem dX0_isSound_8 : decode cX0_isSound 8 = .ok (.getfield 15, 3) := by decide +kernel
theorem dX0_isSound_11 : decode cX0_isSound 11 = .ok (.sipush 160, 3) := by decide +kernel
theorem dX0_isSound_14 : decode cX0_isSound 14 = .ok (.if_icmp .gt 7, 3) := by decide +kernel
theorem dX0_isSound_17 : decode cX0_isSound 17 = .ok (.iconst 1, 1) := by decide +kernel
theorem dX0_isSound_18 : decode cX0_isSound 18 = .ok (.goto 4, 3) := by decide +kernel
theorem dX0_isSound_21 : decode cX0_isSound 21 = .ok (.iconst 0, 1) := by decide +kernel
theorem dX0_isSound_22 : decode cX0_isSound 22 = .ok (.ireturn, 1) := by decide +kernel
theorem dX1_init_0 : decode cX1_init 0 = .ok (.aload_n 0, 1) := by decide +kernel
theorem dX1_init_1 : decode cX1_init 1 = .ok (.invokespecial 3, 3) := by decide +kernel
theorem dX1_init_4 : decode cX1_init 4 = .ok (.aload_n 0, 1) := by decide +kernel
theorem dX1_init_5 : decode cX1_init 5 = .ok (.bipush 20, 2) := by decide +kernel
theorem dX1_init_7 : decode cX1_init 7 = .ok (.bipush 20, 2) := by decide +kernel
theorem dX1_init_9 : decode cX1_init 9 = .ok (.multianewarray 9 2, 4) := by decide +kernel
theorem dX1_init_13 : decode cX1_init 13 = .ok (.putfield 11, 3) := by decide +kernel
theorem dX1_init_16 : decode cX1_init 16 = .ok (.aload_n 0, 1) := by decide +kernel
theorem dX1_init_17 : decode cX1_init 17 = .ok (.bipush 21, 2) := by decide +kernel
theorem dX1_init_19 : decode cX1_init 19 = .ok (.bipush 21, 2) := by decide +kernel
theorem dX1_init_21 : decode cX1_init 21 = .ok (.multianewarray 9 2, 4) := by decide +kernel
theorem dX1_init_25 : decode cX1_init 25 = .ok (.putfield 16, 3) := by decide +kernel
theorem dX1_init_28 : decode cX1_init 28 = .ok (.aload_n 0, 1) := by decide +kernel
theorem dX1_init_29 : decode cX1_init 29 = .ok (.bipush 20, 2) := by decide +kernel
theorem dX1_init_31 : decode cX1_init 31 = .ok (.newarray .int, 2) := by decide +kernel
theorem dX1_init_33 : decode cX1_init 33 = .ok (.putfield 19, 3) := by decide +kernel
theorem dX1_init_36 : decode cX1_init 36 = .ok (.aload_n 0, 1) := by decide +kernel
theorem dX1_init_37 : decode cX1_init 37 = .ok (.bipush 20, 2) := by decide +kernel
theorem dX1_init_39 : decode cX1_init 39 = .ok (.newarray .int, 2) := by decide +kernel
theorem dX1_init_41 : decode cX1_init 41 = .ok (.putfield 23, 3) := by decide +kernel
theorem dX1_init_44 : decode cX1_init 44 = .ok (.aload_n 0, 1) := by decide +kernel
theorem dX1_init_45 : decode cX1_init 45 = .ok (.bipush 20, 2) := by decide +kernel
theorem dX1_init_47 : decode cX1_init 47 = .ok (.newarray .int, 2) := by decide +kernel
theorem dX1_init_49 : decode cX1_init 49 = .ok (.putfield 26, 3) := by decide +kernel
theorem dX1_init_52 : decode cX1_init 52 = .ok (.aload_n 0, 1) := by decide +kernel
theorem dX1_init_53 : decode cX1_init 53 = .ok (.bipush 20, 2) := by decide +kernel
theorem dX1_init_55 : decode cX1_init 55 = .ok (.newarray .int, 2) := by decide +kernel
theorem dX1_init_57 : decode cX1_init 57 = .ok (.putfield 29, 3) := by decide +kernel
theorem dX1_init_60 : decode cX1_init 60 = .ok (.aload_n 0, 1) := by decide +kernel
theorem dX1_init_61 : decode cX1_init 61 = .ok (.bipush 20, 2) := by decide +kernel
theorem dX1_init_63 : decode cX1_init 63 = .ok (.newarray .int, 2) := by decide +kernel
theorem dX1_init_65 : decode cX1_init 65 = .ok (.putfield 32, 3) := by decide +kernel
theorem dX1_init_68 : decode cX1_init 68 = .ok (.aload_n 0, 1) := by decide +kernel
theorem dX1_init_69 : decode cX1_init 69 = .ok (.bipush 20, 2) := by decide +kernel
theorem dX1_init_71 : decode cX1_init 71 = .ok (.newarray .int, 2) := by decide +kernel
theorem dX1_init_73 : decode cX1_init 73 = .ok (.putfield 35, 3) := by decide +kernel
theorem dX1_init_76 : decode cX1_init 76 = .ok (.return_, 1) := by decide +kernel
set_option maxRecDepth 20000 in
theorem ggX1_leastCost_X5_listWidths : GoodIn wsX1_leastCost wsX5_listWidths := goodIn_r _ [14, 15, 16, 17, 18, 13, 19, 20, 70, 71, 72, 73, 74, 75, 76] (by decide +kernel) (by decide +kernel)
set_option maxRecDepth 20000 in
theorem gX1_leastCost_X5_listWidths : GoodIn wsX1_leastCost (wsV RX1 38 RX5 yX5_listWidths wsX5_listWidths) := goodIn_app (goodIn_of _ (by decide +kernel)) ggX1_leastCost_X5_listWidths
set_option maxRecDepth 20000 in
theorem ggX1_leastCost_X5_listChildren : GoodIn wsX1_leastCost wsX5_listChildren := goodIn_r _ [24, 15, 20, 70, 71, 72, 73, 74, 75, 76] (by decide +kernel) (by decide +kernel)
set_option maxRecDepth 20000 in
theorem gX1_leastCost_X5_listChildren : GoodIn wsX1_leastCost (wsV RX1 48 RX5 yX5_listChildren wsX5_listChildren) := goodIn_app (goodIn_of _ (by decide +kernel)) ggX1_leastCost_X5_listChildren
set_option maxRecDepth 20000 in
theorem ggX1_leastCost_X1_fillRestCosts : GoodIn wsX1_leastCost wsX1_fillRestCosts := goodIn_r _ [29, 5, 7, 9, 30, 31, 32, 28, 33, 34, 35, 36, 37, 38, 39, 40, 41, 2, 6, 42, 43, 44, 45, 1, 4, 46, 47, 48, 49, 50, 51, 52, 53, 54, 8, 60, 61, 62, 63, 64, 65, 66, 67, 68, 69, 70, 71, 72, 73, 74, 75, 76] (by decide +kernel) (by decide +kernel)
set_option maxRecDepth 20000 in
theorem gX1_leastCost_X1_fillRestCosts : GoodIn wsX1_leastCost (wsV RX1 58 RX1 yX1_fillRestCosts wsX1_fillRestCosts) := goodIn_app (goodIn_of _ (by decide +kernel)) ggX1_leastCost_X1_fillRestCosts
set_option maxRecDepth 20000 in
theorem ggX1_leastCost_X7_changeCost : GoodIn wsX1_leastCost wsX7_changeCost := goodIn_r _ [57, 58, 59, 70, 71, 72, 73, 74, 75, 76] (by decide +kernel) (by decide +kernel)
set_option maxRecDepth 20000 in
theorem gX1_leastCost_X7_changeCost_n62 : GoodIn wsX1_leastCost (wsX7_changeCost) := ggX1_leastCost_X7_changeCost
theorem dX1_leastCost_0 : decode cX1_leastCost 0 = .ok (.aload_n 1, 1) := by decide +kernel
theorem dX1_leastCost_1 : decode cX1_leastCost 1 = .ok (.aload_n 0, 1) := by decide +kernel
theorem dX1_leastCost_2 : decode cX1_leastCost 2 = .ok (.getfield 19, 3) := by decide +kernel
theorem dX1_leastCost_5 : decode cX1_leastCost 5 = .ok (.invokevirtual 38, 3) := by decide +kernel
theorem dX1_leastCost_8 : decode cX1_leastCost 8 = .ok (.aload_n 2, 1) := by decide +kernel
theorem dX1_leastCost_9 : decode cX1_leastCost 9 = .ok (.aload_n 0, 1) := by decide +kernel
theorem dX1_leastCost_10 : decode cX1_leastCost 10 = .ok (.getfield 23, 3) := by decide +kernel
theorem dX1_leastCost_13 : decode cX1_leastCost 13 = .ok (.invokevirtual 38, 3) := by decide +kernel
theorem dX1_leastCost_16 : decode cX1_leastCost 16 = .ok (.aload_n 1, 1) := by decide +kernel
theorem dX1_leastCost_17 : decode cX1_leastCost 17 = .ok (.getfield 44, 3) := by decide +kernel
theorem dX1_leastCost_20 : decode cX1_leastCost 20 = .ok (.iconst 1, 1) := by decide +kernel
theorem dX1_leastCost_21 : decode cX1_leastCost 21 = .ok (.isub, 1) := by decide +kernel
theorem dX1_leastCost_22 : decode cX1_leastCost 22 = .ok (.istore_n 3, 1) := by decide +kernel
theorem dX1_leastCost_23 : decode cX1_leastCost 23 = .ok (.iload_n 3, 1) := by decide +kernel
theorem dX1_leastCost_24 : decode cX1_leastCost 24 = .ok (.ifCond .lt 87, 3) := by decide +kernel
theorem dX1_leastCost_27 : decode cX1_leastCost 27 = .ok (.aload_n 0, 1) := by decide +kernel
theorem dX1_leastCost_28 : decode cX1_leastCost 28 = .ok (.aload_n 1, 1) := by decide +kernel
theorem dX1_leastCost_29 : decode cX1_leastCost 29 = .ok (.iload_n 3, 1) := by decide +kernel
theorem dX1_leastCost_30 : decode cX1_leastCost 30 = .ok (.aload_n 0, 1) := by decide +kernel
theorem dX1_leastCost_31 : decode cX1_leastCost 31 = .ok (.getfield 26, 3) := by decide +kernel
theorem dX1_leastCost_34 : decode cX1_leastCost 34 = .ok (.invokevirtual 48, 3) := by decide +kernel
theorem dX1_leastCost_37 : decode cX1_leastCost 37 = .ok (.putfield 52, 3) := by decide +kernel
theorem dX1_leastCost_40 : decode cX1_leastCost 40 = .ok (.aload_n 2, 1) := by decide +kernel
theorem dX1_leastCost_41 : decode cX1_leastCost 41 = .ok (.getfield 44, 3) := by decide +kernel
theorem dX1_leastCost_44 : decode cX1_leastCost 44 = .ok (.iconst 1, 1) := by decide +kernel
theorem dX1_leastCost_45 : decode cX1_leastCost 45 = .ok (.isub, 1) := by decide +kernel
theorem dX1_leastCost_46 : decode cX1_leastCost 46 = .ok (.istore 4, 2) := by decide +kernel
theorem dX1_leastCost_48 : decode cX1_leastCost 48 = .ok (.iload 4, 2) := by decide +kernel
theorem dX1_leastCost_50 : decode cX1_leastCost 50 = .ok (.ifCond .lt 55, 3) := by decide +kernel
theorem dX1_leastCost_53 : decode cX1_leastCost 53 = .ok (.aload_n 0, 1) := by decide +kernel
theorem dX1_leastCost_54 : decode cX1_leastCost 54 = .ok (.aload_n 2, 1) := by decide +kernel
theorem dX1_leastCost_55 : decode cX1_leastCost 55 = .ok (.iload 4, 2) := by decide +kernel
theorem dX1_leastCost_57 : decode cX1_leastCost 57 = .ok (.aload_n 0, 1) := by decide +kernel
theorem dX1_leastCost_58 : decode cX1_leastCost 58 = .ok (.getfield 29, 3) := by decide +kernel
theorem dX1_leastCost_61 : decode cX1_leastCost 61 = .ok (.invokevirtual 48, 3) := by decide +kernel
theorem dX1_leastCost_64 : decode cX1_leastCost 64 = .ok (.putfield 55, 3) := by decide +kernel
theorem dX1_leastCost_67 : decode cX1_leastCost 67 = .ok (.aload_n 0, 1) := by decide +kernel
theorem dX1_leastCost_68 : decode cX1_leastCost 68 = .ok (.aload_n 1, 1) := by decide +kernel
theorem dX1_leastCost_69 : decode cX1_leastCost 69 = .ok (.aload_n 2, 1) := by decide +kernel
theorem dX1_leastCost_70 : decode cX1_leastCost 70 = .ok (.invokevirtual 58, 3) := by decide +kernel
theorem dX1_leastCost_73 : decode cX1_leastCost 73 = .ok (.aload_n 0, 1) := by decide +kernel
theorem dX1_leastCost_74 : decode cX1_leastCost 74 = .ok (.getfield 11, 3) := by decide +kernel
theorem dX1_leastCost_77 : decode cX1_leastCost 77 = .ok (.iload_n 3, 1) := by decide +kernel
theorem dX1_leastCost_78 : decode cX1_leastCost 78 = .ok (.aaload, 1) := by decide +kernel
theorem dX1_leastCost_79 : decode cX1_leastCost 79 = .ok (.iload 4, 2) := by decide +kernel
theorem dX1_leastCost_81 : decode cX1_leastCost 81 = .ok (.aload_n 1, 1) := by decide +kernel
theorem dX1_leastCost_82 : decode cX1_leastCost 82 = .ok (.iload_n 3, 1) := by decide +kernel
theorem dX1_leastCost_83 : decode cX1_leastCost 83 = .ok (.aload_n 2, 1) := by decide +kernel
theorem dX1_leastCost_84 : decode cX1_leastCost 84 = .ok (.iload 4, 2) := by decide +kernel
theorem dX1_leastCost_86 : decode cX1_leastCost 86 = .ok (.invokestatic 62, 3) := by decide +kernel
theorem dX1_leastCost_89 : decode cX1_leastCost 89 = .ok (.aload_n 0, 1) := by decide +kernel
theorem dX1_leastCost_90 : decode cX1_leastCost 90 = .ok (.getfield 16, 3) := by decide +kernel
theorem dX1_leastCost_93 : decode cX1_leastCost 93 = .ok (.iconst 0, 1) := by decide +kernel
theorem dX1_leastCost_94 : decode cX1_leastCost 94 = .ok (.aaload, 1) := by decide +kernel
theorem dX1_leastCost_95 : decode cX1_leastCost 95 = .ok (.iconst 0, 1) := by decide +kernel
theorem dX1_leastCost_96 : decode cX1_leastCost 96 = .ok (.iaload, 1) := by decide +kernel
theorem dX1_leastCost_97 : decode cX1_leastCost 97 = .ok (.iadd, 1) := by decide +kernel
theorem dX1_leastCost_98 : decode cX1_leastCost 98 = .ok (.iastore, 1) := by decide +kernel
theorem dX1_leastCost_99 : decode cX1_leastCost 99 = .ok (.iinc 4 (-1), 3) := by decide +kernel
theorem dX1_leastCost_102 : decode cX1_leastCost 102 = .ok (.goto (-54), 3) := by decide +kernel
theorem dX1_leastCost_105 : decode cX1_leastCost 105 = .ok (.iinc 3 (-1), 3) := by decide +kernel
theorem dX1_leastCost_108 : decode cX1_leastCost 108 = .ok (.goto (-85), 3) := by decide +kernel
theorem dX1_leastCost_111 : decode cX1_leastCost 111 = .ok (.aload_n 0, 1) := by decide +kernel
theorem dX1_leastCost_112 : decode cX1_leastCost 112 = .ok (.getfield 11, 3) := by decide +kernel
theorem dX1_leastCost_115 : decode cX1_leastCost 115 = .ok (.iconst 0, 1) := by decide +kernel
theorem dX1_leastCost_116 : decode cX1_leastCost 116 = .ok (.aaload, 1) := by decide +kernel
theorem dX1_leastCost_117 : decode cX1_leastCost 117 = .ok (.iconst 0, 1) := by decide +kernel
theorem dX1_leastCost_118 : decode cX1_leastCost 118 = .ok (.iaload, 1) := by decide +kernel
theorem dX1_leastCost_119 : decode cX1_leastCost 119 = .ok (.ireturn, 1) := by decide +kernel
set_option maxRecDepth 20000 in
theorem ggX1_fillRestCosts_X1_restCost : GoodIn wsX1_fillRestCosts wsX1_restCost := goodIn_r _ [8, 1, 2, 9, 10, 11, 12, 13, 14, 15, 7, 16, 17, 18, 3, 19, 20, 21, 22, 23, 24, 25, 26, 27, 28, 29, 30, 31, 32, 33, 34, 35, 36, 37, 38, 39, 40, 41, 42, 43, 44, 45, 46, 47, 48, 49, 50, 51] (by decide +kernel) (by decide +kernel)
set_option maxRecDepth 20000 in
theorem gX1_fillRestCosts_X1_restCost : GoodIn wsX1_fillRestCosts (wsV RX1 66 RX1 yX1_restCost wsX1_restCost) := goodIn_app (goodIn_of _ (by decide +kernel)) ggX1_fillRestCosts_X1_restCost
theorem dX1_fillRestCosts_0 : decode cX1_fillRestCosts 0 = .ok (.aload_n 0, 1) := by decide +kernel
theorem dX1_fillRestCosts_1 : decode cX1_fillRestCosts 1 = .ok (.getfield 52, 3) := by decide +kernel
theorem dX1_fillRestCosts_4 : decode cX1_fillRestCosts 4 = .ok (.istore_n 3, 1) := by decide +kernel
theorem dX1_fillRestCosts_5 : decode cX1_fillRestCosts 5 = .ok (.iload_n 3, 1) := by decide +kernel
theorem dX1_fillRestCosts_6 : decode cX1_fillRestCosts 6 = .ok (.ifCond .lt 44, 3) := by decide +kernel
theorem dX1_fillRestCosts_9 : decode cX1_fillRestCosts 9 = .ok (.aload_n 0, 1) := by decide +kernel
theorem dX1_fillRestCosts_10 : decode cX1_fillRestCosts 10 = .ok (.getfield 55, 3) := by decide +kernel
theorem dX1_fillRestCosts_13 : decode cX1_fillRestCosts 13 = .ok (.istore 4, 2) := by decide +kernel
theorem dX1_fillRestCosts_15 : decode cX1_fillRestCosts 15 = .ok (.iload 4, 2) := by decide +kernel
theorem dX1_fillRestCosts_17 : decode cX1_fillRestCosts 17 = .ok (.ifCond .lt 27, 3) := by decide +kernel
theorem dX1_fillRestCosts_20 : decode cX1_fillRestCosts 20 = .ok (.aload_n 0, 1) := by decide +kernel
theorem dX1_fillRestCosts_21 : decode cX1_fillRestCosts 21 = .ok (.getfield 16, 3) := by decide +kernel
theorem dX1_fillRestCosts_24 : decode cX1_fillRestCosts 24 = .ok (.iload_n 3, 1) := by decide +kernel
theorem dX1_fillRestCosts_25 : decode cX1_fillRestCosts 25 = .ok (.aaload, 1) := by decide +kernel
theorem dX1_fillRestCosts_26 : decode cX1_fillRestCosts 26 = .ok (.iload 4, 2) := by decide +kernel
theorem dX1_fillRestCosts_28 : decode cX1_fillRestCosts 28 = .ok (.aload_n 0, 1) := by decide +kernel
theorem dX1_fillRestCosts_29 : decode cX1_fillRestCosts 29 = .ok (.aload_n 1, 1) := by decide +kernel
theorem dX1_fillRestCosts_30 : decode cX1_fillRestCosts 30 = .ok (.aload_n 2, 1) := by decide +kernel
theorem dX1_fillRestCosts_31 : decode cX1_fillRestCosts 31 = .ok (.iload_n 3, 1) := by decide +kernel
theorem dX1_fillRestCosts_32 : decode cX1_fillRestCosts 32 = .ok (.iload 4, 2) := by decide +kernel
theorem dX1_fillRestCosts_34 : decode cX1_fillRestCosts 34 = .ok (.invokevirtual 66, 3) := by decide +kernel
theorem dX1_fillRestCosts_37 : decode cX1_fillRestCosts 37 = .ok (.iastore, 1) := by decide +kernel
theorem dX1_fillRestCosts_38 : decode cX1_fillRestCosts 38 = .ok (.iinc 4 (-1), 3) := by decide +kernel
theorem dX1_fillRestCosts_41 : decode cX1_fillRestCosts 41 = .ok (.goto (-26), 3) := by decide +kernel
theorem dX1_fillRestCosts_44 : decode cX1_fillRestCosts 44 = .ok (.iinc 3 (-1), 3) := by decide +kernel
theorem dX1_fillRestCosts_47 : decode cX1_fillRestCosts 47 = .ok (.goto (-42), 3) := by decide +kernel
theorem dX1_fillRestCosts_50 : decode cX1_fillRestCosts 50 = .ok (.return_, 1) := by decide +kernel
set_option maxRecDepth 20000 in
theorem ggX1_restCost_X1_costWithoutSecond : GoodIn wsX1_restCost wsX1_costWithoutSecond := goodIn_r _ [11, 12, 13, 14, 31, 32, 33, 34, 35, 36, 37, 38, 39, 40] (by decide +kernel) (by decide +kernel)
set_option maxRecDepth 20000 in
theorem gX1_restCost_X1_costWithoutSecond : GoodIn wsX1_restCost (wsV RX1 70 RX1 yX1_costWithoutSecond wsX1_costWithoutSecond) := goodIn_app (goodIn_of _ (by decide +kernel)) ggX1_restCost_X1_costWithoutSecond
set_option maxRecDepth 20000 in
theorem ggX1_restCost_X1_costWithoutFirst : GoodIn wsX1_restCost wsX1_costWithoutFirst := goodIn_r _ [18, 19, 20, 14, 31, 32, 33, 34, 35, 36, 37, 38, 39, 40] (by decide +kernel) (by decide +kernel)
set_option maxRecDepth 20000 in
theorem gX1_restCost_X1_costWithoutFirst : GoodIn wsX1_restCost (wsV RX1 74 RX1 yX1_costWithoutFirst wsX1_costWithoutFirst) := goodIn_app (goodIn_of _ (by decide +kernel)) ggX1_restCost_X1_costWithoutFirst
set_option maxRecDepth 20000 in
theorem ggX1_restCost_X1_canPair : GoodIn wsX1_restCost wsX1_canPair := goodIn_r _ [24, 25, 20, 13, 41, 42, 43, 44, 45, 46, 47, 31, 32, 33, 34, 35, 36, 37, 38, 39, 40] (by decide +kernel) (by decide +kernel)
set_option maxRecDepth 20000 in
theorem gX1_restCost_X1_canPair : GoodIn wsX1_restCost (wsV RX1 82 RX1 yX1_canPair wsX1_canPair) := goodIn_app (goodIn_of _ (by decide +kernel)) ggX1_restCost_X1_canPair
set_option maxRecDepth 20000 in
theorem ggX1_restCost_X1_costWithPair : GoodIn wsX1_restCost wsX1_costWithPair := goodIn_r _ [29, 30, 20, 13, 14, 31, 32, 33, 34, 35, 36, 37, 38, 39, 40] (by decide +kernel) (by decide +kernel)
set_option maxRecDepth 20000 in
theorem gX1_restCost_X1_costWithPair : GoodIn wsX1_restCost (wsV RX1 86 RX1 yX1_costWithPair wsX1_costWithPair) := goodIn_app (goodIn_of _ (by decide +kernel)) ggX1_restCost_X1_costWithPair
theorem dX1_restCost_0 : decode cX1_restCost 0 = .ok (.iload_n 3, 1) := by decide +kernel
theorem dX1_restCost_1 : decode cX1_restCost 1 = .ok (.aload_n 0, 1) := by decide +kernel
theorem dX1_restCost_2 : decode cX1_restCost 2 = .ok (.getfield 52, 3) := by decide +kernel
theorem dX1_restCost_5 : decode cX1_restCost 5 = .ok (.if_icmp .ne 24, 3) := by decide +kernel
theorem dX1_restCost_8 : decode cX1_restCost 8 = .ok (.iload 4, 2) := by decide +kernel
theorem dX1_restCost_10 : decode cX1_restCost 10 = .ok (.aload_n 0, 1) := by decide +kernel
theorem dX1_restCost_11 : decode cX1_restCost 11 = .ok (.getfield 55, 3) := by decide +kernel
theorem dX1_restCost_14 : decode cX1_restCost 14 = .ok (.if_icmp .ne 7, 3) := by decide +kernel
theorem dX1_restCost_17 : decode cX1_restCost 17 = .ok (.iconst 0, 1) := by decide +kernel
theorem dX1_restCost_18 : decode cX1_restCost 18 = .ok (.goto 10, 3) := by decide +kernel
theorem dX1_restCost_21 : decode cX1_restCost 21 = .ok (.aload_n 0, 1) := by decide +kernel
theorem dX1_restCost_22 : decode cX1_restCost 22 = .ok (.iload_n 3, 1) := by decide +kernel
theorem dX1_restCost_23 : decode cX1_restCost 23 = .ok (.iload 4, 2) := by decide +kernel
theorem dX1_restCost_25 : decode cX1_restCost 25 = .ok (.invokevirtual 70, 3) := by decide +kernel
theorem dX1_restCost_28 : decode cX1_restCost 28 = .ok (.ireturn, 1) := by decide +kernel
theorem dX1_restCost_29 : decode cX1_restCost 29 = .ok (.aload_n 0, 1) := by decide +kernel
theorem dX1_restCost_30 : decode cX1_restCost 30 = .ok (.iload_n 3, 1) := by decide +kernel
theorem dX1_restCost_31 : decode cX1_restCost 31 = .ok (.iload 4, 2) := by decide +kernel
theorem dX1_restCost_33 : decode cX1_restCost 33 = .ok (.invokevirtual 74, 3) := by decide +kernel
theorem dX1_restCost_36 : decode cX1_restCost 36 = .ok (.istore 5, 2) := by decide +kernel
theorem dX1_restCost_38 : decode cX1_restCost 38 = .ok (.iload 4, 2) := by decide +kernel
theorem dX1_restCost_40 : decode cX1_restCost 40 = .ok (.aload_n 0, 1) := by decide +kernel
theorem dX1_restCost_41 : decode cX1_restCost 41 = .ok (.getfield 55, 3) := by decide +kernel
theorem dX1_restCost_44 : decode cX1_restCost 44 = .ok (.if_icmp .ge 43, 3) := by decide +kernel
theorem dX1_restCost_47 : decode cX1_restCost 47 = .ok (.iload 5, 2) := by decide +kernel
theorem dX1_restCost_49 : decode cX1_restCost 49 = .ok (.aload_n 0, 1) := by decide +kernel
theorem dX1_restCost_50 : decode cX1_restCost 50 = .ok (.iload_n 3, 1) := by decide +kernel
theorem dX1_restCost_51 : decode cX1_restCost 51 = .ok (.iload 4, 2) := by decide +kernel
theorem dX1_restCost_53 : decode cX1_restCost 53 = .ok (.invokevirtual 70, 3) := by decide +kernel
theorem dX1_restCost_56 : decode cX1_restCost 56 = .ok (.invokestatic 77, 3) := by decide +kernel
theorem dX1_restCost_59 : decode cX1_restCost 59 = .ok (.istore 5, 2) := by decide +kernel
theorem dX1_restCost_61 : decode cX1_restCost 61 = .ok (.aload_n 0, 1) := by decide +kernel
theorem dX1_restCost_62 : decode cX1_restCost 62 = .ok (.aload_n 1, 1) := by decide +kernel
theorem dX1_restCost_63 : decode cX1_restCost 63 = .ok (.aload_n 2, 1) := by decide +kernel
theorem dX1_restCost_64 : decode cX1_restCost 64 = .ok (.iload_n 3, 1) := by decide +kernel
theorem dX1_restCost_65 : decode cX1_restCost 65 = .ok (.iload 4, 2) := by decide +kernel
theorem dX1_restCost_67 : decode cX1_restCost 67 = .ok (.invokevirtual 82, 3) := by decide +kernel
theorem dX1_restCost_70 : decode cX1_restCost 70 = .ok (.ifCond .eq 17, 3) := by decide +kernel
theorem dX1_restCost_73 : decode cX1_restCost 73 = .ok (.iload 5, 2) := by decide +kernel
theorem dX1_restCost_75 : decode cX1_restCost 75 = .ok (.aload_n 0, 1) := by decide +kernel
theorem dX1_restCost_76 : decode cX1_restCost 76 = .ok (.iload_n 3, 1) := by decide +kernel
theorem dX1_restCost_77 : decode cX1_restCost 77 = .ok (.iload 4, 2) := by decide +kernel
theorem dX1_restCost_79 : decode cX1_restCost 79 = .ok (.invokevirtual 86, 3) := by decide +kernel
theorem dX1_restCost_82 : decode cX1_restCost 82 = .ok (.invokestatic 77, 3) := by decide +kernel
theorem dX1_restCost_85 : decode cX1_restCost 85 = .ok (.istore 5, 2) := by decide +kernel
theorem dX1_restCost_87 : decode cX1_restCost 87 = .ok (.iload 5, 2) := by decide +kernel
theorem dX1_restCost_89 : decode cX1_restCost 89 = .ok (.ireturn, 1) := by decide +kernel
theorem dX1_canPair_0 : decode cX1_canPair 0 = .ok (.aload_n 1, 1) := by decide +kernel
theorem dX1_canPair_1 : decode cX1_canPair 1 = .ok (.getfield 89, 3) := by decide +kernel
theorem dX1_canPair_4 : decode cX1_canPair 4 = .ok (.aload_n 0, 1) := by decide +kernel
theorem dX1_canPair_5 : decode cX1_canPair 5 = .ok (.getfield 26, 3) := by decide +kernel
theorem dX1_canPair_8 : decode cX1_canPair 8 = .ok (.iload_n 3, 1) := by decide +kernel
theorem dX1_canPair_9 : decode cX1_canPair 9 = .ok (.iaload, 1) := by decide +kernel
theorem dX1_canPair_10 : decode cX1_canPair 10 = .ok (.iaload, 1) := by decide +kernel
theorem dX1_canPair_11 : decode cX1_canPair 11 = .ok (.aload_n 2, 1) := by decide +kernel
theorem dX1_canPair_12 : decode cX1_canPair 12 = .ok (.getfield 89, 3) := by decide +kernel
theorem dX1_canPair_15 : decode cX1_canPair 15 = .ok (.aload_n 0, 1) := by decide +kernel
theorem dX1_canPair_16 : decode cX1_canPair 16 = .ok (.getfield 29, 3) := by decide +kernel
theorem dX1_canPair_19 : decode cX1_canPair 19 = .ok (.iload 4, 2) := by decide +kernel
theorem dX1_canPair_21 : decode cX1_canPair 21 = .ok (.iaload, 1) := by decide +kernel
theorem dX1_canPair_22 : decode cX1_canPair 22 = .ok (.iaload, 1) := by decide +kernel
theorem dX1_canPair_23 : decode cX1_canPair 23 = .ok (.if_icmp .ne 7, 3) := by decide +kernel
theorem dX1_canPair_26 : decode cX1_canPair 26 = .ok (.iconst 1, 1) := by decide +kernel
theorem dX1_canPair_27 : decode cX1_canPair 27 = .ok (.goto 4, 3) := by decide +kernel
theorem dX1_canPair_30 : decode cX1_canPair 30 = .ok (.iconst 0, 1) := by decide +kernel
theorem dX1_canPair_31 : decode cX1_canPair 31 = .ok (.ireturn, 1) := by decide +kernel
theorem dX1_costWithPair_0 : decode cX1_costWithPair 0 = .ok (.aload_n 0, 1) := by decide +kernel
theorem dX1_costWithPair_1 : decode cX1_costWithPair 1 = .ok (.getfield 11, 3) := by decide +kernel
theorem dX1_costWithPair_4 : decode cX1_costWithPair 4 = .ok (.aload_n 0, 1) := by decide +kernel
theorem dX1_costWithPair_5 : decode cX1_costWithPair 5 = .ok (.getfield 26, 3) := by decide +kernel
theorem dX1_costWithPair_8 : decode cX1_costWithPair 8 = .ok (.iload_n 1, 1) := by decide +kernel
theorem dX1_costWithPair_9 : decode cX1_costWithPair 9 = .ok (.iaload, 1) := by decide +kernel
theorem dX1_costWithPair_10 : decode cX1_costWithPair 10 = .ok (.aaload, 1) := by decide +kernel
theorem dX1_costWithPair_11 : decode cX1_costWithPair 11 = .ok (.aload_n 0, 1) := by decide +kernel
theorem dX1_costWithPair_12 : decode cX1_costWithPair 12 = .ok (.getfield 29, 3) := by decide +kernel
theorem dX1_costWithPair_15 : decode cX1_costWithPair 15 = .ok (.iload_n 2, 1) := by decide +kernel
theorem dX1_costWithPair_16 : decode cX1_costWithPair 16 = .ok (.iaload, 1) := by decide +kernel
theorem dX1_costWithPair_17 : decode cX1_costWithPair 17 = .ok (.iaload, 1) := by decide +kernel
theorem dX1_costWithPair_18 : decode cX1_costWithPair 18 = .ok (.aload_n 0, 1) := by decide +kernel
theorem dX1_costWithPair_19 : decode cX1_costWithPair 19 = .ok (.getfield 16, 3) := by decide +kernel
theorem dX1_costWithPair_22 : decode cX1_costWithPair 22 = .ok (.iload_n 1, 1) := by decide +kernel
theorem dX1_costWithPair_23 : decode cX1_costWithPair 23 = .ok (.iconst 1, 1) := by decide +kernel
theorem dX1_costWithPair_24 : decode cX1_costWithPair 24 = .ok (.iadd, 1) := by decide +kernel
theorem dX1_costWithPair_25 : decode cX1_costWithPair 25 = .ok (.aaload, 1) := by decide +kernel
theorem dX1_costWithPair_26 : decode cX1_costWithPair 26 = .ok (.iload_n 2, 1) := by decide +kernel
theorem dX1_costWithPair_27 : decode cX1_costWithPair 27 = .ok (.iconst 1, 1) := by decide +kernel
theorem dX1_costWithPair_28 : decode cX1_costWithPair 28 = .ok (.iadd, 1) := by decide +kernel
theorem dX1_costWithPair_29 : decode cX1_costWithPair 29 = .ok (.iaload, 1) := by decide +kernel
theorem dX1_costWithPair_30 : decode cX1_costWithPair 30 = .ok (.iadd, 1) := by decide +kernel
theorem dX1_costWithPair_31 : decode cX1_costWithPair 31 = .ok (.ireturn, 1) := by decide +kernel
theorem dX1_costWithoutFirst_0 : decode cX1_costWithoutFirst 0 = .ok (.iconst 2, 1) := by decide +kernel
theorem dX1_costWithoutFirst_1 : decode cX1_costWithoutFirst 1 = .ok (.aload_n 0, 1) := by decide +kernel
theorem dX1_costWithoutFirst_2 : decode cX1_costWithoutFirst 2 = .ok (.getfield 19, 3) := by decide +kernel
theorem dX1_costWithoutFirst_5 : decode cX1_costWithoutFirst 5 = .ok (.aload_n 0, 1) := by decide +kernel
theorem dX1_costWithoutFirst_6 : decode cX1_costWithoutFirst 6 = .ok (.getfield 26, 3) := by decide +kernel
theorem dX1_costWithoutFirst_9 : decode cX1_costWithoutFirst 9 = .ok (.iload_n 1, 1) := by decide +kernel
theorem dX1_costWithoutFirst_10 : decode cX1_costWithoutFirst 10 = .ok (.iaload, 1) := by decide +kernel
theorem dX1_costWithoutFirst_11 : decode cX1_costWithoutFirst 11 = .ok (.iaload, 1) := by decide +kernel
theorem dX1_costWithoutFirst_12 : decode cX1_costWithoutFirst 12 = .ok (.imul, 1) := by decide +kernel
theorem dX1_costWithoutFirst_13 : decode cX1_costWithoutFirst 13 = .ok (.aload_n 0, 1) := by decide +kernel
theorem dX1_costWithoutFirst_14 : decode cX1_costWithoutFirst 14 = .ok (.getfield 16, 3) := by decide +kernel
theorem dX1_costWithoutFirst_17 : decode cX1_costWithoutFirst 17 = .ok (.iload_n 1, 1) := by decide +kernel
theorem dX1_costWithoutFirst_18 : decode cX1_costWithoutFirst 18 = .ok (.iconst 1, 1) := by decide +kernel
theorem dX1_costWithoutFirst_19 : decode cX1_costWithoutFirst 19 = .ok (.iadd, 1) := by decide +kernel
theorem dX1_costWithoutFirst_20 : decode cX1_costWithoutFirst 20 = .ok (.aaload, 1) := by decide +kernel
theorem dX1_costWithoutFirst_21 : decode cX1_costWithoutFirst 21 = .ok (.iload_n 2, 1) := by decide +kernel
theorem dX1_costWithoutFirst_22 : decode cX1_costWithoutFirst 22 = .ok (.iaload, 1) := by decide +kernel
theorem dX1_costWithoutFirst_23 : decode cX1_costWithoutFirst 23 = .ok (.iadd, 1) := by decide +kernel
theorem dX1_costWithoutFirst_24 : decode cX1_costWithoutFirst 24 = .ok (.ireturn, 1) := by decide +kernel
theorem dX1_costWithoutSecond_0 : decode cX1_costWithoutSecond 0 = .ok (.iconst 2, 1) := by decide +kernel
theorem dX1_costWithoutSecond_1 : decode cX1_costWithoutSecond 1 = .ok (.aload_n 0, 1) := by decide +kernel
theorem dX1_costWithoutSecond_2 : decode cX1_costWithoutSecond 2 = .ok (.getfield 23, 3) := by decide +kernel
theorem dX1_costWithoutSecond_5 : decode cX1_costWithoutSecond 5 = .ok (.aload_n 0, 1) := by decide +kernel
theorem dX1_costWithoutSecond_6 : decode cX1_costWithoutSecond 6 = .ok (.getfield 29, 3) := by decide +kernel
theorem dX1_costWithoutSecond_9 : decode cX1_costWithoutSecond 9 = .ok (.iload_n 2, 1) := by decide +kernel
theorem dX1_costWithoutSecond_10 : decode cX1_costWithoutSecond 10 = .ok (.iaload, 1) := by decide +kernel
theorem dX1_costWithoutSecond_11 : decode cX1_costWithoutSecond 11 = .ok (.iaload, 1) := by decide +kernel
theorem dX1_costWithoutSecond_12 : decode cX1_costWithoutSecond 12 = .ok (.imul, 1) := by decide +kernel
theorem dX1_costWithoutSecond_13 : decode cX1_costWithoutSecond 13 = .ok (.aload_n 0, 1) := by decide +kernel
theorem dX1_costWithoutSecond_14 : decode cX1_costWithoutSecond 14 = .ok (.getfield 16, 3) := by decide +kernel
theorem dX1_costWithoutSecond_17 : decode cX1_costWithoutSecond 17 = .ok (.iload_n 1, 1) := by decide +kernel
theorem dX1_costWithoutSecond_18 : decode cX1_costWithoutSecond 18 = .ok (.aaload, 1) := by decide +kernel
theorem dX1_costWithoutSecond_19 : decode cX1_costWithoutSecond 19 = .ok (.iload_n 2, 1) := by decide +kernel
theorem dX1_costWithoutSecond_20 : decode cX1_costWithoutSecond 20 = .ok (.iconst 1, 1) := by decide +kernel
theorem dX1_costWithoutSecond_21 : decode cX1_costWithoutSecond 21 = .ok (.iadd, 1) := by decide +kernel
theorem dX1_costWithoutSecond_22 : decode cX1_costWithoutSecond 22 = .ok (.iaload, 1) := by decide +kernel
theorem dX1_costWithoutSecond_23 : decode cX1_costWithoutSecond 23 = .ok (.iadd, 1) := by decide +kernel
theorem dX1_costWithoutSecond_24 : decode cX1_costWithoutSecond 24 = .ok (.ireturn, 1) := by decide +kernel
set_option maxRecDepth 20000 in
theorem ggX1_match_X1_leastCost : GoodIn wsX1_match wsX1_leastCost := goodIn_r _ [12, 13, 14, 3, 4, 5, 6, 7, 15, 16, 17, 18, 19, 20, 21, 22, 23, 24, 25, 26, 27, 28, 29, 30, 31, 32, 33, 34, 11, 35, 36, 37, 38, 39, 40, 41, 42, 43, 44, 45, 46, 47, 48, 49, 50, 51, 52, 53, 54, 55, 56, 57, 58, 59, 60, 61, 62, 63, 64, 65, 78, 79, 80, 81, 82, 83, 84, 85, 86, 87, 88, 89, 90, 91, 92, 93, 94] (by decide +kernel) (by decide +kernel)
set_option maxRecDepth 20000 in
theorem gX1_match_X1_leastCost : GoodIn wsX1_match (wsV RX1 92 RX1 yX1_leastCost wsX1_leastCost) := goodIn_app (goodIn_of _ (by decide +kernel)) ggX1_match_X1_leastCost
set_option maxRecDepth 20000 in
theorem ggX1_match_J7_fill_53178 : GoodIn wsX1_match wsJ7_fill_53178 := goodIn_r _ [69] (by decide +kernel) (by decide +kernel)
set_option maxRecDepth 20000 in
theorem gX1_match_J7_fill_53178 : GoodIn wsX1_match (va_wsS RX1 96 yJ7_fill_53178 wsJ7_fill_53178) := goodIn_app (goodIn_of _ (by decide +kernel)) ggX1_match_J7_fill_53178
set_option maxRecDepth 20000 in
theorem ggX1_match_X1_link : GoodIn wsX1_match wsX1_link := goodIn_r _ [73, 1, 2, 78, 79, 80, 81, 82, 83, 84, 85, 86, 87] (by decide +kernel) (by decide +kernel)
set_option maxRecDepth 20000 in
theorem gX1_match_X1_link : GoodIn wsX1_match (wsV RX1 102 RX1 yX1_link wsX1_link) := goodIn_app (goodIn_of _ (by decide +kernel)) ggX1_match_X1_link
set_option maxRecDepth 20000 in
theorem ggX1_match_X5_listChildren : GoodIn wsX1_match wsX5_listChildren := goodIn_r _ [31, 22, 27, 88, 89, 90, 91, 92, 93, 94] (by decide +kernel) (by decide +kernel)
set_option maxRecDepth 20000 in
theorem gX1_match_X5_listChildren : GoodIn wsX1_match (wsV RX1 48 RX5 yX5_listChildren wsX5_listChildren) := goodIn_app (goodIn_of _ (by decide +kernel)) ggX1_match_X5_listChildren
set_option maxRecDepth 20000 in
theorem ggX1_match_X1_fillRestCosts : GoodIn wsX1_match wsX1_fillRestCosts := goodIn_r _ [35, 5, 7, 16, 36, 37, 38, 11, 39, 40, 41, 42, 43, 44, 45, 46, 47, 14, 6, 48, 49, 50, 51, 13, 4, 52, 53, 54, 55, 56, 57, 58, 59, 60, 15, 78, 79, 80, 81, 82, 83, 84, 85, 86, 87, 88, 89, 90, 91, 92, 93, 94] (by decide +kernel) (by decide +kernel)
set_option maxRecDepth 20000 in
theorem gX1_match_X1_fillRestCosts : GoodIn wsX1_match (wsV RX1 58 RX1 yX1_fillRestCosts wsX1_fillRestCosts) := goodIn_app (goodIn_of _ (by decide +kernel)) ggX1_match_X1_fillRestCosts
set_option maxRecDepth 20000 in
theorem ggX1_match_X1_chooseChildren : GoodIn wsX1_match wsX1_chooseChildren := goodIn_r _ [77, 5, 7, 16, 4, 6, 52, 53, 54, 11, 55, 56, 57, 58, 59, 60, 15, 70, 71, 72, 73, 1, 2, 48, 49, 50, 51, 13, 78, 79, 80, 81, 82, 83, 84, 85, 86, 87, 88, 89, 90, 91, 92, 93, 94] (by decide +kernel) (by decide +kernel)
set_option maxRecDepth 20000 in
theorem gX1_match_X1_chooseChildren : GoodIn wsX1_match (wsV RX1 106 RX1 yX1_chooseChildren wsX1_chooseChildren) := goodIn_app (goodIn_of _ (by decide +kernel)) ggX1_match_X1_chooseChildren
theorem dX1_match_0 : decode cX1_match 0 = .ok (.aload_n 0, 1) := by decide +kernel
theorem dX1_match_1 : decode cX1_match 1 = .ok (.aload_n 1, 1) := by decide +kernel
theorem dX1_match_2 : decode cX1_match 2 = .ok (.aload_n 2, 1) := by decide +kernel
theorem dX1_match_3 : decode cX1_match 3 = .ok (.invokevirtual 92, 3) := by decide +kernel
theorem dX1_match_6 : decode cX1_match 6 = .ok (.pop, 1) := by decide +kernel
theorem dX1_match_7 : decode cX1_match 7 = .ok (.aload_n 0, 1) := by decide +kernel
theorem dX1_match_8 : decode cX1_match 8 = .ok (.getfield 32, 3) := by decide +kernel
theorem dX1_match_11 : decode cX1_match 11 = .ok (.iconst (-1), 1) := by decide +kernel
theorem dX1_match_12 : decode cX1_match 12 = .ok (.invokestatic 96, 3) := by decide +kernel
theorem dX1_match_15 : decode cX1_match 15 = .ok (.aload_n 0, 1) := by decide +kernel
theorem dX1_match_16 : decode cX1_match 16 = .ok (.getfield 35, 3) := by decide +kernel
theorem dX1_match_19 : decode cX1_match 19 = .ok (.iconst (-1), 1) := by decide +kernel
theorem dX1_match_20 : decode cX1_match 20 = .ok (.invokestatic 96, 3) := by decide +kernel
theorem dX1_match_23 : decode cX1_match 23 = .ok (.aload_n 0, 1) := by decide +kernel
theorem dX1_match_24 : decode cX1_match 24 = .ok (.iconst 0, 1) := by decide +kernel
theorem dX1_match_25 : decode cX1_match 25 = .ok (.iconst 0, 1) := by decide +kernel
theorem dX1_match_26 : decode cX1_match 26 = .ok (.invokevirtual 102, 3) := by decide +kernel
theorem dX1_match_29 : decode cX1_match 29 = .ok (.iconst 0, 1) := by decide +kernel
theorem dX1_match_30 : decode cX1_match 30 = .ok (.istore_n 3, 1) := by decide +kernel
theorem dX1_match_31 : decode cX1_match 31 = .ok (.iload_n 3, 1) := by decide +kernel
theorem dX1_match_32 : decode cX1_match 32 = .ok (.aload_n 1, 1) := by decide +kernel
theorem dX1_match_33 : decode cX1_match 33 = .ok (.getfield 44, 3) := by decide +kernel
theorem dX1_match_36 : decode cX1_match 36 = .ok (.if_icmp .ge 62, 3) := by decide +kernel
theorem dX1_match_39 : decode cX1_match 39 = .ok (.aload_n 0, 1) := by decide +kernel
theorem dX1_match_40 : decode cX1_match 40 = .ok (.getfield 32, 3) := by decide +kernel
theorem dX1_match_43 : decode cX1_match 43 = .ok (.iload_n 3, 1) := by decide +kernel
theorem dX1_match_44 : decode cX1_match 44 = .ok (.iaload, 1) := by decide +kernel
theorem dX1_match_45 : decode cX1_match 45 = .ok (.istore 4, 2) := by decide +kernel
theorem dX1_match_47 : decode cX1_match 47 = .ok (.iload 4, 2) := by decide +kernel
theorem dX1_match_49 : decode cX1_match 49 = .ok (.iconst (-1), 1) := by decide +kernel
theorem dX1_match_50 : decode cX1_match 50 = .ok (.if_icmp .eq 42, 3) := by decide +kernel
theorem dX1_match_53 : decode cX1_match 53 = .ok (.aload_n 0, 1) := by decide +kernel
theorem dX1_match_54 : decode cX1_match 54 = .ok (.aload_n 1, 1) := by decide +kernel
theorem dX1_match_55 : decode cX1_match 55 = .ok (.iload_n 3, 1) := by decide +kernel
theorem dX1_match_56 : decode cX1_match 56 = .ok (.aload_n 0, 1) := by decide +kernel
theorem dX1_match_57 : decode cX1_match 57 = .ok (.getfield 26, 3) := by decide +kernel
theorem dX1_match_60 : decode cX1_match 60 = .ok (.invokevirtual 48, 3) := by decide +kernel
theorem dX1_match_63 : decode cX1_match 63 = .ok (.putfield 52, 3) := by decide +kernel
theorem dX1_match_66 : decode cX1_match 66 = .ok (.aload_n 0, 1) := by decide +kernel
theorem dX1_match_67 : decode cX1_match 67 = .ok (.aload_n 2, 1) := by decide +kernel
theorem dX1_match_68 : decode cX1_match 68 = .ok (.iload 4, 2) := by decide +kernel
theorem dX1_match_70 : decode cX1_match 70 = .ok (.aload_n 0, 1) := by decide +kernel
theorem dX1_match_71 : decode cX1_match 71 = .ok (.getfield 29, 3) := by decide +kernel
theorem dX1_match_74 : decode cX1_match 74 = .ok (.invokevirtual 48, 3) := by decide +kernel
theorem dX1_match_77 : decode cX1_match 77 = .ok (.putfield 55, 3) := by decide +kernel
theorem dX1_match_80 : decode cX1_match 80 = .ok (.aload_n 0, 1) := by decide +kernel
theorem dX1_match_81 : decode cX1_match 81 = .ok (.aload_n 1, 1) := by decide +kernel
theorem dX1_match_82 : decode cX1_match 82 = .ok (.aload_n 2, 1) := by decide +kernel
theorem dX1_match_83 : decode cX1_match 83 = .ok (.invokevirtual 58, 3) := by decide +kernel
theorem dX1_match_86 : decode cX1_match 86 = .ok (.aload_n 0, 1) := by decide +kernel
theorem dX1_match_87 : decode cX1_match 87 = .ok (.aload_n 1, 1) := by decide +kernel
theorem dX1_match_88 : decode cX1_match 88 = .ok (.aload_n 2, 1) := by decide +kernel
theorem dX1_match_89 : decode cX1_match 89 = .ok (.invokevirtual 106, 3) := by decide +kernel
theorem dX1_match_92 : decode cX1_match 92 = .ok (.iinc 3 1, 3) := by decide +kernel
theorem dX1_match_95 : decode cX1_match 95 = .ok (.goto (-64), 3) := by decide +kernel
theorem dX1_match_98 : decode cX1_match 98 = .ok (.return_, 1) := by decide +kernel
set_option maxRecDepth 20000 in
theorem ggX1_chooseChildren_X1_canPair : GoodIn wsX1_chooseChildren wsX1_canPair := goodIn_r _ [10, 11, 4, 5, 38, 39, 40, 41, 42, 43, 44, 28, 29, 30, 31, 32, 33, 34, 35, 36, 37] (by decide +kernel) (by decide +kernel)
set_option maxRecDepth 20000 in
theorem gX1_chooseChildren_X1_canPair : GoodIn wsX1_chooseChildren (wsV RX1 82 RX1 yX1_canPair wsX1_canPair) := goodIn_app (goodIn_of _ (by decide +kernel)) ggX1_chooseChildren_X1_canPair
set_option maxRecDepth 20000 in
theorem ggX1_chooseChildren_X1_costWithPair : GoodIn wsX1_chooseChildren wsX1_costWithPair := goodIn_r _ [15, 16, 4, 5, 3, 28, 29, 30, 31, 32, 33, 34, 35, 36, 37] (by decide +kernel) (by decide +kernel)
set_option maxRecDepth 20000 in
theorem gX1_chooseChildren_X1_costWithPair : GoodIn wsX1_chooseChildren (wsV RX1 86 RX1 yX1_costWithPair wsX1_costWithPair) := goodIn_app (goodIn_of _ (by decide +kernel)) ggX1_chooseChildren_X1_costWithPair
set_option maxRecDepth 20000 in
theorem ggX1_chooseChildren_X1_link : GoodIn wsX1_chooseChildren wsX1_link := goodIn_r _ [20, 21, 22, 28, 29, 30, 31, 32, 33, 34, 35, 36, 37] (by decide +kernel) (by decide +kernel)
set_option maxRecDepth 20000 in
theorem gX1_chooseChildren_X1_link : GoodIn wsX1_chooseChildren (wsV RX1 102 RX1 yX1_link wsX1_link) := goodIn_app (goodIn_of _ (by decide +kernel)) ggX1_chooseChildren_X1_link
set_option maxRecDepth 20000 in
theorem ggX1_chooseChildren_X1_costWithoutFirst : GoodIn wsX1_chooseChildren wsX1_costWithoutFirst := goodIn_r _ [26, 27, 4, 3, 28, 29, 30, 31, 32, 33, 34, 35, 36, 37] (by decide +kernel) (by decide +kernel)
set_option maxRecDepth 20000 in
theorem gX1_chooseChildren_X1_costWithoutFirst : GoodIn wsX1_chooseChildren (wsV RX1 74 RX1 yX1_costWithoutFirst wsX1_costWithoutFirst) := goodIn_app (goodIn_of _ (by decide +kernel)) ggX1_chooseChildren_X1_costWithoutFirst
theorem dX1_chooseChildren_0 : decode cX1_chooseChildren 0 = .ok (.iconst 0, 1) := by decide +kernel
theorem dX1_chooseChildren_1 : decode cX1_chooseChildren 1 = .ok (.istore_n 3, 1) := by decide +kernel
theorem dX1_chooseChildren_2 : decode cX1_chooseChildren 2 = .ok (.iconst 0, 1) := by decide +kernel
theorem dX1_chooseChildren_3 : decode cX1_chooseChildren 3 = .ok (.istore 4, 2) := by decide +kernel
theorem dX1_chooseChildren_5 : decode cX1_chooseChildren 5 = .ok (.iload_n 3, 1) := by decide +kernel
theorem dX1_chooseChildren_6 : decode cX1_chooseChildren 6 = .ok (.aload_n 0, 1) := by decide +kernel
theorem dX1_chooseChildren_7 : decode cX1_chooseChildren 7 = .ok (.getfield 52, 3) := by decide +kernel
theorem dX1_chooseChildren_10 : decode cX1_chooseChildren 10 = .ok (.if_icmp .ge 97, 3) := by decide +kernel
theorem dX1_chooseChildren_13 : decode cX1_chooseChildren 13 = .ok (.iload 4, 2) := by decide +kernel
theorem dX1_chooseChildren_15 : decode cX1_chooseChildren 15 = .ok (.aload_n 0, 1) := by decide +kernel
theorem dX1_chooseChildren_16 : decode cX1_chooseChildren 16 = .ok (.getfield 55, 3) := by decide +kernel
theorem dX1_chooseChildren_19 : decode cX1_chooseChildren 19 = .ok (.if_icmp .ge 88, 3) := by decide +kernel
theorem dX1_chooseChildren_22 : decode cX1_chooseChildren 22 = .ok (.aload_n 0, 1) := by decide +kernel
theorem dX1_chooseChildren_23 : decode cX1_chooseChildren 23 = .ok (.getfield 16, 3) := by decide +kernel
theorem dX1_chooseChildren_26 : decode cX1_chooseChildren 26 = .ok (.iload_n 3, 1) := by decide +kernel
theorem dX1_chooseChildren_27 : decode cX1_chooseChildren 27 = .ok (.aaload, 1) := by decide +kernel
theorem dX1_chooseChildren_28 : decode cX1_chooseChildren 28 = .ok (.iload 4, 2) := by decide +kernel
theorem dX1_chooseChildren_30 : decode cX1_chooseChildren 30 = .ok (.iaload, 1) := by decide +kernel
theorem dX1_chooseChildren_31 : decode cX1_chooseChildren 31 = .ok (.istore 5, 2) := by decide +kernel
theorem dX1_chooseChildren_33 : decode cX1_chooseChildren 33 = .ok (.aload_n 0, 1) := by decide +kernel
theorem dX1_chooseChildren_34 : decode cX1_chooseChildren 34 = .ok (.aload_n 1, 1) := by decide +kernel
theorem dX1_chooseChildren_35 : decode cX1_chooseChildren 35 = .ok (.aload_n 2, 1) := by decide +kernel
theorem dX1_chooseChildren_36 : decode cX1_chooseChildren 36 = .ok (.iload_n 3, 1) := by decide +kernel
theorem dX1_chooseChildren_37 : decode cX1_chooseChildren 37 = .ok (.iload 4, 2) := by decide +kernel
theorem dX1_chooseChildren_39 : decode cX1_chooseChildren 39 = .ok (.invokevirtual 82, 3) := by decide +kernel
theorem dX1_chooseChildren_42 : decode cX1_chooseChildren 42 = .ok (.ifCond .eq 41, 3) := by decide +kernel
theorem dX1_chooseChildren_45 : decode cX1_chooseChildren 45 = .ok (.aload_n 0, 1) := by decide +kernel
theorem dX1_chooseChildren_46 : decode cX1_chooseChildren 46 = .ok (.iload_n 3, 1) := by decide +kernel
theorem dX1_chooseChildren_47 : decode cX1_chooseChildren 47 = .ok (.iload 4, 2) := by decide +kernel
theorem dX1_chooseChildren_49 : decode cX1_chooseChildren 49 = .ok (.invokevirtual 86, 3) := by decide +kernel
theorem dX1_chooseChildren_52 : decode cX1_chooseChildren 52 = .ok (.iload 5, 2) := by decide +kernel
theorem dX1_chooseChildren_54 : decode cX1_chooseChildren 54 = .ok (.if_icmp .ne 29, 3) := by decide +kernel
theorem dX1_chooseChildren_57 : decode cX1_chooseChildren 57 = .ok (.aload_n 0, 1) := by decide +kernel
theorem dX1_chooseChildren_58 : decode cX1_chooseChildren 58 = .ok (.aload_n 0, 1) := by decide +kernel
theorem dX1_chooseChildren_59 : decode cX1_chooseChildren 59 = .ok (.getfield 26, 3) := by decide +kernel
theorem dX1_chooseChildren_62 : decode cX1_chooseChildren 62 = .ok (.iload_n 3, 1) := by decide +kernel
theorem dX1_chooseChildren_63 : decode cX1_chooseChildren 63 = .ok (.iaload, 1) := by decide +kernel
theorem dX1_chooseChildren_64 : decode cX1_chooseChildren 64 = .ok (.aload_n 0, 1) := by decide +kernel
theorem dX1_chooseChildren_65 : decode cX1_chooseChildren 65 = .ok (.getfield 29, 3) := by decide +kernel
theorem dX1_chooseChildren_68 : decode cX1_chooseChildren 68 = .ok (.iload 4, 2) := by decide +kernel
theorem dX1_chooseChildren_70 : decode cX1_chooseChildren 70 = .ok (.iaload, 1) := by decide +kernel
theorem dX1_chooseChildren_71 : decode cX1_chooseChildren 71 = .ok (.invokevirtual 102, 3) := by decide +kernel
theorem dX1_chooseChildren_74 : decode cX1_chooseChildren 74 = .ok (.iinc 3 1, 3) := by decide +kernel
theorem dX1_chooseChildren_77 : decode cX1_chooseChildren 77 = .ok (.iinc 4 1, 3) := by decide +kernel
theorem dX1_chooseChildren_80 : decode cX1_chooseChildren 80 = .ok (.goto 24, 3) := by decide +kernel
theorem dX1_chooseChildren_83 : decode cX1_chooseChildren 83 = .ok (.aload_n 0, 1) := by decide +kernel
theorem dX1_chooseChildren_84 : decode cX1_chooseChildren 84 = .ok (.iload_n 3, 1) := by decide +kernel
theorem dX1_chooseChildren_85 : decode cX1_chooseChildren 85 = .ok (.iload 4, 2) := by decide +kernel
theorem dX1_chooseChildren_87 : decode cX1_chooseChildren 87 = .ok (.invokevirtual 74, 3) := by decide +kernel
theorem dX1_chooseChildren_90 : decode cX1_chooseChildren 90 = .ok (.iload 5, 2) := by decide +kernel
theorem dX1_chooseChildren_92 : decode cX1_chooseChildren 92 = .ok (.if_icmp .ne 9, 3) := by decide +kernel
theorem dX1_chooseChildren_95 : decode cX1_chooseChildren 95 = .ok (.iinc 3 1, 3) := by decide +kernel
theorem dX1_chooseChildren_98 : decode cX1_chooseChildren 98 = .ok (.goto 6, 3) := by decide +kernel
theorem dX1_chooseChildren_101 : decode cX1_chooseChildren 101 = .ok (.iinc 4 1, 3) := by decide +kernel
theorem dX1_chooseChildren_104 : decode cX1_chooseChildren 104 = .ok (.goto (-99), 3) := by decide +kernel
theorem dX1_chooseChildren_107 : decode cX1_chooseChildren 107 = .ok (.return_, 1) := by decide +kernel
theorem dX1_link_0 : decode cX1_link 0 = .ok (.aload_n 0, 1) := by decide +kernel
theorem dX1_link_1 : decode cX1_link 1 = .ok (.getfield 32, 3) := by decide +kernel
theorem dX1_link_4 : decode cX1_link 4 = .ok (.iload_n 1, 1) := by decide +kernel
theorem dX1_link_5 : decode cX1_link 5 = .ok (.iload_n 2, 1) := by decide +kernel
theorem dX1_link_6 : decode cX1_link 6 = .ok (.iastore, 1) := by decide +kernel
theorem dX1_link_7 : decode cX1_link 7 = .ok (.aload_n 0, 1) := by decide +kernel
theorem dX1_link_8 : decode cX1_link 8 = .ok (.getfield 35, 3) := by decide +kernel
theorem dX1_link_11 : decode cX1_link 11 = .ok (.iload_n 2, 1) := by decide +kernel
theorem dX1_link_12 : decode cX1_link 12 = .ok (.iload_n 1, 1) := by decide +kernel
theorem dX1_link_13 : decode cX1_link 13 = .ok (.iastore, 1) := by decide +kernel
theorem dX1_link_14 : decode cX1_link 14 = .ok (.return_, 1) := by decide +kernel
set_option maxRecDepth 20000 in
theorem ggX2_init_X1_init : GoodIn wsX2_init wsX1_init := goodIn_r _ [15, 16, 2, 3, 17, 18, 19, 20, 21, 22, 23, 24, 25, 26, 39, 40, 41, 42, 43, 44, 45, 46, 47, 48] (by decide +kernel) (by decide +kernel)
set_option maxRecDepth 20000 in
theorem gX2_init_X1_init_n11 : GoodIn wsX2_init (wsX1_init) := ggX2_init_X1_init
set_option maxRecDepth 20000 in
theorem ggX2_init_X5_init : GoodIn wsX2_init wsX5_init := goodIn_r _ [29, 30, 2, 3, 31, 32, 18, 33, 34, 35, 36, 37, 38, 53, 54, 55, 56, 57, 58, 59] (by decide +kernel) (by decide +kernel)
set_option maxRecDepth 20000 in
theorem gX2_init_X5_init : GoodIn wsX2_init (wsX5_init) := ggX2_init_X5_init
theorem dX2_init_0 : decode cX2_init 0 = .ok (.aload_n 0, 1) := by decide +kernel
theorem dX2_init_1 : decode cX2_init 1 = .ok (.invokespecial 3, 3) := by decide +kernel
theorem dX2_init_4 : decode cX2_init 4 = .ok (.aload_n 0, 1) := by decide +kernel
theorem dX2_init_5 : decode cX2_init 5 = .ok (.new 9, 3) := by decide +kernel
theorem dX2_init_8 : decode cX2_init 8 = .ok (.dup, 1) := by decide +kernel
theorem dX2_init_9 : decode cX2_init 9 = .ok (.invokespecial 11, 3) := by decide +kernel
theorem dX2_init_12 : decode cX2_init 12 = .ok (.putfield 12, 3) := by decide +kernel
theorem dX2_init_15 : decode cX2_init 15 = .ok (.aload_n 0, 1) := by decide +kernel
theorem dX2_init_16 : decode cX2_init 16 = .ok (.new 18, 3) := by decide +kernel
theorem dX2_init_19 : decode cX2_init 19 = .ok (.dup, 1) := by decide +kernel
theorem dX2_init_20 : decode cX2_init 20 = .ok (.invokespecial 20, 3) := by decide +kernel
theorem dX2_init_23 : decode cX2_init 23 = .ok (.putfield 21, 3) := by decide +kernel
theorem dX2_init_26 : decode cX2_init 26 = .ok (.aload_n 0, 1) := by decide +kernel
theorem dX2_init_27 : decode cX2_init 27 = .ok (.iconst (-1), 1) := by decide +kernel
theorem dX2_init_28 : decode cX2_init 28 = .ok (.putfield 25, 3) := by decide +kernel
theorem dX2_init_31 : decode cX2_init 31 = .ok (.aload_n 0, 1) := by decide +kernel
theorem dX2_init_32 : decode cX2_init 32 = .ok (.bipush 32, 2) := by decide +kernel
theorem dX2_init_34 : decode cX2_init 34 = .ok (.putfield 29, 3) := by decide +kernel
theorem dX2_init_37 : decode cX2_init 37 = .ok (.return_, 1) := by decide +kernel
set_option maxRecDepth 20000 in
theorem ggX2_apply_X1_match : GoodIn wsX2_apply wsX1_match := goodIn_r _ [8, 9, 10, 11, 12, 13, 14, 15, 16, 17, 18, 7, 19, 20, 21, 22, 23, 24, 25, 26, 27, 28, 29, 30, 31, 32, 33, 34, 35, 36, 37, 38, 39, 40, 41, 42, 43, 44, 45, 46, 47, 48, 49, 50, 51, 52, 53, 54, 55, 56, 57, 58, 59, 60, 61, 62, 63, 64, 65, 66, 67, 68, 69, 70, 71, 72, 73, 74, 75, 76, 77, 78, 79, 80, 81, 82, 83, 84, 221, 222, 223, 224, 225, 226, 227, 228, 229, 230, 231, 232, 233, 234, 235, 236, 237] (by decide +kernel) (by decide +kernel)
set_option maxRecDepth 20000 in
theorem gX2_apply_X1_match : GoodIn wsX2_apply (wsV RX2 38 RX1 yX1_match wsX1_match) := goodIn_app (goodIn_of _ (by decide +kernel)) ggX2_apply_X1_match
set_option maxRecDepth 20000 in
theorem ggX2_apply_X5_copyFrom : GoodIn wsX2_apply wsX5_copyFrom := goodIn_r _ [88, 89, 90, 91, 92, 93, 94, 95, 34, 29, 231, 232, 233, 234, 235, 236, 237] (by decide +kernel) (by decide +kernel)
set_option maxRecDepth 20000 in
theorem gX2_apply_X5_copyFrom : GoodIn wsX2_apply (wsV RX2 42 RX5 yX5_copyFrom wsX5_copyFrom) := goodIn_app (goodIn_of _ (by decide +kernel)) ggX2_apply_X5_copyFrom
set_option maxRecDepth 20000 in
theorem ggX2_apply_X5_markByNumber : GoodIn wsX2_apply wsX5_markByNumber := goodIn_r _ [99, 29, 100, 231, 232, 233, 234, 235, 236, 237] (by decide +kernel) (by decide +kernel)
set_option maxRecDepth 20000 in
theorem gX2_apply_X5_markByNumber : GoodIn wsX2_apply (wsV RX2 46 RX5 yX5_markByNumber wsX5_markByNumber) := goodIn_app (goodIn_of _ (by decide +kernel)) ggX2_apply_X5_markByNumber
set_option maxRecDepth 20000 in
theorem ggX2_apply_X2_takeAllOut : GoodIn wsX2_apply wsX2_takeAllOut := goodIn_r _ [105, 106, 107, 108, 109, 110, 104, 111, 112, 1, 113, 2, 3, 114, 69, 115, 116, 117, 118, 27, 119, 89, 94, 95, 120, 121, 122, 123, 34, 30, 31, 32, 33, 29, 124, 125, 126, 127, 100, 128, 129, 130, 131, 132, 133, 134, 135, 136, 137, 138, 139, 140, 141, 212, 213, 214, 215, 216, 217, 218, 219, 220, 208, 209, 210, 211, 221, 222, 223, 224, 225, 226, 227, 228, 229, 230, 231, 232, 233, 234, 235, 236, 237] (by decide +kernel) (by decide +kernel)
set_option maxRecDepth 20000 in
theorem gX2_apply_X2_takeAllOut : GoodIn wsX2_apply (wsV RX2 49 RX2 yX2_takeAllOut wsX2_takeAllOut) := goodIn_app (goodIn_of _ (by decide +kernel)) ggX2_apply_X2_takeAllOut
set_option maxRecDepth 20000 in
theorem ggX2_apply_X2_changeAll : GoodIn wsX2_apply wsX2_changeAll := goodIn_r _ [145, 106, 107, 146, 147, 148, 104, 149, 112, 150, 3, 1, 113, 2, 151, 152, 153, 114, 69, 115, 124, 125, 126, 27, 127, 29, 100, 154, 155, 156, 157, 158, 159, 160, 161, 136, 137, 138, 139, 140, 141, 212, 213, 214, 215, 216, 217, 218, 219, 220, 208, 209, 210, 211, 221, 222, 223, 224, 225, 226, 227, 228, 229, 230, 231, 232, 233, 234, 235, 236, 237] (by decide +kernel) (by decide +kernel)
set_option maxRecDepth 20000 in
theorem gX2_apply_X2_changeAll : GoodIn wsX2_apply (wsV RX2 53 RX2 yX2_changeAll wsX2_changeAll) := goodIn_app (goodIn_of _ (by decide +kernel)) ggX2_apply_X2_changeAll
set_option maxRecDepth 20000 in
theorem ggX2_apply_X2_putAllIn : GoodIn wsX2_apply wsX2_putAllIn := goodIn_r _ [165, 106, 107, 166, 167, 168, 104, 169, 150, 152, 170, 3, 171, 1, 113, 112, 114, 69, 115, 172, 173, 174, 175, 176, 124, 125, 126, 27, 127, 29, 100, 177, 178, 179, 180, 34, 94, 181, 182, 183, 184, 185, 186, 187, 188, 189, 190, 191, 30, 31, 32, 33, 192, 193, 194, 195, 89, 95, 196, 197, 198, 199, 200, 201, 202, 203, 132, 133, 134, 135, 204, 205, 206, 207, 136, 137, 138, 139, 140, 141, 212, 213, 214, 215, 216, 217, 218, 219, 220, 231, 232, 233, 234, 235, 236, 237, 208, 209, 210, 211, 221, 222, 223, 224, 225, 226, 227, 228, 229, 230] (by decide +kernel) (by decide +kernel)
set_option maxRecDepth 20000 in
theorem gX2_apply_X2_putAllIn : GoodIn wsX2_apply (wsV RX2 57 RX2 yX2_putAllIn wsX2_putAllIn) := goodIn_app (goodIn_of _ (by decide +kernel)) ggX2_apply_X2_putAllIn
theorem dX2_apply_0 : decode cX2_apply 0 = .ok (.aload_n 0, 1) := by decide +kernel
theorem dX2_apply_1 : decode cX2_apply 1 = .ok (.getfield 12, 3) := by decide +kernel
theorem dX2_apply_4 : decode cX2_apply 4 = .ok (.aload_n 1, 1) := by decide +kernel
theorem dX2_apply_5 : decode cX2_apply 5 = .ok (.getfield 33, 3) := by decide +kernel
theorem dX2_apply_8 : decode cX2_apply 8 = .ok (.aload_n 2, 1) := by decide +kernel
theorem dX2_apply_9 : decode cX2_apply 9 = .ok (.invokevirtual 38, 3) := by decide +kernel
theorem dX2_apply_12 : decode cX2_apply 12 = .ok (.aload_n 0, 1) := by decide +kernel
theorem dX2_apply_13 : decode cX2_apply 13 = .ok (.getfield 21, 3) := by decide +kernel
theorem dX2_apply_16 : decode cX2_apply 16 = .ok (.aload_n 2, 1) := by decide +kernel
theorem dX2_apply_17 : decode cX2_apply 17 = .ok (.invokevirtual 42, 3) := by decide +kernel
theorem dX2_apply_20 : decode cX2_apply 20 = .ok (.aload_n 0, 1) := by decide +kernel
theorem dX2_apply_21 : decode cX2_apply 21 = .ok (.getfield 21, 3) := by decide +kernel
theorem dX2_apply_24 : decode cX2_apply 24 = .ok (.invokevirtual 46, 3) := by decide +kernel
theorem dX2_apply_27 : decode cX2_apply 27 = .ok (.aload_n 0, 1) := by decide +kernel
theorem dX2_apply_28 : decode cX2_apply 28 = .ok (.aload_n 1, 1) := by decide +kernel
theorem dX2_apply_29 : decode cX2_apply 29 = .ok (.aload_n 2, 1) := by decide +kernel
theorem dX2_apply_30 : decode cX2_apply 30 = .ok (.invokevirtual 49, 3) := by decide +kernel
theorem dX2_apply_33 : decode cX2_apply 33 = .ok (.ifCond .eq 24, 3) := by decide +kernel
theorem dX2_apply_36 : decode cX2_apply 36 = .ok (.aload_n 0, 1) := by decide +kernel
theorem dX2_apply_37 : decode cX2_apply 37 = .ok (.aload_n 1, 1) := by decide +kernel
theorem dX2_apply_38 : decode cX2_apply 38 = .ok (.invokevirtual 53, 3) := by decide +kernel
theorem dX2_apply_41 : decode cX2_apply 41 = .ok (.ifCond .eq 16, 3) := by decide +kernel
theorem dX2_apply_44 : decode cX2_apply 44 = .ok (.aload_n 0, 1) := by decide +kernel
theorem dX2_apply_45 : decode cX2_apply 45 = .ok (.aload_n 1, 1) := by decide +kernel
theorem dX2_apply_46 : decode cX2_apply 46 = .ok (.aload_n 2, 1) := by decide +kernel
theorem dX2_apply_47 : decode cX2_apply 47 = .ok (.invokevirtual 57, 3) := by decide +kernel
theorem dX2_apply_50 : decode cX2_apply 50 = .ok (.ifCond .eq 7, 3) := by decide +kernel
theorem dX2_apply_53 : decode cX2_apply 53 = .ok (.iconst 1, 1) := by decide +kernel
theorem dX2_apply_54 : decode cX2_apply 54 = .ok (.goto 4, 3) := by decide +kernel
theorem dX2_apply_57 : decode cX2_apply 57 = .ok (.iconst 0, 1) := by decide +kernel
theorem dX2_apply_58 : decode cX2_apply 58 = .ok (.ireturn, 1) := by decide +kernel
set_option maxRecDepth 20000 in
theorem ggX2_takeAllOut_X2_takeOut : GoodIn wsX2_takeAllOut wsX2_takeOut := goodIn_r _ [7, 2, 8, 9, 10, 11, 12, 13, 14, 15, 16, 17, 18, 19, 20, 21, 22, 23, 24, 25, 26, 27, 28, 29, 30, 31, 32, 33, 34, 35, 36, 37, 38, 39, 40, 41, 42, 43, 44, 45, 46, 53, 54, 55, 56, 57, 58, 59, 60, 61, 62, 63, 64, 65, 66, 67, 68, 69, 70, 71, 72, 73, 74, 75, 76, 77, 78, 79, 80, 81, 82] (by decide +kernel) (by decide +kernel)
set_option maxRecDepth 20000 in
theorem gX2_takeAllOut_X2_takeOut : GoodIn wsX2_takeAllOut (wsV RX2 67 RX2 yX2_takeOut wsX2_takeOut) := goodIn_app (goodIn_of _ (by decide +kernel)) ggX2_takeAllOut_X2_takeOut
set_option maxRecDepth 20000 in
theorem ggX2_takeAllOut_X2_stops : GoodIn wsX2_takeAllOut wsX2_stops := goodIn_r _ [50, 51, 52, 62, 63, 64, 65] (by decide +kernel) (by decide +kernel)
set_option maxRecDepth 20000 in
theorem gX2_takeAllOut_X2_stops : GoodIn wsX2_takeAllOut (wsV RX2 71 RX2 yX2_stops wsX2_stops) := goodIn_app (goodIn_of _ (by decide +kernel)) ggX2_takeAllOut_X2_stops
theorem dX2_takeAllOut_0 : decode cX2_takeAllOut 0 = .ok (.iconst 0, 1) := by decide +kernel
theorem dX2_takeAllOut_1 : decode cX2_takeAllOut 1 = .ok (.istore_n 3, 1) := by decide +kernel
theorem dX2_takeAllOut_2 : decode cX2_takeAllOut 2 = .ok (.iload_n 3, 1) := by decide +kernel
theorem dX2_takeAllOut_3 : decode cX2_takeAllOut 3 = .ok (.aload_n 1, 1) := by decide +kernel
theorem dX2_takeAllOut_4 : decode cX2_takeAllOut 4 = .ok (.getfield 60, 3) := by decide +kernel
theorem dX2_takeAllOut_7 : decode cX2_takeAllOut 7 = .ok (.if_icmp .ge 48, 3) := by decide +kernel
theorem dX2_takeAllOut_10 : decode cX2_takeAllOut 10 = .ok (.aload_n 1, 1) := by decide +kernel
theorem dX2_takeAllOut_11 : decode cX2_takeAllOut 11 = .ok (.getfield 63, 3) := by decide +kernel
theorem dX2_takeAllOut_14 : decode cX2_takeAllOut 14 = .ok (.iload_n 3, 1) := by decide +kernel
theorem dX2_takeAllOut_15 : decode cX2_takeAllOut 15 = .ok (.caload, 1) := by decide +kernel
theorem dX2_takeAllOut_16 : decode cX2_takeAllOut 16 = .ok (.istore 4, 2) := by decide +kernel
theorem dX2_takeAllOut_18 : decode cX2_takeAllOut 18 = .ok (.iload 4, 2) := by decide +kernel
theorem dX2_takeAllOut_20 : decode cX2_takeAllOut 20 = .ok (.bipush 100, 2) := by decide +kernel
theorem dX2_takeAllOut_22 : decode cX2_takeAllOut 22 = .ok (.if_icmp .eq 10, 3) := by decide +kernel
theorem dX2_takeAllOut_25 : decode cX2_takeAllOut 25 = .ok (.iload 4, 2) := by decide +kernel
theorem dX2_takeAllOut_27 : decode cX2_takeAllOut 27 = .ok (.bipush 109, 2) := by decide +kernel
theorem dX2_takeAllOut_29 : decode cX2_takeAllOut 29 = .ok (.if_icmp .ne 20, 3) := by decide +kernel
theorem dX2_takeAllOut_32 : decode cX2_takeAllOut 32 = .ok (.aload_n 0, 1) := by decide +kernel
theorem dX2_takeAllOut_33 : decode cX2_takeAllOut 33 = .ok (.iload_n 3, 1) := by decide +kernel
theorem dX2_takeAllOut_34 : decode cX2_takeAllOut 34 = .ok (.aload_n 0, 1) := by decide +kernel
theorem dX2_takeAllOut_35 : decode cX2_takeAllOut 35 = .ok (.aload_n 1, 1) := by decide +kernel
theorem dX2_takeAllOut_36 : decode cX2_takeAllOut 36 = .ok (.iload_n 3, 1) := by decide +kernel
theorem dX2_takeAllOut_37 : decode cX2_takeAllOut 37 = .ok (.aload_n 2, 1) := by decide +kernel
theorem dX2_takeAllOut_38 : decode cX2_takeAllOut 38 = .ok (.invokevirtual 67, 3) := by decide +kernel
theorem dX2_takeAllOut_41 : decode cX2_takeAllOut 41 = .ok (.invokevirtual 71, 3) := by decide +kernel
theorem dX2_takeAllOut_44 : decode cX2_takeAllOut 44 = .ok (.ifCond .eq 5, 3) := by decide +kernel
theorem dX2_takeAllOut_47 : decode cX2_takeAllOut 47 = .ok (.iconst 0, 1) := by decide +kernel
theorem dX2_takeAllOut_48 : decode cX2_takeAllOut 48 = .ok (.ireturn, 1) := by decide +kernel
theorem dX2_takeAllOut_49 : decode cX2_takeAllOut 49 = .ok (.iinc 3 1, 3) := by decide +kernel
theorem dX2_takeAllOut_52 : decode cX2_takeAllOut 52 = .ok (.goto (-50), 3) := by decide +kernel
theorem dX2_takeAllOut_55 : decode cX2_takeAllOut 55 = .ok (.iconst 1, 1) := by decide +kernel
theorem dX2_takeAllOut_56 : decode cX2_takeAllOut 56 = .ok (.ireturn, 1) := by decide +kernel
set_option maxRecDepth 20000 in
theorem ggX2_changeAll_X2_change : GoodIn wsX2_changeAll wsX2_change := goodIn_r _ [7, 8, 9, 10, 11, 12, 2, 13, 14, 15, 16, 17, 18, 19, 20, 21, 22, 23, 24, 25, 26, 27, 28, 29, 6, 30, 31, 32, 33, 34, 41, 42, 43, 44, 45, 46, 47, 48, 49, 50, 51, 52, 53, 54, 55, 56, 57, 58, 59, 60, 61, 62, 63, 64, 65, 66, 67, 68, 69, 70] (by decide +kernel) (by decide +kernel)
set_option maxRecDepth 20000 in
theorem gX2_changeAll_X2_change : GoodIn wsX2_changeAll (wsV RX2 75 RX2 yX2_change wsX2_change) := goodIn_app (goodIn_of _ (by decide +kernel)) ggX2_changeAll_X2_change
set_option maxRecDepth 20000 in
theorem ggX2_changeAll_X2_stops : GoodIn wsX2_changeAll wsX2_stops := goodIn_r _ [38, 39, 40, 50, 51, 52, 53] (by decide +kernel) (by decide +kernel)
set_option maxRecDepth 20000 in
theorem gX2_changeAll_X2_stops : GoodIn wsX2_changeAll (wsV RX2 71 RX2 yX2_stops wsX2_stops) := goodIn_app (goodIn_of _ (by decide +kernel)) ggX2_changeAll_X2_stops
theorem dX2_changeAll_0 : decode cX2_changeAll 0 = .ok (.iconst 0, 1) := by decide +kernel
theorem dX2_changeAll_1 : decode cX2_changeAll 1 = .ok (.istore_n 2, 1) := by decide +kernel
theorem dX2_changeAll_2 : decode cX2_changeAll 2 = .ok (.iload_n 2, 1) := by decide +kernel
theorem dX2_changeAll_3 : decode cX2_changeAll 3 = .ok (.aload_n 1, 1) := by decide +kernel
theorem dX2_changeAll_4 : decode cX2_changeAll 4 = .ok (.getfield 60, 3) := by decide +kernel
theorem dX2_changeAll_7 : decode cX2_changeAll 7 = .ok (.if_icmp .ge 44, 3) := by decide +kernel
theorem dX2_changeAll_10 : decode cX2_changeAll 10 = .ok (.aload_n 1, 1) := by decide +kernel
theorem dX2_changeAll_11 : decode cX2_changeAll 11 = .ok (.getfield 63, 3) := by decide +kernel
theorem dX2_changeAll_14 : decode cX2_changeAll 14 = .ok (.iload_n 2, 1) := by decide +kernel
theorem dX2_changeAll_15 : decode cX2_changeAll 15 = .ok (.caload, 1) := by decide +kernel
theorem dX2_changeAll_16 : decode cX2_changeAll 16 = .ok (.istore_n 3, 1) := by decide +kernel
theorem dX2_changeAll_17 : decode cX2_changeAll 17 = .ok (.iload_n 3, 1) := by decide +kernel
theorem dX2_changeAll_18 : decode cX2_changeAll 18 = .ok (.bipush 108, 2) := by decide +kernel
theorem dX2_changeAll_20 : decode cX2_changeAll 20 = .ok (.if_icmp .eq 9, 3) := by decide +kernel
theorem dX2_changeAll_23 : decode cX2_changeAll 23 = .ok (.iload_n 3, 1) := by decide +kernel
theorem dX2_changeAll_24 : decode cX2_changeAll 24 = .ok (.bipush 118, 2) := by decide +kernel
theorem dX2_changeAll_26 : decode cX2_changeAll 26 = .ok (.if_icmp .ne 19, 3) := by decide +kernel
theorem dX2_changeAll_29 : decode cX2_changeAll 29 = .ok (.aload_n 0, 1) := by decide +kernel
theorem dX2_changeAll_30 : decode cX2_changeAll 30 = .ok (.iload_n 2, 1) := by decide +kernel
theorem dX2_changeAll_31 : decode cX2_changeAll 31 = .ok (.aload_n 0, 1) := by decide +kernel
theorem dX2_changeAll_32 : decode cX2_changeAll 32 = .ok (.aload_n 1, 1) := by decide +kernel
theorem dX2_changeAll_33 : decode cX2_changeAll 33 = .ok (.iload_n 2, 1) := by decide +kernel
theorem dX2_changeAll_34 : decode cX2_changeAll 34 = .ok (.invokevirtual 75, 3) := by decide +kernel
theorem dX2_changeAll_37 : decode cX2_changeAll 37 = .ok (.invokevirtual 71, 3) := by decide +kernel
theorem dX2_changeAll_40 : decode cX2_changeAll 40 = .ok (.ifCond .eq 5, 3) := by decide +kernel
theorem dX2_changeAll_43 : decode cX2_changeAll 43 = .ok (.iconst 0, 1) := by decide +kernel
theorem dX2_changeAll_44 : decode cX2_changeAll 44 = .ok (.ireturn, 1) := by decide +kernel
theorem dX2_changeAll_45 : decode cX2_changeAll 45 = .ok (.iinc 2 1, 3) := by decide +kernel
theorem dX2_changeAll_48 : decode cX2_changeAll 48 = .ok (.goto (-46), 3) := by decide +kernel
theorem dX2_changeAll_51 : decode cX2_changeAll 51 = .ok (.iconst 1, 1) := by decide +kernel
theorem dX2_changeAll_52 : decode cX2_changeAll 52 = .ok (.ireturn, 1) := by decide +kernel
set_option maxRecDepth 20000 in
theorem ggX2_putAllIn_X2_putIn : GoodIn wsX2_putAllIn wsX2_putIn := goodIn_r _ [7, 8, 9, 10, 11, 12, 2, 13, 14, 15, 16, 17, 18, 19, 20, 21, 6, 22, 23, 24, 25, 26, 27, 28, 29, 30, 31, 32, 33, 34, 35, 36, 37, 38, 39, 40, 41, 42, 43, 44, 45, 46, 47, 48, 49, 50, 51, 52, 53, 54, 55, 56, 57, 58, 59, 60, 61, 62, 63, 64, 65, 66, 67, 68, 69, 70, 71, 72, 73, 80, 81, 82, 83, 84, 85, 86, 87, 88, 89, 90, 91, 92, 93, 94, 95, 96, 97, 98, 99, 100, 101, 102, 103, 104, 105, 106, 107, 108, 109] (by decide +kernel) (by decide +kernel)
set_option maxRecDepth 20000 in
theorem gX2_putAllIn_X2_putIn : GoodIn wsX2_putAllIn (wsV RX2 79 RX2 yX2_putIn wsX2_putIn) := goodIn_app (goodIn_of _ (by decide +kernel)) ggX2_putAllIn_X2_putIn
set_option maxRecDepth 20000 in
theorem ggX2_putAllIn_X2_stops : GoodIn wsX2_putAllIn wsX2_stops := goodIn_r _ [77, 78, 79, 96, 97, 98, 99] (by decide +kernel) (by decide +kernel)
set_option maxRecDepth 20000 in
theorem gX2_putAllIn_X2_stops : GoodIn wsX2_putAllIn (wsV RX2 71 RX2 yX2_stops wsX2_stops) := goodIn_app (goodIn_of _ (by decide +kernel)) ggX2_putAllIn_X2_stops
theorem dX2_putAllIn_0 : decode cX2_putAllIn 0 = .ok (.iconst 0, 1) := by decide +kernel
theorem dX2_putAllIn_1 : decode cX2_putAllIn 1 = .ok (.istore_n 3, 1) := by decide +kernel
theorem dX2_putAllIn_2 : decode cX2_putAllIn 2 = .ok (.iload_n 3, 1) := by decide +kernel
theorem dX2_putAllIn_3 : decode cX2_putAllIn 3 = .ok (.aload_n 1, 1) := by decide +kernel
theorem dX2_putAllIn_4 : decode cX2_putAllIn 4 = .ok (.getfield 60, 3) := by decide +kernel
theorem dX2_putAllIn_7 : decode cX2_putAllIn 7 = .ok (.if_icmp .ge 48, 3) := by decide +kernel
theorem dX2_putAllIn_10 : decode cX2_putAllIn 10 = .ok (.aload_n 1, 1) := by decide +kernel
theorem dX2_putAllIn_11 : decode cX2_putAllIn 11 = .ok (.getfield 63, 3) := by decide +kernel
theorem dX2_putAllIn_14 : decode cX2_putAllIn 14 = .ok (.iload_n 3, 1) := by decide +kernel
theorem dX2_putAllIn_15 : decode cX2_putAllIn 15 = .ok (.caload, 1) := by decide +kernel
theorem dX2_putAllIn_16 : decode cX2_putAllIn 16 = .ok (.istore 4, 2) := by decide +kernel
theorem dX2_putAllIn_18 : decode cX2_putAllIn 18 = .ok (.iload 4, 2) := by decide +kernel
theorem dX2_putAllIn_20 : decode cX2_putAllIn 20 = .ok (.bipush 105, 2) := by decide +kernel
theorem dX2_putAllIn_22 : decode cX2_putAllIn 22 = .ok (.if_icmp .eq 10, 3) := by decide +kernel
theorem dX2_putAllIn_25 : decode cX2_putAllIn 25 = .ok (.iload 4, 2) := by decide +kernel
theorem dX2_putAllIn_27 : decode cX2_putAllIn 27 = .ok (.bipush 109, 2) := by decide +kernel
theorem dX2_putAllIn_29 : decode cX2_putAllIn 29 = .ok (.if_icmp .ne 20, 3) := by decide +kernel
theorem dX2_putAllIn_32 : decode cX2_putAllIn 32 = .ok (.aload_n 0, 1) := by decide +kernel
theorem dX2_putAllIn_33 : decode cX2_putAllIn 33 = .ok (.iload_n 3, 1) := by decide +kernel
theorem dX2_putAllIn_34 : decode cX2_putAllIn 34 = .ok (.aload_n 0, 1) := by decide +kernel
theorem dX2_putAllIn_35 : decode cX2_putAllIn 35 = .ok (.aload_n 1, 1) := by decide +kernel
theorem dX2_putAllIn_36 : decode cX2_putAllIn 36 = .ok (.iload_n 3, 1) := by decide +kernel
theorem dX2_putAllIn_37 : decode cX2_putAllIn 37 = .ok (.aload_n 2, 1) := by decide +kernel
theorem dX2_putAllIn_38 : decode cX2_putAllIn 38 = .ok (.invokevirtual 79, 3) := by decide +kernel
theorem dX2_putAllIn_41 : decode cX2_putAllIn 41 = .ok (.invokevirtual 71, 3) := by decide +kernel
theorem dX2_putAllIn_44 : decode cX2_putAllIn 44 = .ok (.ifCond .eq 5, 3) := by decide +kernel
theorem dX2_putAllIn_47 : decode cX2_putAllIn 47 = .ok (.iconst 0, 1) := by decide +kernel
theorem dX2_putAllIn_48 : decode cX2_putAllIn 48 = .ok (.ireturn, 1) := by decide +kernel
theorem dX2_putAllIn_49 : decode cX2_putAllIn 49 = .ok (.iinc 3 1, 3) := by decide +kernel
theorem dX2_putAllIn_52 : decode cX2_putAllIn 52 = .ok (.goto (-50), 3) := by decide +kernel
theorem dX2_putAllIn_55 : decode cX2_putAllIn 55 = .ok (.iconst 1, 1) := by decide +kernel
theorem dX2_putAllIn_56 : decode cX2_putAllIn 56 = .ok (.ireturn, 1) := by decide +kernel
theorem dX2_stops_0 : decode cX2_stops 0 = .ok (.iload_n 2, 1) := by decide +kernel
theorem dX2_stops_1 : decode cX2_stops 1 = .ok (.bipush 32, 2) := by decide +kernel
theorem dX2_stops_3 : decode cX2_stops 3 = .ok (.if_icmp .ne 5, 3) := by decide +kernel
theorem dX2_stops_6 : decode cX2_stops 6 = .ok (.iconst 0, 1) := by decide +kernel
theorem dX2_stops_7 : decode cX2_stops 7 = .ok (.ireturn, 1) := by decide +kernel
theorem dX2_stops_8 : decode cX2_stops 8 = .ok (.aload_n 0, 1) := by decide +kernel
theorem dX2_stops_9 : decode cX2_stops 9 = .ok (.iload_n 1, 1) := by decide +kernel
theorem dX2_stops_10 : decode cX2_stops 10 = .ok (.putfield 25, 3) := by decide +kernel
theorem dX2_stops_13 : decode cX2_stops 13 = .ok (.aload_n 0, 1) := by decide +kernel
theorem dX2_stops_14 : decode cX2_stops 14 = .ok (.iload_n 2, 1) := by decide +kernel
theorem dX2_stops_15 : decode cX2_stops 15 = .ok (.putfield 29, 3) := by decide +kernel
theorem dX2_stops_18 : decode cX2_stops 18 = .ok (.iconst 1, 1) := by decide +kernel
theorem dX2_stops_19 : decode cX2_stops 19 = .ok (.ireturn, 1) := by decide +kernel
set_option maxRecDepth 20000 in
theorem ggX2_takeOut_X7_entry : GoodIn wsX2_takeOut wsX7_entry := goodIn_r _ [9] (by decide +kernel) (by decide +kernel)
set_option maxRecDepth 20000 in
theorem gX2_takeOut_X7_entry_n89 : GoodIn wsX2_takeOut (wsX7_entry) := ggX2_takeOut_X7_entry
set_option maxRecDepth 20000 in
theorem ggX2_takeOut_X5_equalsAt : GoodIn wsX2_takeOut wsX5_equalsAt := goodIn_r _ [14, 15, 16, 17, 18, 19, 20, 13, 21, 22, 23, 24, 25, 26, 27, 64, 65, 66, 67, 68, 69, 70] (by decide +kernel) (by decide +kernel)
set_option maxRecDepth 20000 in
theorem gX2_takeOut_X5_equalsAt : GoodIn wsX2_takeOut (wsV RX2 93 RX5 yX5_equalsAt wsX5_equalsAt) := goodIn_app (goodIn_of _ (by decide +kernel)) ggX2_takeOut_X5_equalsAt
set_option maxRecDepth 20000 in
theorem ggX2_takeOut_X5_findMark : GoodIn wsX2_takeOut wsX5_findMark := goodIn_r _ [31, 27, 32, 64, 65, 66, 67, 68, 69, 70] (by decide +kernel) (by decide +kernel)
set_option maxRecDepth 20000 in
theorem gX2_takeOut_X5_findMark : GoodIn wsX2_takeOut (wsV RX2 97 RX5 yX5_findMark wsX5_findMark) := goodIn_app (goodIn_of _ (by decide +kernel)) ggX2_takeOut_X5_findMark
set_option maxRecDepth 20000 in
theorem ggX2_takeOut_X5_cutOut : GoodIn wsX2_takeOut wsX5_cutOut := goodIn_r _ [36, 27, 23, 24, 25, 13, 26, 22, 37, 38, 39, 40, 15, 16, 17, 32, 64, 65, 66, 67, 68, 69, 70] (by decide +kernel) (by decide +kernel)
set_option maxRecDepth 20000 in
theorem gX2_takeOut_X5_cutOut : GoodIn wsX2_takeOut (wsV RX2 101 RX5 yX5_cutOut wsX5_cutOut) := goodIn_app (goodIn_of _ (by decide +kernel)) ggX2_takeOut_X5_cutOut
theorem dX2_takeOut_0 : decode cX2_takeOut 0 = .ok (.aload_n 1, 1) := by decide +kernel
theorem dX2_takeOut_1 : decode cX2_takeOut 1 = .ok (.getfield 63, 3) := by decide +kernel
theorem dX2_takeOut_4 : decode cX2_takeOut 4 = .ok (.iload_n 2, 1) := by decide +kernel
theorem dX2_takeOut_5 : decode cX2_takeOut 5 = .ok (.caload, 1) := by decide +kernel
theorem dX2_takeOut_6 : decode cX2_takeOut 6 = .ok (.bipush 100, 2) := by decide +kernel
theorem dX2_takeOut_8 : decode cX2_takeOut 8 = .ok (.if_icmp .ne 7, 3) := by decide +kernel
theorem dX2_takeOut_11 : decode cX2_takeOut 11 = .ok (.iconst 1, 1) := by decide +kernel
theorem dX2_takeOut_12 : decode cX2_takeOut 12 = .ok (.goto 4, 3) := by decide +kernel
theorem dX2_takeOut_15 : decode cX2_takeOut 15 = .ok (.iconst 0, 1) := by decide +kernel
theorem dX2_takeOut_16 : decode cX2_takeOut 16 = .ok (.istore 4, 2) := by decide +kernel
theorem dX2_takeOut_18 : decode cX2_takeOut 18 = .ok (.aload_n 1, 1) := by decide +kernel
theorem dX2_takeOut_19 : decode cX2_takeOut 19 = .ok (.getfield 82, 3) := by decide +kernel
theorem dX2_takeOut_22 : decode cX2_takeOut 22 = .ok (.iload_n 2, 1) := by decide +kernel
theorem dX2_takeOut_23 : decode cX2_takeOut 23 = .ok (.iaload, 1) := by decide +kernel
theorem dX2_takeOut_24 : decode cX2_takeOut 24 = .ok (.istore 5, 2) := by decide +kernel
theorem dX2_takeOut_26 : decode cX2_takeOut 26 = .ok (.aload_n 0, 1) := by decide +kernel
theorem dX2_takeOut_27 : decode cX2_takeOut 27 = .ok (.getfield 12, 3) := by decide +kernel
theorem dX2_takeOut_30 : decode cX2_takeOut 30 = .ok (.getfield 86, 3) := by decide +kernel
theorem dX2_takeOut_33 : decode cX2_takeOut 33 = .ok (.iload 5, 2) := by decide +kernel
theorem dX2_takeOut_35 : decode cX2_takeOut 35 = .ok (.invokestatic 89, 3) := by decide +kernel
theorem dX2_takeOut_38 : decode cX2_takeOut 38 = .ok (.istore 6, 2) := by decide +kernel
theorem dX2_takeOut_40 : decode cX2_takeOut 40 = .ok (.iload 6, 2) := by decide +kernel
theorem dX2_takeOut_42 : decode cX2_takeOut 42 = .ok (.iconst (-1), 1) := by decide +kernel
theorem dX2_takeOut_43 : decode cX2_takeOut 43 = .ok (.if_icmp .ne 16, 3) := by decide +kernel
theorem dX2_takeOut_46 : decode cX2_takeOut 46 = .ok (.iload 4, 2) := by decide +kernel
theorem dX2_takeOut_48 : decode cX2_takeOut 48 = .ok (.ifCond .eq 8, 3) := by decide +kernel
theorem dX2_takeOut_51 : decode cX2_takeOut 51 = .ok (.bipush 32, 2) := by decide +kernel
theorem dX2_takeOut_53 : decode cX2_takeOut 53 = .ok (.goto 5, 3) := by decide +kernel
theorem dX2_takeOut_56 : decode cX2_takeOut 56 = .ok (.bipush 103, 2) := by decide +kernel
theorem dX2_takeOut_58 : decode cX2_takeOut 58 = .ok (.ireturn, 1) := by decide +kernel
theorem dX2_takeOut_59 : decode cX2_takeOut 59 = .ok (.iload 4, 2) := by decide +kernel
theorem dX2_takeOut_61 : decode cX2_takeOut 61 = .ok (.ifCond .eq 21, 3) := by decide +kernel
theorem dX2_takeOut_64 : decode cX2_takeOut 64 = .ok (.aload_n 1, 1) := by decide +kernel
theorem dX2_takeOut_65 : decode cX2_takeOut 65 = .ok (.getfield 33, 3) := by decide +kernel
theorem dX2_takeOut_68 : decode cX2_takeOut 68 = .ok (.iload 5, 2) := by decide +kernel
theorem dX2_takeOut_70 : decode cX2_takeOut 70 = .ok (.aload_n 3, 1) := by decide +kernel
theorem dX2_takeOut_71 : decode cX2_takeOut 71 = .ok (.iload 6, 2) := by decide +kernel
theorem dX2_takeOut_73 : decode cX2_takeOut 73 = .ok (.invokevirtual 93, 3) := by decide +kernel
theorem dX2_takeOut_76 : decode cX2_takeOut 76 = .ok (.ifCond .ne 6, 3) := by decide +kernel
theorem dX2_takeOut_79 : decode cX2_takeOut 79 = .ok (.bipush 99, 2) := by decide +kernel
theorem dX2_takeOut_81 : decode cX2_takeOut 81 = .ok (.ireturn, 1) := by decide +kernel
theorem dX2_takeOut_82 : decode cX2_takeOut 82 = .ok (.aload_n 0, 1) := by decide +kernel
theorem dX2_takeOut_83 : decode cX2_takeOut 83 = .ok (.getfield 21, 3) := by decide +kernel
theorem dX2_takeOut_86 : decode cX2_takeOut 86 = .ok (.aload_n 0, 1) := by decide +kernel
theorem dX2_takeOut_87 : decode cX2_takeOut 87 = .ok (.getfield 21, 3) := by decide +kernel
theorem dX2_takeOut_90 : decode cX2_takeOut 90 = .ok (.iload 6, 2) := by decide +kernel
theorem dX2_takeOut_92 : decode cX2_takeOut 92 = .ok (.invokevirtual 97, 3) := by decide +kernel
theorem dX2_takeOut_95 : decode cX2_takeOut 95 = .ok (.invokevirtual 101, 3) := by decide +kernel
theorem dX2_takeOut_98 : decode cX2_takeOut 98 = .ok (.bipush 32, 2) := by decide +kernel
theorem dX2_takeOut_100 : decode cX2_takeOut 100 = .ok (.ireturn, 1) := by decide +kernel
set_option maxRecDepth 20000 in
theorem ggX2_change_X7_entry : GoodIn wsX2_change wsX7_entry := goodIn_r _ [13] (by decide +kernel) (by decide +kernel)
set_option maxRecDepth 20000 in
theorem gX2_change_X7_entry_n89 : GoodIn wsX2_change (wsX7_entry) := ggX2_change_X7_entry
set_option maxRecDepth 20000 in
theorem ggX2_change_X5_findMark : GoodIn wsX2_change wsX5_findMark := goodIn_r _ [18, 19, 20, 53, 54, 55, 56, 57, 58, 59] (by decide +kernel) (by decide +kernel)
set_option maxRecDepth 20000 in
theorem gX2_change_X5_findMark : GoodIn wsX2_change (wsV RX2 97 RX5 yX5_findMark wsX5_findMark) := goodIn_app (goodIn_of _ (by decide +kernel)) ggX2_change_X5_findMark
set_option maxRecDepth 20000 in
theorem ggX2_change_X2_changeLabel : GoodIn wsX2_change wsX2_changeLabel := goodIn_r _ [25, 3, 8, 39, 40, 41, 42, 53, 54, 55, 56, 57, 58, 59] (by decide +kernel) (by decide +kernel)
set_option maxRecDepth 20000 in
theorem gX2_change_X2_changeLabel : GoodIn wsX2_change (wsV RX2 114 RX2 yX2_changeLabel wsX2_changeLabel) := goodIn_app (goodIn_of _ (by decide +kernel)) ggX2_change_X2_changeLabel
set_option maxRecDepth 20000 in
theorem ggX2_change_X2_changeValue : GoodIn wsX2_change wsX2_changeValue := goodIn_r _ [29, 3, 10, 39, 40, 41, 42, 53, 54, 55, 56, 57, 58, 59] (by decide +kernel) (by decide +kernel)
set_option maxRecDepth 20000 in
theorem gX2_change_X2_changeValue : GoodIn wsX2_change (wsV RX2 121 RX2 yX2_changeValue wsX2_changeValue) := goodIn_app (goodIn_of _ (by decide +kernel)) ggX2_change_X2_changeValue
theorem dX2_change_0 : decode cX2_change 0 = .ok (.aload_n 1, 1) := by decide +kernel
theorem dX2_change_1 : decode cX2_change 1 = .ok (.getfield 82, 3) := by decide +kernel
theorem dX2_change_4 : decode cX2_change 4 = .ok (.iload_n 2, 1) := by decide +kernel
theorem dX2_change_5 : decode cX2_change 5 = .ok (.iaload, 1) := by decide +kernel
theorem dX2_change_6 : decode cX2_change 6 = .ok (.istore_n 3, 1) := by decide +kernel
theorem dX2_change_7 : decode cX2_change 7 = .ok (.aload_n 1, 1) := by decide +kernel
theorem dX2_change_8 : decode cX2_change 8 = .ok (.getfield 105, 3) := by decide +kernel
theorem dX2_change_11 : decode cX2_change 11 = .ok (.iload_n 2, 1) := by decide +kernel
theorem dX2_change_12 : decode cX2_change 12 = .ok (.iaload, 1) := by decide +kernel
theorem dX2_change_13 : decode cX2_change 13 = .ok (.istore 4, 2) := by decide +kernel
theorem dX2_change_15 : decode cX2_change 15 = .ok (.aload_n 0, 1) := by decide +kernel
theorem dX2_change_16 : decode cX2_change 16 = .ok (.getfield 21, 3) := by decide +kernel
theorem dX2_change_19 : decode cX2_change 19 = .ok (.aload_n 0, 1) := by decide +kernel
theorem dX2_change_20 : decode cX2_change 20 = .ok (.getfield 12, 3) := by decide +kernel
theorem dX2_change_23 : decode cX2_change 23 = .ok (.getfield 86, 3) := by decide +kernel
theorem dX2_change_26 : decode cX2_change 26 = .ok (.iload_n 3, 1) := by decide +kernel
theorem dX2_change_27 : decode cX2_change 27 = .ok (.invokestatic 89, 3) := by decide +kernel
theorem dX2_change_30 : decode cX2_change 30 = .ok (.invokevirtual 97, 3) := by decide +kernel
theorem dX2_change_33 : decode cX2_change 33 = .ok (.istore 5, 2) := by decide +kernel
theorem dX2_change_35 : decode cX2_change 35 = .ok (.iload 5, 2) := by decide +kernel
theorem dX2_change_37 : decode cX2_change 37 = .ok (.iconst (-1), 1) := by decide +kernel
theorem dX2_change_38 : decode cX2_change 38 = .ok (.if_icmp .ne 6, 3) := by decide +kernel
theorem dX2_change_41 : decode cX2_change 41 = .ok (.bipush 103, 2) := by decide +kernel
theorem dX2_change_43 : decode cX2_change 43 = .ok (.ireturn, 1) := by decide +kernel
theorem dX2_change_44 : decode cX2_change 44 = .ok (.aload_n 1, 1) := by decide +kernel
theorem dX2_change_45 : decode cX2_change 45 = .ok (.getfield 63, 3) := by decide +kernel
theorem dX2_change_48 : decode cX2_change 48 = .ok (.iload_n 2, 1) := by decide +kernel
theorem dX2_change_49 : decode cX2_change 49 = .ok (.caload, 1) := by decide +kernel
theorem dX2_change_50 : decode cX2_change 50 = .ok (.bipush 108, 2) := by decide +kernel
theorem dX2_change_52 : decode cX2_change 52 = .ok (.if_icmp .ne 31, 3) := by decide +kernel
theorem dX2_change_55 : decode cX2_change 55 = .ok (.aload_n 0, 1) := by decide +kernel
theorem dX2_change_56 : decode cX2_change 56 = .ok (.iload 5, 2) := by decide +kernel
theorem dX2_change_58 : decode cX2_change 58 = .ok (.aload_n 1, 1) := by decide +kernel
theorem dX2_change_59 : decode cX2_change 59 = .ok (.getfield 33, 3) := by decide +kernel
theorem dX2_change_62 : decode cX2_change 62 = .ok (.getfield 108, 3) := by decide +kernel
theorem dX2_change_65 : decode cX2_change 65 = .ok (.iload_n 3, 1) := by decide +kernel
theorem dX2_change_66 : decode cX2_change 66 = .ok (.caload, 1) := by decide +kernel
theorem dX2_change_67 : decode cX2_change 67 = .ok (.aload_n 1, 1) := by decide +kernel
theorem dX2_change_68 : decode cX2_change 68 = .ok (.getfield 111, 3) := by decide +kernel
theorem dX2_change_71 : decode cX2_change 71 = .ok (.getfield 108, 3) := by decide +kernel
theorem dX2_change_74 : decode cX2_change 74 = .ok (.iload 4, 2) := by decide +kernel
theorem dX2_change_76 : decode cX2_change 76 = .ok (.caload, 1) := by decide +kernel
theorem dX2_change_77 : decode cX2_change 77 = .ok (.invokevirtual 114, 3) := by decide +kernel
theorem dX2_change_80 : decode cX2_change 80 = .ok (.goto 28, 3) := by decide +kernel
theorem dX2_change_83 : decode cX2_change 83 = .ok (.aload_n 0, 1) := by decide +kernel
theorem dX2_change_84 : decode cX2_change 84 = .ok (.iload 5, 2) := by decide +kernel
theorem dX2_change_86 : decode cX2_change 86 = .ok (.aload_n 1, 1) := by decide +kernel
theorem dX2_change_87 : decode cX2_change 87 = .ok (.getfield 33, 3) := by decide +kernel
theorem dX2_change_90 : decode cX2_change 90 = .ok (.getfield 118, 3) := by decide +kernel
theorem dX2_change_93 : decode cX2_change 93 = .ok (.iload_n 3, 1) := by decide +kernel
theorem dX2_change_94 : decode cX2_change 94 = .ok (.iaload, 1) := by decide +kernel
theorem dX2_change_95 : decode cX2_change 95 = .ok (.aload_n 1, 1) := by decide +kernel
theorem dX2_change_96 : decode cX2_change 96 = .ok (.getfield 111, 3) := by decide +kernel
theorem dX2_change_99 : decode cX2_change 99 = .ok (.getfield 118, 3) := by decide +kernel
theorem dX2_change_102 : decode cX2_change 102 = .ok (.iload 4, 2) := by decide +kernel
theorem dX2_change_104 : decode cX2_change 104 = .ok (.iaload, 1) := by decide +kernel
theorem dX2_change_105 : decode cX2_change 105 = .ok (.invokevirtual 121, 3) := by decide +kernel
theorem dX2_change_108 : decode cX2_change 108 = .ok (.ireturn, 1) := by decide +kernel
theorem dX2_changeLabel_0 : decode cX2_changeLabel 0 = .ok (.aload_n 0, 1) := by decide +kernel
theorem dX2_changeLabel_1 : decode cX2_changeLabel 1 = .ok (.getfield 21, 3) := by decide +kernel
theorem dX2_changeLabel_4 : decode cX2_changeLabel 4 = .ok (.getfield 108, 3) := by decide +kernel
theorem dX2_changeLabel_7 : decode cX2_changeLabel 7 = .ok (.iload_n 1, 1) := by decide +kernel
theorem dX2_changeLabel_8 : decode cX2_changeLabel 8 = .ok (.caload, 1) := by decide +kernel
theorem dX2_changeLabel_9 : decode cX2_changeLabel 9 = .ok (.iload_n 2, 1) := by decide +kernel
theorem dX2_changeLabel_10 : decode cX2_changeLabel 10 = .ok (.if_icmp .eq 19, 3) := by decide +kernel
theorem dX2_changeLabel_13 : decode cX2_changeLabel 13 = .ok (.aload_n 0, 1) := by decide +kernel
theorem dX2_changeLabel_14 : decode cX2_changeLabel 14 = .ok (.getfield 21, 3) := by decide +kernel
theorem dX2_changeLabel_17 : decode cX2_changeLabel 17 = .ok (.getfield 108, 3) := by decide +kernel
theorem dX2_changeLabel_20 : decode cX2_changeLabel 20 = .ok (.iload_n 1, 1) := by decide +kernel
theorem dX2_changeLabel_21 : decode cX2_changeLabel 21 = .ok (.caload, 1) := by decide +kernel
theorem dX2_changeLabel_22 : decode cX2_changeLabel 22 = .ok (.iload_n 3, 1) := by decide +kernel
theorem dX2_changeLabel_23 : decode cX2_changeLabel 23 = .ok (.if_icmp .eq 6, 3) := by decide +kernel
theorem dX2_changeLabel_26 : decode cX2_changeLabel 26 = .ok (.bipush 99, 2) := by decide +kernel
theorem dX2_changeLabel_28 : decode cX2_changeLabel 28 = .ok (.ireturn, 1) := by decide +kernel
theorem dX2_changeLabel_29 : decode cX2_changeLabel 29 = .ok (.aload_n 0, 1) := by decide +kernel
theorem dX2_changeLabel_30 : decode cX2_changeLabel 30 = .ok (.getfield 21, 3) := by decide +kernel
theorem dX2_changeLabel_33 : decode cX2_changeLabel 33 = .ok (.getfield 108, 3) := by decide +kernel
theorem dX2_changeLabel_36 : decode cX2_changeLabel 36 = .ok (.iload_n 1, 1) := by decide +kernel
theorem dX2_changeLabel_37 : decode cX2_changeLabel 37 = .ok (.iload_n 3, 1) := by decide +kernel
theorem dX2_changeLabel_38 : decode cX2_changeLabel 38 = .ok (.castore, 1) := by decide +kernel
theorem dX2_changeLabel_39 : decode cX2_changeLabel 39 = .ok (.bipush 32, 2) := by decide +kernel
theorem dX2_changeLabel_41 : decode cX2_changeLabel 41 = .ok (.ireturn, 1) := by decide +kernel
theorem dX2_changeValue_0 : decode cX2_changeValue 0 = .ok (.aload_n 0, 1) := by decide +kernel
theorem dX2_changeValue_1 : decode cX2_changeValue 1 = .ok (.getfield 21, 3) := by decide +kernel
theorem dX2_changeValue_4 : decode cX2_changeValue 4 = .ok (.getfield 118, 3) := by decide +kernel
theorem dX2_changeValue_7 : decode cX2_changeValue 7 = .ok (.iload_n 1, 1) := by decide +kernel
theorem dX2_changeValue_8 : decode cX2_changeValue 8 = .ok (.iaload, 1) := by decide +kernel
theorem dX2_changeValue_9 : decode cX2_changeValue 9 = .ok (.iload_n 2, 1) := by decide +kernel
theorem dX2_changeValue_10 : decode cX2_changeValue 10 = .ok (.if_icmp .eq 19, 3) := by decide +kernel
theorem dX2_changeValue_13 : decode cX2_changeValue 13 = .ok (.aload_n 0, 1) := by decide +kernel
theorem dX2_changeValue_14 : decode cX2_changeValue 14 = .ok (.getfield 21, 3) := by decide +kernel
theorem dX2_changeValue_17 : decode cX2_changeValue 17 = .ok (.getfield 118, 3) := by decide +kernel
theorem dX2_changeValue_20 : decode cX2_changeValue 20 = .ok (.iload_n 1, 1) := by decide +kernel
theorem dX2_changeValue_21 : decode cX2_changeValue 21 = .ok (.iaload, 1) := by decide +kernel
theorem dX2_changeValue_22 : decode cX2_changeValue 22 = .ok (.iload_n 3, 1) := by decide +kernel
theorem dX2_changeValue_23 : decode cX2_changeValue 23 = .ok (.if_icmp .eq 6, 3) := by decide +kernel
theorem dX2_changeValue_26 : decode cX2_changeValue 26 = .ok (.bipush 99, 2) := by decide +kernel
theorem dX2_changeValue_28 : decode cX2_changeValue 28 = .ok (.ireturn, 1) := by decide +kernel
theorem dX2_changeValue_29 : decode cX2_changeValue 29 = .ok (.aload_n 0, 1) := by decide +kernel
theorem dX2_changeValue_30 : decode cX2_changeValue 30 = .ok (.getfield 21, 3) := by decide +kernel
theorem dX2_changeValue_33 : decode cX2_changeValue 33 = .ok (.getfield 118, 3) := by decide +kernel
theorem dX2_changeValue_36 : decode cX2_changeValue 36 = .ok (.iload_n 1, 1) := by decide +kernel
theorem dX2_changeValue_37 : decode cX2_changeValue 37 = .ok (.iload_n 3, 1) := by decide +kernel
theorem dX2_changeValue_38 : decode cX2_changeValue 38 = .ok (.iastore, 1) := by decide +kernel
theorem dX2_changeValue_39 : decode cX2_changeValue 39 = .ok (.bipush 32, 2) := by decide +kernel
theorem dX2_changeValue_41 : decode cX2_changeValue 41 = .ok (.ireturn, 1) := by decide +kernel
set_option maxRecDepth 20000 in
theorem ggX2_putIn_X7_entry : GoodIn wsX2_putIn wsX7_entry := goodIn_r _ [12] (by decide +kernel) (by decide +kernel)
set_option maxRecDepth 20000 in
theorem gX2_putIn_X7_entry_n89 : GoodIn wsX2_putIn (wsX7_entry) := ggX2_putIn_X7_entry
set_option maxRecDepth 20000 in
theorem ggX2_putIn_X2_imageOf : GoodIn wsX2_putIn wsX2_imageOf := goodIn_r _ [17, 7, 8, 18, 10, 11, 12, 85, 86, 87, 88, 89, 90, 91, 92, 93, 94, 95, 96, 97, 98, 69, 70, 71, 72, 73, 74, 75, 76, 77] (by decide +kernel) (by decide +kernel)
set_option maxRecDepth 20000 in
theorem gX2_putIn_X2_imageOf : GoodIn wsX2_putIn (wsV RX2 128 RX2 yX2_imageOf wsX2_imageOf) := goodIn_app (goodIn_of _ (by decide +kernel)) ggX2_putIn_X2_imageOf
set_option maxRecDepth 20000 in
theorem ggX2_putIn_X5_findMark : GoodIn wsX2_putIn wsX5_findMark := goodIn_r _ [23, 24, 25, 78, 79, 80, 81, 82, 83, 84] (by decide +kernel) (by decide +kernel)
set_option maxRecDepth 20000 in
theorem gX2_putIn_X5_findMark : GoodIn wsX2_putIn (wsV RX2 97 RX5 yX5_findMark wsX5_findMark) := goodIn_app (goodIn_of _ (by decide +kernel)) ggX2_putIn_X5_findMark
set_option maxRecDepth 20000 in
theorem ggX2_putIn_X5_hasKey : GoodIn wsX2_putIn wsX5_hasKey := goodIn_r _ [29, 24, 30, 31, 78, 79, 80, 81, 82, 83, 84] (by decide +kernel) (by decide +kernel)
set_option maxRecDepth 20000 in
theorem gX2_putIn_X5_hasKey : GoodIn wsX2_putIn (wsV RX2 135 RX5 yX5_hasKey wsX5_hasKey) := goodIn_app (goodIn_of _ (by decide +kernel)) ggX2_putIn_X5_hasKey
set_option maxRecDepth 20000 in
theorem ggX2_putIn_X2_placeInside : GoodIn wsX2_putIn wsX2_placeInside := goodIn_r _ [35, 2, 3, 18, 4, 13, 14, 15, 16, 17, 7, 8, 10, 11, 12, 36, 37, 38, 19, 20, 21, 22, 23, 24, 25, 39, 40, 41, 42, 43, 44, 45, 46, 30, 69, 70, 71, 72, 73, 74, 75, 76, 77, 78, 79, 80, 81, 82, 83, 84, 85, 86, 87, 88, 89, 90, 91, 92, 93, 94, 95, 96, 97, 98] (by decide +kernel) (by decide +kernel)
set_option maxRecDepth 20000 in
theorem gX2_putIn_X2_placeInside : GoodIn wsX2_putIn (wsV RX2 139 RX2 yX2_placeInside wsX2_placeInside) := goodIn_app (goodIn_of _ (by decide +kernel)) ggX2_putIn_X2_placeInside
set_option maxRecDepth 20000 in
theorem ggX2_putIn_X2_topMark : GoodIn wsX2_putIn wsX2_topMark := goodIn_r _ [38] (by decide +kernel) (by decide +kernel)
set_option maxRecDepth 20000 in
theorem gX2_putIn_X2_topMark : GoodIn wsX2_putIn (va_wsS RX2 143 yX2_topMark wsX2_topMark) := goodIn_app (goodIn_of _ (by decide +kernel)) ggX2_putIn_X2_topMark
set_option maxRecDepth 20000 in
theorem ggX2_putIn_X5_graft : GoodIn wsX2_putIn wsX5_graft := goodIn_r _ [50, 30, 51, 31, 52, 25, 53, 54, 55, 22, 56, 24, 43, 44, 45, 46, 57, 58, 59, 60, 61, 62, 63, 64, 65, 66, 67, 68, 78, 79, 80, 81, 82, 83, 84] (by decide +kernel) (by decide +kernel)
set_option maxRecDepth 20000 in
theorem gX2_putIn_X5_graft : GoodIn wsX2_putIn (wsV RX2 146 RX5 yX5_graft wsX5_graft) := goodIn_app (goodIn_of _ (by decide +kernel)) ggX2_putIn_X5_graft
theorem dX2_putIn_0 : decode cX2_putIn 0 = .ok (.aload_n 1, 1) := by decide +kernel
theorem dX2_putIn_1 : decode cX2_putIn 1 = .ok (.getfield 105, 3) := by decide +kernel
theorem dX2_putIn_4 : decode cX2_putIn 4 = .ok (.iload_n 2, 1) := by decide +kernel
theorem dX2_putIn_5 : decode cX2_putIn 5 = .ok (.iaload, 1) := by decide +kernel
theorem dX2_putIn_6 : decode cX2_putIn 6 = .ok (.istore 4, 2) := by decide +kernel
theorem dX2_putIn_8 : decode cX2_putIn 8 = .ok (.aload_n 1, 1) := by decide +kernel
theorem dX2_putIn_9 : decode cX2_putIn 9 = .ok (.getfield 111, 3) := by decide +kernel
theorem dX2_putIn_12 : decode cX2_putIn 12 = .ok (.getfield 125, 3) := by decide +kernel
theorem dX2_putIn_15 : decode cX2_putIn 15 = .ok (.iload 4, 2) := by decide +kernel
theorem dX2_putIn_17 : decode cX2_putIn 17 = .ok (.invokestatic 89, 3) := by decide +kernel
theorem dX2_putIn_20 : decode cX2_putIn 20 = .ok (.istore 5, 2) := by decide +kernel
theorem dX2_putIn_22 : decode cX2_putIn 22 = .ok (.aload_n 0, 1) := by decide +kernel
theorem dX2_putIn_23 : decode cX2_putIn 23 = .ok (.getfield 21, 3) := by decide +kernel
theorem dX2_putIn_26 : decode cX2_putIn 26 = .ok (.aload_n 0, 1) := by decide +kernel
theorem dX2_putIn_27 : decode cX2_putIn 27 = .ok (.aload_n 1, 1) := by decide +kernel
theorem dX2_putIn_28 : decode cX2_putIn 28 = .ok (.iload 5, 2) := by decide +kernel
theorem dX2_putIn_30 : decode cX2_putIn 30 = .ok (.invokevirtual 128, 3) := by decide +kernel
theorem dX2_putIn_33 : decode cX2_putIn 33 = .ok (.invokevirtual 97, 3) := by decide +kernel
theorem dX2_putIn_36 : decode cX2_putIn 36 = .ok (.istore 6, 2) := by decide +kernel
theorem dX2_putIn_38 : decode cX2_putIn 38 = .ok (.iload 6, 2) := by decide +kernel
theorem dX2_putIn_40 : decode cX2_putIn 40 = .ok (.iconst (-1), 1) := by decide +kernel
theorem dX2_putIn_41 : decode cX2_putIn 41 = .ok (.if_icmp .ne 6, 3) := by decide +kernel
theorem dX2_putIn_44 : decode cX2_putIn 44 = .ok (.bipush 103, 2) := by decide +kernel
theorem dX2_putIn_46 : decode cX2_putIn 46 = .ok (.ireturn, 1) := by decide +kernel
theorem dX2_putIn_47 : decode cX2_putIn 47 = .ok (.aload_n 0, 1) := by decide +kernel
theorem dX2_putIn_48 : decode cX2_putIn 48 = .ok (.getfield 21, 3) := by decide +kernel
theorem dX2_putIn_51 : decode cX2_putIn 51 = .ok (.iload 6, 2) := by decide +kernel
theorem dX2_putIn_53 : decode cX2_putIn 53 = .ok (.aload_n 1, 1) := by decide +kernel
theorem dX2_putIn_54 : decode cX2_putIn 54 = .ok (.getfield 111, 3) := by decide +kernel
theorem dX2_putIn_57 : decode cX2_putIn 57 = .ok (.getfield 132, 3) := by decide +kernel
theorem dX2_putIn_60 : decode cX2_putIn 60 = .ok (.iload 4, 2) := by decide +kernel
theorem dX2_putIn_62 : decode cX2_putIn 62 = .ok (.iaload, 1) := by decide +kernel
theorem dX2_putIn_63 : decode cX2_putIn 63 = .ok (.iconst (-1), 1) := by decide +kernel
theorem dX2_putIn_64 : decode cX2_putIn 64 = .ok (.invokevirtual 135, 3) := by decide +kernel
theorem dX2_putIn_67 : decode cX2_putIn 67 = .ok (.ifCond .eq 6, 3) := by decide +kernel
theorem dX2_putIn_70 : decode cX2_putIn 70 = .ok (.bipush 107, 2) := by decide +kernel
theorem dX2_putIn_72 : decode cX2_putIn 72 = .ok (.ireturn, 1) := by decide +kernel
theorem dX2_putIn_73 : decode cX2_putIn 73 = .ok (.aload_n 0, 1) := by decide +kernel
theorem dX2_putIn_74 : decode cX2_putIn 74 = .ok (.aload_n 1, 1) := by decide +kernel
theorem dX2_putIn_75 : decode cX2_putIn 75 = .ok (.iload 5, 2) := by decide +kernel
theorem dX2_putIn_77 : decode cX2_putIn 77 = .ok (.iload 4, 2) := by decide +kernel
theorem dX2_putIn_79 : decode cX2_putIn 79 = .ok (.iload 6, 2) := by decide +kernel
theorem dX2_putIn_81 : decode cX2_putIn 81 = .ok (.invokevirtual 139, 3) := by decide +kernel
theorem dX2_putIn_84 : decode cX2_putIn 84 = .ok (.istore 7, 2) := by decide +kernel
theorem dX2_putIn_86 : decode cX2_putIn 86 = .ok (.aload_n 1, 1) := by decide +kernel
theorem dX2_putIn_87 : decode cX2_putIn 87 = .ok (.getfield 63, 3) := by decide +kernel
theorem dX2_putIn_90 : decode cX2_putIn 90 = .ok (.iload_n 2, 1) := by decide +kernel
theorem dX2_putIn_91 : decode cX2_putIn 91 = .ok (.caload, 1) := by decide +kernel
theorem dX2_putIn_92 : decode cX2_putIn 92 = .ok (.bipush 109, 2) := by decide +kernel
theorem dX2_putIn_94 : decode cX2_putIn 94 = .ok (.if_icmp .ne 7, 3) := by decide +kernel
theorem dX2_putIn_97 : decode cX2_putIn 97 = .ok (.iconst 1, 1) := by decide +kernel
theorem dX2_putIn_98 : decode cX2_putIn 98 = .ok (.goto 4, 3) := by decide +kernel
theorem dX2_putIn_101 : decode cX2_putIn 101 = .ok (.iconst 0, 1) := by decide +kernel
theorem dX2_putIn_102 : decode cX2_putIn 102 = .ok (.istore 8, 2) := by decide +kernel
theorem dX2_putIn_104 : decode cX2_putIn 104 = .ok (.iload 8, 2) := by decide +kernel
theorem dX2_putIn_106 : decode cX2_putIn 106 = .ok (.ifCond .eq 39, 3) := by decide +kernel
theorem dX2_putIn_109 : decode cX2_putIn 109 = .ok (.aload_n 0, 1) := by decide +kernel
theorem dX2_putIn_110 : decode cX2_putIn 110 = .ok (.getfield 21, 3) := by decide +kernel
theorem dX2_putIn_113 : decode cX2_putIn 113 = .ok (.aload_n 3, 1) := by decide +kernel
theorem dX2_putIn_114 : decode cX2_putIn 114 = .ok (.aload_n 0, 1) := by decide +kernel
theorem dX2_putIn_115 : decode cX2_putIn 115 = .ok (.getfield 12, 3) := by decide +kernel
theorem dX2_putIn_118 : decode cX2_putIn 118 = .ok (.getfield 86, 3) := by decide +kernel
theorem dX2_putIn_121 : decode cX2_putIn 121 = .ok (.aload_n 1, 1) := by decide +kernel
theorem dX2_putIn_122 : decode cX2_putIn 122 = .ok (.getfield 82, 3) := by decide +kernel
theorem dX2_putIn_125 : decode cX2_putIn 125 = .ok (.iload_n 2, 1) := by decide +kernel
theorem dX2_putIn_126 : decode cX2_putIn 126 = .ok (.iaload, 1) := by decide +kernel
theorem dX2_putIn_127 : decode cX2_putIn 127 = .ok (.invokestatic 89, 3) := by decide +kernel
theorem dX2_putIn_130 : decode cX2_putIn 130 = .ok (.iload 6, 2) := by decide +kernel
theorem dX2_putIn_132 : decode cX2_putIn 132 = .ok (.iload 7, 2) := by decide +kernel
theorem dX2_putIn_134 : decode cX2_putIn 134 = .ok (.iload 4, 2) := by decide +kernel
theorem dX2_putIn_136 : decode cX2_putIn 136 = .ok (.invokestatic 143, 3) := by decide +kernel
theorem dX2_putIn_139 : decode cX2_putIn 139 = .ok (.invokevirtual 146, 3) := by decide +kernel
theorem dX2_putIn_142 : decode cX2_putIn 142 = .ok (.goto 25, 3) := by decide +kernel
theorem dX2_putIn_145 : decode cX2_putIn 145 = .ok (.aload_n 0, 1) := by decide +kernel
theorem dX2_putIn_146 : decode cX2_putIn 146 = .ok (.getfield 21, 3) := by decide +kernel
theorem dX2_putIn_149 : decode cX2_putIn 149 = .ok (.aload_n 1, 1) := by decide +kernel
theorem dX2_putIn_150 : decode cX2_putIn 150 = .ok (.getfield 111, 3) := by decide +kernel
theorem dX2_putIn_153 : decode cX2_putIn 153 = .ok (.iload 4, 2) := by decide +kernel
theorem dX2_putIn_155 : decode cX2_putIn 155 = .ok (.iload 6, 2) := by decide +kernel
theorem dX2_putIn_157 : decode cX2_putIn 157 = .ok (.iload 7, 2) := by decide +kernel
theorem dX2_putIn_159 : decode cX2_putIn 159 = .ok (.iload 4, 2) := by decide +kernel
theorem dX2_putIn_161 : decode cX2_putIn 161 = .ok (.invokestatic 143, 3) := by decide +kernel
theorem dX2_putIn_164 : decode cX2_putIn 164 = .ok (.invokevirtual 146, 3) := by decide +kernel
theorem dX2_putIn_167 : decode cX2_putIn 167 = .ok (.istore 9, 2) := by decide +kernel
theorem dX2_putIn_169 : decode cX2_putIn 169 = .ok (.iload 9, 2) := by decide +kernel
theorem dX2_putIn_171 : decode cX2_putIn 171 = .ok (.ifCond .eq 8, 3) := by decide +kernel
theorem dX2_putIn_174 : decode cX2_putIn 174 = .ok (.bipush 32, 2) := by decide +kernel
theorem dX2_putIn_176 : decode cX2_putIn 176 = .ok (.goto 5, 3) := by decide +kernel
theorem dX2_putIn_179 : decode cX2_putIn 179 = .ok (.bipush 102, 2) := by decide +kernel
theorem dX2_putIn_181 : decode cX2_putIn 181 = .ok (.ireturn, 1) := by decide +kernel
set_option maxRecDepth 20000 in
theorem ggX2_imageOf_X7_entry : GoodIn wsX2_imageOf wsX7_entry := goodIn_r _ [6] (by decide +kernel) (by decide +kernel)
set_option maxRecDepth 20000 in
theorem gX2_imageOf_X7_entry_n89 : GoodIn wsX2_imageOf (wsX7_entry) := ggX2_imageOf_X7_entry
theorem dX2_imageOf_0 : decode cX2_imageOf 0 = .ok (.aload_n 0, 1) := by decide +kernel
theorem dX2_imageOf_1 : decode cX2_imageOf 1 = .ok (.getfield 12, 3) := by decide +kernel
theorem dX2_imageOf_4 : decode cX2_imageOf 4 = .ok (.getfield 86, 3) := by decide +kernel
theorem dX2_imageOf_7 : decode cX2_imageOf 7 = .ok (.aload_n 1, 1) := by decide +kernel
theorem dX2_imageOf_8 : decode cX2_imageOf 8 = .ok (.getfield 150, 3) := by decide +kernel
theorem dX2_imageOf_11 : decode cX2_imageOf 11 = .ok (.iload_n 2, 1) := by decide +kernel
theorem dX2_imageOf_12 : decode cX2_imageOf 12 = .ok (.invokestatic 89, 3) := by decide +kernel
theorem dX2_imageOf_15 : decode cX2_imageOf 15 = .ok (.invokestatic 89, 3) := by decide +kernel
theorem dX2_imageOf_18 : decode cX2_imageOf 18 = .ok (.ireturn, 1) := by decide +kernel
theorem dX2_topMark_0 : decode cX2_topMark 0 = .ok (.bipush 20, 2) := by decide +kernel
theorem dX2_topMark_2 : decode cX2_topMark 2 = .ok (.iload_n 0, 1) := by decide +kernel
theorem dX2_topMark_3 : decode cX2_topMark 3 = .ok (.iadd, 1) := by decide +kernel
theorem dX2_topMark_4 : decode cX2_topMark 4 = .ok (.ireturn, 1) := by decide +kernel
set_option maxRecDepth 20000 in
theorem ggX2_placeInside_X2_imageOf : GoodIn wsX2_placeInside wsX2_imageOf := goodIn_r _ [9, 10, 11, 3, 12, 13, 14, 50, 51, 52, 53, 54, 55, 56, 57, 58, 59, 60, 61, 62, 63, 34, 35, 36, 37, 38, 39, 40, 41, 42] (by decide +kernel) (by decide +kernel)
set_option maxRecDepth 20000 in
theorem gX2_placeInside_X2_imageOf : GoodIn wsX2_placeInside (wsV RX2 128 RX2 yX2_imageOf wsX2_imageOf) := goodIn_app (goodIn_of _ (by decide +kernel)) ggX2_placeInside_X2_imageOf
set_option maxRecDepth 20000 in
theorem ggX2_placeInside_X2_topMark : GoodIn wsX2_placeInside wsX2_topMark := goodIn_r _ [17] (by decide +kernel) (by decide +kernel)
set_option maxRecDepth 20000 in
theorem gX2_placeInside_X2_topMark : GoodIn wsX2_placeInside (va_wsS RX2 143 yX2_topMark wsX2_topMark) := goodIn_app (goodIn_of _ (by decide +kernel)) ggX2_placeInside_X2_topMark
set_option maxRecDepth 20000 in
theorem ggX2_placeInside_X5_findMark : GoodIn wsX2_placeInside wsX5_findMark := goodIn_r _ [22, 23, 24, 43, 44, 45, 46, 47, 48, 49] (by decide +kernel) (by decide +kernel)
set_option maxRecDepth 20000 in
theorem gX2_placeInside_X5_findMark : GoodIn wsX2_placeInside (wsV RX2 97 RX5 yX5_findMark wsX5_findMark) := goodIn_app (goodIn_of _ (by decide +kernel)) ggX2_placeInside_X5_findMark
set_option maxRecDepth 20000 in
theorem ggX2_placeInside_X5_endOf : GoodIn wsX2_placeInside wsX5_endOf := goodIn_r _ [28, 29, 30, 31, 21, 32, 23, 33, 43, 44, 45, 46, 47, 48, 49] (by decide +kernel) (by decide +kernel)
set_option maxRecDepth 20000 in
theorem gX2_placeInside_X5_endOf : GoodIn wsX2_placeInside (wsV RX2 153 RX5 yX5_endOf wsX5_endOf) := goodIn_app (goodIn_of _ (by decide +kernel)) ggX2_placeInside_X5_endOf
theorem dX2_placeInside_0 : decode cX2_placeInside 0 = .ok (.iload_n 3, 1) := by decide +kernel
theorem dX2_placeInside_1 : decode cX2_placeInside 1 = .ok (.iconst 1, 1) := by decide +kernel
theorem dX2_placeInside_2 : decode cX2_placeInside 2 = .ok (.isub, 1) := by decide +kernel
theorem dX2_placeInside_3 : decode cX2_placeInside 3 = .ok (.istore 5, 2) := by decide +kernel
theorem dX2_placeInside_5 : decode cX2_placeInside 5 = .ok (.iload 5, 2) := by decide +kernel
theorem dX2_placeInside_7 : decode cX2_placeInside 7 = .ok (.iload_n 2, 1) := by decide +kernel
theorem dX2_placeInside_8 : decode cX2_placeInside 8 = .ok (.if_icmp .le 101, 3) := by decide +kernel
theorem dX2_placeInside_11 : decode cX2_placeInside 11 = .ok (.aload_n 1, 1) := by decide +kernel
theorem dX2_placeInside_12 : decode cX2_placeInside 12 = .ok (.getfield 111, 3) := by decide +kernel
theorem dX2_placeInside_15 : decode cX2_placeInside 15 = .ok (.getfield 125, 3) := by decide +kernel
theorem dX2_placeInside_18 : decode cX2_placeInside 18 = .ok (.iload 5, 2) := by decide +kernel
theorem dX2_placeInside_20 : decode cX2_placeInside 20 = .ok (.iaload, 1) := by decide +kernel
theorem dX2_placeInside_21 : decode cX2_placeInside 21 = .ok (.iload_n 2, 1) := by decide +kernel
theorem dX2_placeInside_22 : decode cX2_placeInside 22 = .ok (.if_icmp .ne 81, 3) := by decide +kernel
theorem dX2_placeInside_25 : decode cX2_placeInside 25 = .ok (.aload_n 1, 1) := by decide +kernel
theorem dX2_placeInside_26 : decode cX2_placeInside 26 = .ok (.getfield 150, 3) := by decide +kernel
theorem dX2_placeInside_29 : decode cX2_placeInside 29 = .ok (.iload 5, 2) := by decide +kernel
theorem dX2_placeInside_31 : decode cX2_placeInside 31 = .ok (.iaload, 1) := by decide +kernel
theorem dX2_placeInside_32 : decode cX2_placeInside 32 = .ok (.iconst (-1), 1) := by decide +kernel
theorem dX2_placeInside_33 : decode cX2_placeInside 33 = .ok (.if_icmp .eq 7, 3) := by decide +kernel
theorem dX2_placeInside_36 : decode cX2_placeInside 36 = .ok (.iconst 1, 1) := by decide +kernel
theorem dX2_placeInside_37 : decode cX2_placeInside 37 = .ok (.goto 4, 3) := by decide +kernel
theorem dX2_placeInside_40 : decode cX2_placeInside 40 = .ok (.iconst 0, 1) := by decide +kernel
theorem dX2_placeInside_41 : decode cX2_placeInside 41 = .ok (.istore 6, 2) := by decide +kernel
theorem dX2_placeInside_43 : decode cX2_placeInside 43 = .ok (.aload_n 0, 1) := by decide +kernel
theorem dX2_placeInside_44 : decode cX2_placeInside 44 = .ok (.getfield 21, 3) := by decide +kernel
theorem dX2_placeInside_47 : decode cX2_placeInside 47 = .ok (.iload 6, 2) := by decide +kernel
theorem dX2_placeInside_49 : decode cX2_placeInside 49 = .ok (.ifCond .eq 13, 3) := by decide +kernel
theorem dX2_placeInside_52 : decode cX2_placeInside 52 = .ok (.aload_n 0, 1) := by decide +kernel
theorem dX2_placeInside_53 : decode cX2_placeInside 53 = .ok (.aload_n 1, 1) := by decide +kernel
theorem dX2_placeInside_54 : decode cX2_placeInside 54 = .ok (.iload 5, 2) := by decide +kernel
theorem dX2_placeInside_56 : decode cX2_placeInside 56 = .ok (.invokevirtual 128, 3) := by decide +kernel
theorem dX2_placeInside_59 : decode cX2_placeInside 59 = .ok (.goto 8, 3) := by decide +kernel
theorem dX2_placeInside_62 : decode cX2_placeInside 62 = .ok (.iload 5, 2) := by decide +kernel
theorem dX2_placeInside_64 : decode cX2_placeInside 64 = .ok (.invokestatic 143, 3) := by decide +kernel
theorem dX2_placeInside_67 : decode cX2_placeInside 67 = .ok (.invokevirtual 97, 3) := by decide +kernel
theorem dX2_placeInside_70 : decode cX2_placeInside 70 = .ok (.istore 7, 2) := by decide +kernel
theorem dX2_placeInside_72 : decode cX2_placeInside 72 = .ok (.iload 7, 2) := by decide +kernel
theorem dX2_placeInside_74 : decode cX2_placeInside 74 = .ok (.iconst (-1), 1) := by decide +kernel
theorem dX2_placeInside_75 : decode cX2_placeInside 75 = .ok (.if_icmp .eq 28, 3) := by decide +kernel
theorem dX2_placeInside_78 : decode cX2_placeInside 78 = .ok (.aload_n 0, 1) := by decide +kernel
theorem dX2_placeInside_79 : decode cX2_placeInside 79 = .ok (.getfield 21, 3) := by decide +kernel
theorem dX2_placeInside_82 : decode cX2_placeInside 82 = .ok (.getfield 125, 3) := by decide +kernel
theorem dX2_placeInside_85 : decode cX2_placeInside 85 = .ok (.iload 7, 2) := by decide +kernel
theorem dX2_placeInside_87 : decode cX2_placeInside 87 = .ok (.iaload, 1) := by decide +kernel
theorem dX2_placeInside_88 : decode cX2_placeInside 88 = .ok (.iload 4, 2) := by decide +kernel
theorem dX2_placeInside_90 : decode cX2_placeInside 90 = .ok (.if_icmp .ne 13, 3) := by decide +kernel
theorem dX2_placeInside_93 : decode cX2_placeInside 93 = .ok (.aload_n 0, 1) := by decide +kernel
theorem dX2_placeInside_94 : decode cX2_placeInside 94 = .ok (.getfield 21, 3) := by decide +kernel
theorem dX2_placeInside_97 : decode cX2_placeInside 97 = .ok (.iload 7, 2) := by decide +kernel
theorem dX2_placeInside_99 : decode cX2_placeInside 99 = .ok (.invokevirtual 153, 3) := by decide +kernel
theorem dX2_placeInside_102 : decode cX2_placeInside 102 = .ok (.ireturn, 1) := by decide +kernel
theorem dX2_placeInside_103 : decode cX2_placeInside 103 = .ok (.iinc 5 (-1), 3) := by decide +kernel
theorem dX2_placeInside_106 : decode cX2_placeInside 106 = .ok (.goto (-101), 3) := by decide +kernel
theorem dX2_placeInside_109 : decode cX2_placeInside 109 = .ok (.iload 4, 2) := by decide +kernel
theorem dX2_placeInside_111 : decode cX2_placeInside 111 = .ok (.iconst 1, 1) := by decide +kernel
theorem dX2_placeInside_112 : decode cX2_placeInside 112 = .ok (.iadd, 1) := by decide +kernel
theorem dX2_placeInside_113 : decode cX2_placeInside 113 = .ok (.ireturn, 1) := by decide +kernel
set_option maxRecDepth 20000 in
theorem ggX3_init_X5_init : GoodIn wsX3_init wsX5_init := goodIn_r _ [18, 19, 2, 3, 12, 20, 9, 21, 22, 23, 24, 25, 26, 27, 28, 29, 30, 31, 32, 33] (by decide +kernel) (by decide +kernel)
set_option maxRecDepth 20000 in
theorem gX3_init_X5_init : GoodIn wsX3_init (wsX5_init) := ggX3_init_X5_init
theorem dX3_init_0 : decode cX3_init 0 = .ok (.aload_n 0, 1) := by decide +kernel
theorem dX3_init_1 : decode cX3_init 1 = .ok (.invokespecial 3, 3) := by decide +kernel
theorem dX3_init_4 : decode cX3_init 4 = .ok (.aload_n 0, 1) := by decide +kernel
theorem dX3_init_5 : decode cX3_init 5 = .ok (.new 9, 3) := by decide +kernel
theorem dX3_init_8 : decode cX3_init 8 = .ok (.dup, 1) := by decide +kernel
theorem dX3_init_9 : decode cX3_init 9 = .ok (.invokespecial 11, 3) := by decide +kernel
theorem dX3_init_12 : decode cX3_init 12 = .ok (.putfield 12, 3) := by decide +kernel
theorem dX3_init_15 : decode cX3_init 15 = .ok (.aload_n 0, 1) := by decide +kernel
theorem dX3_init_16 : decode cX3_init 16 = .ok (.new 9, 3) := by decide +kernel
theorem dX3_init_19 : decode cX3_init 19 = .ok (.dup, 1) := by decide +kernel
theorem dX3_init_20 : decode cX3_init 20 = .ok (.invokespecial 11, 3) := by decide +kernel
theorem dX3_init_23 : decode cX3_init 23 = .ok (.putfield 18, 3) := by decide +kernel
theorem dX3_init_26 : decode cX3_init 26 = .ok (.aload_n 0, 1) := by decide +kernel
theorem dX3_init_27 : decode cX3_init 27 = .ok (.bipush 20, 2) := by decide +kernel
theorem dX3_init_29 : decode cX3_init 29 = .ok (.newarray .int, 2) := by decide +kernel
theorem dX3_init_31 : decode cX3_init 31 = .ok (.putfield 21, 3) := by decide +kernel
theorem dX3_init_34 : decode cX3_init 34 = .ok (.aload_n 0, 1) := by decide +kernel
theorem dX3_init_35 : decode cX3_init 35 = .ok (.bipush 20, 2) := by decide +kernel
theorem dX3_init_37 : decode cX3_init 37 = .ok (.newarray .int, 2) := by decide +kernel
theorem dX3_init_39 : decode cX3_init 39 = .ok (.putfield 25, 3) := by decide +kernel
theorem dX3_init_42 : decode cX3_init 42 = .ok (.aload_n 0, 1) := by decide +kernel
theorem dX3_init_43 : decode cX3_init 43 = .ok (.bipush 40, 2) := by decide +kernel
theorem dX3_init_45 : decode cX3_init 45 = .ok (.newarray .char, 2) := by decide +kernel
theorem dX3_init_47 : decode cX3_init 47 = .ok (.putfield 28, 3) := by decide +kernel
theorem dX3_init_50 : decode cX3_init 50 = .ok (.aload_n 0, 1) := by decide +kernel
theorem dX3_init_51 : decode cX3_init 51 = .ok (.bipush 40, 2) := by decide +kernel
theorem dX3_init_53 : decode cX3_init 53 = .ok (.newarray .int, 2) := by decide +kernel
theorem dX3_init_55 : decode cX3_init 55 = .ok (.putfield 32, 3) := by decide +kernel
theorem dX3_init_58 : decode cX3_init 58 = .ok (.aload_n 0, 1) := by decide +kernel
theorem dX3_init_59 : decode cX3_init 59 = .ok (.bipush 40, 2) := by decide +kernel
theorem dX3_init_61 : decode cX3_init 61 = .ok (.newarray .int, 2) := by decide +kernel
theorem dX3_init_63 : decode cX3_init 63 = .ok (.putfield 35, 3) := by decide +kernel
theorem dX3_init_66 : decode cX3_init 66 = .ok (.return_, 1) := by decide +kernel
set_option maxRecDepth 20000 in
theorem ggX3_compute_X5_copyFrom : GoodIn wsX3_compute wsX5_copyFrom := goodIn_r _ [16, 17, 18, 6, 7, 8, 19, 20, 21, 22, 172, 173, 174, 175, 176, 177, 178] (by decide +kernel) (by decide +kernel)
set_option maxRecDepth 20000 in
theorem gX3_compute_X5_copyFrom : GoodIn wsX3_compute (wsV RX3 38 RX5 yX5_copyFrom wsX5_copyFrom) := goodIn_app (goodIn_of _ (by decide +kernel)) ggX3_compute_X5_copyFrom
set_option maxRecDepth 20000 in
theorem ggX3_compute_X1_match : GoodIn wsX3_compute wsX1_match := goodIn_r _ [27, 28, 29, 30, 31, 32, 33, 34, 35, 36, 37, 26, 38, 39, 40, 41, 42, 43, 44, 45, 15, 46, 22, 47, 48, 49, 50, 21, 51, 52, 53, 54, 55, 56, 57, 58, 59, 60, 61, 62, 63, 64, 65, 66, 67, 68, 69, 70, 71, 72, 73, 74, 75, 76, 77, 78, 79, 80, 81, 82, 83, 84, 85, 86, 87, 88, 89, 90, 91, 92, 93, 94, 95, 96, 97, 98, 99, 100, 162, 163, 164, 165, 166, 167, 168, 169, 170, 171, 172, 173, 174, 175, 176, 177, 178] (by decide +kernel) (by decide +kernel)
set_option maxRecDepth 20000 in
theorem gX3_compute_X1_match : GoodIn wsX3_compute (wsV RX3 42 RX1 yX1_match wsX1_match) := goodIn_app (goodIn_of _ (by decide +kernel)) ggX3_compute_X1_match
set_option maxRecDepth 20000 in
theorem ggX3_compute_X3_findOperations : GoodIn wsX3_compute wsX3_findOperations := goodIn_r _ [105, 106, 1, 107, 2, 4, 108, 109, 110, 104, 111, 112, 113, 114, 115, 116, 117, 118, 119, 120, 121, 122, 123, 124, 125, 126, 127, 15, 128, 21, 129, 130, 131, 132, 47, 48, 49, 50, 22, 153, 154, 155, 156, 157, 158, 159, 160, 161, 172, 173, 174, 175, 176, 177, 178] (by decide +kernel) (by decide +kernel)
set_option maxRecDepth 20000 in
theorem gX3_compute_X3_findOperations : GoodIn wsX3_compute (wsV RX3 56 RX3 yX3_findOperations wsX3_findOperations) := goodIn_app (goodIn_of _ (by decide +kernel)) ggX3_compute_X3_findOperations
set_option maxRecDepth 20000 in
theorem ggX3_compute_X3_recognizeMoves : GoodIn wsX3_compute wsX3_recognizeMoves := goodIn_r _ [136, 106, 118, 119, 137, 138, 139, 104, 140, 1, 2, 120, 141, 142, 143, 15, 144, 17, 19, 20, 145, 146, 147, 148, 21, 47, 48, 49, 50, 22, 153, 154, 155, 156, 157, 158, 159, 160, 161, 172, 173, 174, 175, 176, 177, 178] (by decide +kernel) (by decide +kernel)
set_option maxRecDepth 20000 in
theorem gX3_compute_X3_recognizeMoves : GoodIn wsX3_compute (wsV RX3 59 RX3 yX3_recognizeMoves wsX3_recognizeMoves) := goodIn_app (goodIn_of _ (by decide +kernel)) ggX3_compute_X3_recognizeMoves
set_option maxRecDepth 20000 in
theorem ggX3_compute_X3_removeDropped : GoodIn wsX3_compute wsX3_removeDropped := goodIn_r _ [152, 106, 118, 119, 120, 114, 115, 116, 104, 117, 153, 154, 155, 156, 157, 158, 159, 160, 161] (by decide +kernel) (by decide +kernel)
set_option maxRecDepth 20000 in
theorem gX3_compute_X3_removeDropped : GoodIn wsX3_compute (wsV RX3 62 RX3 yX3_removeDropped wsX3_removeDropped) := goodIn_app (goodIn_of _ (by decide +kernel)) ggX3_compute_X3_removeDropped
theorem dX3_compute_0 : decode cX3_compute 0 = .ok (.aload_n 0, 1) := by decide +kernel
theorem dX3_compute_1 : decode cX3_compute 1 = .ok (.getfield 12, 3) := by decide +kernel
theorem dX3_compute_4 : decode cX3_compute 4 = .ok (.aload_n 1, 1) := by decide +kernel
theorem dX3_compute_5 : decode cX3_compute 5 = .ok (.invokevirtual 38, 3) := by decide +kernel
theorem dX3_compute_8 : decode cX3_compute 8 = .ok (.aload_n 0, 1) := by decide +kernel
theorem dX3_compute_9 : decode cX3_compute 9 = .ok (.getfield 18, 3) := by decide +kernel
theorem dX3_compute_12 : decode cX3_compute 12 = .ok (.aload_n 2, 1) := by decide +kernel
theorem dX3_compute_13 : decode cX3_compute 13 = .ok (.invokevirtual 38, 3) := by decide +kernel
theorem dX3_compute_16 : decode cX3_compute 16 = .ok (.aload_n 3, 1) := by decide +kernel
theorem dX3_compute_17 : decode cX3_compute 17 = .ok (.aload_n 0, 1) := by decide +kernel
theorem dX3_compute_18 : decode cX3_compute 18 = .ok (.getfield 12, 3) := by decide +kernel
theorem dX3_compute_21 : decode cX3_compute 21 = .ok (.aload_n 0, 1) := by decide +kernel
theorem dX3_compute_22 : decode cX3_compute 22 = .ok (.getfield 18, 3) := by decide +kernel
theorem dX3_compute_25 : decode cX3_compute 25 = .ok (.invokevirtual 42, 3) := by decide +kernel
theorem dX3_compute_28 : decode cX3_compute 28 = .ok (.aload_n 3, 1) := by decide +kernel
theorem dX3_compute_29 : decode cX3_compute 29 = .ok (.getfield 48, 3) := by decide +kernel
theorem dX3_compute_32 : decode cX3_compute 32 = .ok (.iconst 0, 1) := by decide +kernel
theorem dX3_compute_33 : decode cX3_compute 33 = .ok (.aload_n 0, 1) := by decide +kernel
theorem dX3_compute_34 : decode cX3_compute 34 = .ok (.getfield 21, 3) := by decide +kernel
theorem dX3_compute_37 : decode cX3_compute 37 = .ok (.iconst 0, 1) := by decide +kernel
theorem dX3_compute_38 : decode cX3_compute 38 = .ok (.bipush 20, 2) := by decide +kernel
theorem dX3_compute_40 : decode cX3_compute 40 = .ok (.invokestatic 49, 3) := by decide +kernel
theorem dX3_compute_43 : decode cX3_compute 43 = .ok (.aload_n 3, 1) := by decide +kernel
theorem dX3_compute_44 : decode cX3_compute 44 = .ok (.getfield 55, 3) := by decide +kernel
theorem dX3_compute_47 : decode cX3_compute 47 = .ok (.iconst 0, 1) := by decide +kernel
theorem dX3_compute_48 : decode cX3_compute 48 = .ok (.aload_n 0, 1) := by decide +kernel
theorem dX3_compute_49 : decode cX3_compute 49 = .ok (.getfield 25, 3) := by decide +kernel
theorem dX3_compute_52 : decode cX3_compute 52 = .ok (.iconst 0, 1) := by decide +kernel
theorem dX3_compute_53 : decode cX3_compute 53 = .ok (.bipush 20, 2) := by decide +kernel
theorem dX3_compute_55 : decode cX3_compute 55 = .ok (.invokestatic 49, 3) := by decide +kernel
theorem dX3_compute_58 : decode cX3_compute 58 = .ok (.aload_n 0, 1) := by decide +kernel
theorem dX3_compute_59 : decode cX3_compute 59 = .ok (.invokevirtual 56, 3) := by decide +kernel
theorem dX3_compute_62 : decode cX3_compute 62 = .ok (.aload_n 0, 1) := by decide +kernel
theorem dX3_compute_63 : decode cX3_compute 63 = .ok (.invokevirtual 59, 3) := by decide +kernel
theorem dX3_compute_66 : decode cX3_compute 66 = .ok (.aload_n 0, 1) := by decide +kernel
theorem dX3_compute_67 : decode cX3_compute 67 = .ok (.invokevirtual 62, 3) := by decide +kernel
theorem dX3_compute_70 : decode cX3_compute 70 = .ok (.aload_n 0, 1) := by decide +kernel
theorem dX3_compute_71 : decode cX3_compute 71 = .ok (.iconst 1, 1) := by decide +kernel
theorem dX3_compute_72 : decode cX3_compute 72 = .ok (.putfield 65, 3) := by decide +kernel
theorem dX3_compute_75 : decode cX3_compute 75 = .ok (.return_, 1) := by decide +kernel
set_option maxRecDepth 20000 in
theorem ggX3_findOperations_X3_addChanges : GoodIn wsX3_findOperations wsX3_addChanges := goodIn_r _ [10, 2, 11, 4, 12, 13, 14, 15, 9, 16, 1, 17, 18, 19, 39, 40, 41, 42, 43, 44, 45, 46, 47, 48, 49, 50, 51, 52, 53, 54] (by decide +kernel) (by decide +kernel)
set_option maxRecDepth 20000 in
theorem gX3_findOperations_X3_addChanges : GoodIn wsX3_findOperations (wsV RX3 74 RX3 yX3_addChanges wsX3_addChanges) := goodIn_app (goodIn_of _ (by decide +kernel)) ggX3_findOperations_X3_addChanges
set_option maxRecDepth 20000 in
theorem ggX3_findOperations_X3_isDeletionNext : GoodIn wsX3_findOperations wsX3_isDeletionNext := goodIn_r _ [23, 2, 3, 4, 5, 24, 25, 26, 27, 28, 29, 39, 40, 41, 42, 43, 44, 45, 46, 47, 48, 49, 50, 51, 52, 53, 54] (by decide +kernel) (by decide +kernel)
set_option maxRecDepth 20000 in
theorem gX3_findOperations_X3_isDeletionNext : GoodIn wsX3_findOperations (wsV RX3 78 RX3 yX3_isDeletionNext wsX3_isDeletionNext) := goodIn_app (goodIn_of _ (by decide +kernel)) ggX3_findOperations_X3_isDeletionNext
set_option maxRecDepth 20000 in
theorem ggX3_findOperations_X3_add : GoodIn wsX3_findOperations wsX3_add := goodIn_r _ [16, 1, 17, 18, 19, 39, 40, 41, 42, 43, 44, 45, 46, 47] (by decide +kernel) (by decide +kernel)
set_option maxRecDepth 20000 in
theorem gX3_findOperations_X3_add : GoodIn wsX3_findOperations (wsV RX3 82 RX3 yX3_add wsX3_add) := goodIn_app (goodIn_of _ (by decide +kernel)) ggX3_findOperations_X3_add
set_option maxRecDepth 20000 in
theorem ggX3_findOperations_X5_endOf : GoodIn wsX3_findOperations wsX5_endOf := goodIn_r _ [33, 34, 35, 36, 27, 37, 38, 29, 48, 49, 50, 51, 52, 53, 54] (by decide +kernel) (by decide +kernel)
set_option maxRecDepth 20000 in
theorem gX3_findOperations_X5_endOf : GoodIn wsX3_findOperations (wsV RX3 86 RX5 yX5_endOf wsX5_endOf) := goodIn_app (goodIn_of _ (by decide +kernel)) ggX3_findOperations_X5_endOf
theorem dX3_findOperations_0 : decode cX3_findOperations 0 = .ok (.aload_n 0, 1) := by decide +kernel
theorem dX3_findOperations_1 : decode cX3_findOperations 1 = .ok (.iconst 0, 1) := by decide +kernel
theorem dX3_findOperations_2 : decode cX3_findOperations 2 = .ok (.putfield 69, 3) := by decide +kernel
theorem dX3_findOperations_5 : decode cX3_findOperations 5 = .ok (.iconst 0, 1) := by decide +kernel
theorem dX3_findOperations_6 : decode cX3_findOperations 6 = .ok (.istore_n 1, 1) := by decide +kernel
theorem dX3_findOperations_7 : decode cX3_findOperations 7 = .ok (.iconst 0, 1) := by decide +kernel
theorem dX3_findOperations_8 : decode cX3_findOperations 8 = .ok (.istore_n 2, 1) := by decide +kernel
theorem dX3_findOperations_9 : decode cX3_findOperations 9 = .ok (.iconst 0, 1) := by decide +kernel
theorem dX3_findOperations_10 : decode cX3_findOperations 10 = .ok (.istore_n 3, 1) := by decide +kernel
theorem dX3_findOperations_11 : decode cX3_findOperations 11 = .ok (.iload_n 3, 1) := by decide +kernel
theorem dX3_findOperations_12 : decode cX3_findOperations 12 = .ok (.bipush 40, 2) := by decide +kernel
theorem dX3_findOperations_14 : decode cX3_findOperations 14 = .ok (.if_icmp .ge 114, 3) := by decide +kernel
theorem dX3_findOperations_17 : decode cX3_findOperations 17 = .ok (.iload_n 1, 1) := by decide +kernel
theorem dX3_findOperations_18 : decode cX3_findOperations 18 = .ok (.aload_n 0, 1) := by decide +kernel
theorem dX3_findOperations_19 : decode cX3_findOperations 19 = .ok (.getfield 12, 3) := by decide +kernel
theorem dX3_findOperations_22 : decode cX3_findOperations 22 = .ok (.getfield 73, 3) := by decide +kernel
theorem dX3_findOperations_25 : decode cX3_findOperations 25 = .ok (.if_icmp .lt 15, 3) := by decide +kernel
theorem dX3_findOperations_28 : decode cX3_findOperations 28 = .ok (.iload_n 2, 1) := by decide +kernel
theorem dX3_findOperations_29 : decode cX3_findOperations 29 = .ok (.aload_n 0, 1) := by decide +kernel
theorem dX3_findOperations_30 : decode cX3_findOperations 30 = .ok (.getfield 18, 3) := by decide +kernel
theorem dX3_findOperations_33 : decode cX3_findOperations 33 = .ok (.getfield 73, 3) := by decide +kernel
theorem dX3_findOperations_36 : decode cX3_findOperations 36 = .ok (.if_icmp .lt 4, 3) := by decide +kernel
theorem dX3_findOperations_39 : decode cX3_findOperations 39 = .ok (.return_, 1) := by decide +kernel
theorem dX3_findOperations_40 : decode cX3_findOperations 40 = .ok (.iload_n 1, 1) := by decide +kernel
theorem dX3_findOperations_41 : decode cX3_findOperations 41 = .ok (.aload_n 0, 1) := by decide +kernel
theorem dX3_findOperations_42 : decode cX3_findOperations 42 = .ok (.getfield 12, 3) := by decide +kernel
theorem dX3_findOperations_45 : decode cX3_findOperations 45 = .ok (.getfield 73, 3) := by decide +kernel
theorem dX3_findOperations_48 : decode cX3_findOperations 48 = .ok (.if_icmp .ge 28, 3) := by decide +kernel
theorem dX3_findOperations_51 : decode cX3_findOperations 51 = .ok (.aload_n 0, 1) := by decide +kernel
theorem dX3_findOperations_52 : decode cX3_findOperations 52 = .ok (.getfield 21, 3) := by decide +kernel
theorem dX3_findOperations_55 : decode cX3_findOperations 55 = .ok (.iload_n 1, 1) := by decide +kernel
theorem dX3_findOperations_56 : decode cX3_findOperations 56 = .ok (.iaload, 1) := by decide +kernel
theorem dX3_findOperations_57 : decode cX3_findOperations 57 = .ok (.iload_n 2, 1) := by decide +kernel
theorem dX3_findOperations_58 : decode cX3_findOperations 58 = .ok (.if_icmp .ne 18, 3) := by decide +kernel
theorem dX3_findOperations_61 : decode cX3_findOperations 61 = .ok (.aload_n 0, 1) := by decide +kernel
theorem dX3_findOperations_62 : decode cX3_findOperations 62 = .ok (.iload_n 1, 1) := by decide +kernel
theorem dX3_findOperations_63 : decode cX3_findOperations 63 = .ok (.iload_n 2, 1) := by decide +kernel
theorem dX3_findOperations_64 : decode cX3_findOperations 64 = .ok (.invokevirtual 74, 3) := by decide +kernel
theorem dX3_findOperations_67 : decode cX3_findOperations 67 = .ok (.iinc 1 1, 3) := by decide +kernel
theorem dX3_findOperations_70 : decode cX3_findOperations 70 = .ok (.iinc 2 1, 3) := by decide +kernel
theorem dX3_findOperations_73 : decode cX3_findOperations 73 = .ok (.goto 49, 3) := by decide +kernel
theorem dX3_findOperations_76 : decode cX3_findOperations 76 = .ok (.aload_n 0, 1) := by decide +kernel
theorem dX3_findOperations_77 : decode cX3_findOperations 77 = .ok (.iload_n 1, 1) := by decide +kernel
theorem dX3_findOperations_78 : decode cX3_findOperations 78 = .ok (.iload_n 2, 1) := by decide +kernel
theorem dX3_findOperations_79 : decode cX3_findOperations 79 = .ok (.invokevirtual 78, 3) := by decide +kernel
theorem dX3_findOperations_82 : decode cX3_findOperations 82 = .ok (.ifCond .eq 23, 3) := by decide +kernel
theorem dX3_findOperations_85 : decode cX3_findOperations 85 = .ok (.aload_n 0, 1) := by decide +kernel
theorem dX3_findOperations_86 : decode cX3_findOperations 86 = .ok (.bipush 100, 2) := by decide +kernel
theorem dX3_findOperations_88 : decode cX3_findOperations 88 = .ok (.iload_n 1, 1) := by decide +kernel
theorem dX3_findOperations_89 : decode cX3_findOperations 89 = .ok (.iconst (-1), 1) := by decide +kernel
theorem dX3_findOperations_90 : decode cX3_findOperations 90 = .ok (.invokevirtual 82, 3) := by decide +kernel
theorem dX3_findOperations_93 : decode cX3_findOperations 93 = .ok (.aload_n 0, 1) := by decide +kernel
theorem dX3_findOperations_94 : decode cX3_findOperations 94 = .ok (.getfield 12, 3) := by decide +kernel
theorem dX3_findOperations_97 : decode cX3_findOperations 97 = .ok (.iload_n 1, 1) := by decide +kernel
theorem dX3_findOperations_98 : decode cX3_findOperations 98 = .ok (.invokevirtual 86, 3) := by decide +kernel
theorem dX3_findOperations_101 : decode cX3_findOperations 101 = .ok (.istore_n 1, 1) := by decide +kernel
theorem dX3_findOperations_102 : decode cX3_findOperations 102 = .ok (.goto 20, 3) := by decide +kernel
theorem dX3_findOperations_105 : decode cX3_findOperations 105 = .ok (.aload_n 0, 1) := by decide +kernel
theorem dX3_findOperations_106 : decode cX3_findOperations 106 = .ok (.bipush 105, 2) := by decide +kernel
theorem dX3_findOperations_108 : decode cX3_findOperations 108 = .ok (.iconst (-1), 1) := by decide +kernel
theorem dX3_findOperations_109 : decode cX3_findOperations 109 = .ok (.iload_n 2, 1) := by decide +kernel
theorem dX3_findOperations_110 : decode cX3_findOperations 110 = .ok (.invokevirtual 82, 3) := by decide +kernel
theorem dX3_findOperations_113 : decode cX3_findOperations 113 = .ok (.aload_n 0, 1) := by decide +kernel
theorem dX3_findOperations_114 : decode cX3_findOperations 114 = .ok (.getfield 18, 3) := by decide +kernel
theorem dX3_findOperations_117 : decode cX3_findOperations 117 = .ok (.iload_n 2, 1) := by decide +kernel
theorem dX3_findOperations_118 : decode cX3_findOperations 118 = .ok (.invokevirtual 86, 3) := by decide +kernel
theorem dX3_findOperations_121 : decode cX3_findOperations 121 = .ok (.istore_n 2, 1) := by decide +kernel
theorem dX3_findOperations_122 : decode cX3_findOperations 122 = .ok (.iinc 3 1, 3) := by decide +kernel
theorem dX3_findOperations_125 : decode cX3_findOperations 125 = .ok (.goto (-114), 3) := by decide +kernel
theorem dX3_findOperations_128 : decode cX3_findOperations 128 = .ok (.return_, 1) := by decide +kernel
set_option maxRecDepth 20000 in
theorem ggX3_isDeletionNext_X5_depthOf : GoodIn wsX3_isDeletionNext wsX5_depthOf := goodIn_r _ [9, 10, 20, 21, 22, 23, 24, 25, 26] (by decide +kernel) (by decide +kernel)
set_option maxRecDepth 20000 in
theorem gX3_isDeletionNext_X5_depthOf : GoodIn wsX3_isDeletionNext (wsV RX3 90 RX5 yX5_depthOf wsX5_depthOf) := goodIn_app (goodIn_of _ (by decide +kernel)) ggX3_isDeletionNext_X5_depthOf
theorem dX3_isDeletionNext_0 : decode cX3_isDeletionNext 0 = .ok (.iload_n 1, 1) := by decide +kernel
theorem dX3_isDeletionNext_1 : decode cX3_isDeletionNext 1 = .ok (.aload_n 0, 1) := by decide +kernel
theorem dX3_isDeletionNext_2 : decode cX3_isDeletionNext 2 = .ok (.getfield 12, 3) := by decide +kernel
theorem dX3_isDeletionNext_5 : decode cX3_isDeletionNext 5 = .ok (.getfield 73, 3) := by decide +kernel
theorem dX3_isDeletionNext_8 : decode cX3_isDeletionNext 8 = .ok (.if_icmp .lt 5, 3) := by decide +kernel
theorem dX3_isDeletionNext_11 : decode cX3_isDeletionNext 11 = .ok (.iconst 0, 1) := by decide +kernel
theorem dX3_isDeletionNext_12 : decode cX3_isDeletionNext 12 = .ok (.ireturn, 1) := by decide +kernel
theorem dX3_isDeletionNext_13 : decode cX3_isDeletionNext 13 = .ok (.iload_n 2, 1) := by decide +kernel
theorem dX3_isDeletionNext_14 : decode cX3_isDeletionNext 14 = .ok (.aload_n 0, 1) := by decide +kernel
theorem dX3_isDeletionNext_15 : decode cX3_isDeletionNext 15 = .ok (.getfield 18, 3) := by decide +kernel
theorem dX3_isDeletionNext_18 : decode cX3_isDeletionNext 18 = .ok (.getfield 73, 3) := by decide +kernel
theorem dX3_isDeletionNext_21 : decode cX3_isDeletionNext 21 = .ok (.if_icmp .lt 5, 3) := by decide +kernel
theorem dX3_isDeletionNext_24 : decode cX3_isDeletionNext 24 = .ok (.iconst 1, 1) := by decide +kernel
theorem dX3_isDeletionNext_25 : decode cX3_isDeletionNext 25 = .ok (.ireturn, 1) := by decide +kernel
theorem dX3_isDeletionNext_26 : decode cX3_isDeletionNext 26 = .ok (.aload_n 0, 1) := by decide +kernel
theorem dX3_isDeletionNext_27 : decode cX3_isDeletionNext 27 = .ok (.getfield 12, 3) := by decide +kernel
theorem dX3_isDeletionNext_30 : decode cX3_isDeletionNext 30 = .ok (.iload_n 1, 1) := by decide +kernel
theorem dX3_isDeletionNext_31 : decode cX3_isDeletionNext 31 = .ok (.invokevirtual 90, 3) := by decide +kernel
theorem dX3_isDeletionNext_34 : decode cX3_isDeletionNext 34 = .ok (.istore_n 3, 1) := by decide +kernel
theorem dX3_isDeletionNext_35 : decode cX3_isDeletionNext 35 = .ok (.aload_n 0, 1) := by decide +kernel
theorem dX3_isDeletionNext_36 : decode cX3_isDeletionNext 36 = .ok (.getfield 18, 3) := by decide +kernel
theorem dX3_isDeletionNext_39 : decode cX3_isDeletionNext 39 = .ok (.iload_n 2, 1) := by decide +kernel
theorem dX3_isDeletionNext_40 : decode cX3_isDeletionNext 40 = .ok (.invokevirtual 90, 3) := by decide +kernel
theorem dX3_isDeletionNext_43 : decode cX3_isDeletionNext 43 = .ok (.istore 4, 2) := by decide +kernel
theorem dX3_isDeletionNext_45 : decode cX3_isDeletionNext 45 = .ok (.iload_n 3, 1) := by decide +kernel
theorem dX3_isDeletionNext_46 : decode cX3_isDeletionNext 46 = .ok (.iload 4, 2) := by decide +kernel
theorem dX3_isDeletionNext_48 : decode cX3_isDeletionNext 48 = .ok (.if_icmp .ne 21, 3) := by decide +kernel
theorem dX3_isDeletionNext_51 : decode cX3_isDeletionNext 51 = .ok (.aload_n 0, 1) := by decide +kernel
theorem dX3_isDeletionNext_52 : decode cX3_isDeletionNext 52 = .ok (.getfield 21, 3) := by decide +kernel
theorem dX3_isDeletionNext_55 : decode cX3_isDeletionNext 55 = .ok (.iload_n 1, 1) := by decide +kernel
theorem dX3_isDeletionNext_56 : decode cX3_isDeletionNext 56 = .ok (.iaload, 1) := by decide +kernel
theorem dX3_isDeletionNext_57 : decode cX3_isDeletionNext 57 = .ok (.iconst (-1), 1) := by decide +kernel
theorem dX3_isDeletionNext_58 : decode cX3_isDeletionNext 58 = .ok (.if_icmp .ne 7, 3) := by decide +kernel
theorem dX3_isDeletionNext_61 : decode cX3_isDeletionNext 61 = .ok (.iconst 1, 1) := by decide +kernel
theorem dX3_isDeletionNext_62 : decode cX3_isDeletionNext 62 = .ok (.goto 18, 3) := by decide +kernel
theorem dX3_isDeletionNext_65 : decode cX3_isDeletionNext 65 = .ok (.iconst 0, 1) := by decide +kernel
theorem dX3_isDeletionNext_66 : decode cX3_isDeletionNext 66 = .ok (.goto 14, 3) := by decide +kernel
theorem dX3_isDeletionNext_69 : decode cX3_isDeletionNext 69 = .ok (.iload_n 3, 1) := by decide +kernel
theorem dX3_isDeletionNext_70 : decode cX3_isDeletionNext 70 = .ok (.iload 4, 2) := by decide +kernel
theorem dX3_isDeletionNext_72 : decode cX3_isDeletionNext 72 = .ok (.if_icmp .le 7, 3) := by decide +kernel
theorem dX3_isDeletionNext_75 : decode cX3_isDeletionNext 75 = .ok (.iconst 1, 1) := by decide +kernel
theorem dX3_isDeletionNext_76 : decode cX3_isDeletionNext 76 = .ok (.goto 4, 3) := by decide +kernel
theorem dX3_isDeletionNext_79 : decode cX3_isDeletionNext 79 = .ok (.iconst 0, 1) := by decide +kernel
theorem dX3_isDeletionNext_80 : decode cX3_isDeletionNext 80 = .ok (.ireturn, 1) := by decide +kernel
set_option maxRecDepth 20000 in
theorem ggX3_addChanges_X3_add : GoodIn wsX3_addChanges wsX3_add := goodIn_r _ [9, 10, 11, 12, 13, 14, 15, 16, 17, 18, 19, 20, 21, 22] (by decide +kernel) (by decide +kernel)
set_option maxRecDepth 20000 in
theorem gX3_addChanges_X3_add : GoodIn wsX3_addChanges (wsV RX3 82 RX3 yX3_add wsX3_add) := goodIn_app (goodIn_of _ (by decide +kernel)) ggX3_addChanges_X3_add
theorem dX3_addChanges_0 : decode cX3_addChanges 0 = .ok (.aload_n 0, 1) := by decide +kernel
theorem dX3_addChanges_1 : decode cX3_addChanges 1 = .ok (.getfield 12, 3) := by decide +kernel
theorem dX3_addChanges_4 : decode cX3_addChanges 4 = .ok (.getfield 93, 3) := by decide +kernel
theorem dX3_addChanges_7 : decode cX3_addChanges 7 = .ok (.iload_n 1, 1) := by decide +kernel
theorem dX3_addChanges_8 : decode cX3_addChanges 8 = .ok (.caload, 1) := by decide +kernel
theorem dX3_addChanges_9 : decode cX3_addChanges 9 = .ok (.aload_n 0, 1) := by decide +kernel
theorem dX3_addChanges_10 : decode cX3_addChanges 10 = .ok (.getfield 18, 3) := by decide +kernel
theorem dX3_addChanges_13 : decode cX3_addChanges 13 = .ok (.getfield 93, 3) := by decide +kernel
theorem dX3_addChanges_16 : decode cX3_addChanges 16 = .ok (.iload_n 2, 1) := by decide +kernel
theorem dX3_addChanges_17 : decode cX3_addChanges 17 = .ok (.caload, 1) := by decide +kernel
theorem dX3_addChanges_18 : decode cX3_addChanges 18 = .ok (.if_icmp .eq 11, 3) := by decide +kernel
theorem dX3_addChanges_21 : decode cX3_addChanges 21 = .ok (.aload_n 0, 1) := by decide +kernel
theorem dX3_addChanges_22 : decode cX3_addChanges 22 = .ok (.bipush 108, 2) := by decide +kernel
theorem dX3_addChanges_24 : decode cX3_addChanges 24 = .ok (.iload_n 1, 1) := by decide +kernel
theorem dX3_addChanges_25 : decode cX3_addChanges 25 = .ok (.iload_n 2, 1) := by decide +kernel
theorem dX3_addChanges_26 : decode cX3_addChanges 26 = .ok (.invokevirtual 82, 3) := by decide +kernel
theorem dX3_addChanges_29 : decode cX3_addChanges 29 = .ok (.aload_n 0, 1) := by decide +kernel
theorem dX3_addChanges_30 : decode cX3_addChanges 30 = .ok (.getfield 12, 3) := by decide +kernel
theorem dX3_addChanges_33 : decode cX3_addChanges 33 = .ok (.getfield 96, 3) := by decide +kernel
theorem dX3_addChanges_36 : decode cX3_addChanges 36 = .ok (.iload_n 1, 1) := by decide +kernel
theorem dX3_addChanges_37 : decode cX3_addChanges 37 = .ok (.iaload, 1) := by decide +kernel
theorem dX3_addChanges_38 : decode cX3_addChanges 38 = .ok (.aload_n 0, 1) := by decide +kernel
theorem dX3_addChanges_39 : decode cX3_addChanges 39 = .ok (.getfield 18, 3) := by decide +kernel
theorem dX3_addChanges_42 : decode cX3_addChanges 42 = .ok (.getfield 96, 3) := by decide +kernel
theorem dX3_addChanges_45 : decode cX3_addChanges 45 = .ok (.iload_n 2, 1) := by decide +kernel
theorem dX3_addChanges_46 : decode cX3_addChanges 46 = .ok (.iaload, 1) := by decide +kernel
theorem dX3_addChanges_47 : decode cX3_addChanges 47 = .ok (.if_icmp .eq 11, 3) := by decide +kernel
theorem dX3_addChanges_50 : decode cX3_addChanges 50 = .ok (.aload_n 0, 1) := by decide +kernel
theorem dX3_addChanges_51 : decode cX3_addChanges 51 = .ok (.bipush 118, 2) := by decide +kernel
theorem dX3_addChanges_53 : decode cX3_addChanges 53 = .ok (.iload_n 1, 1) := by decide +kernel
theorem dX3_addChanges_54 : decode cX3_addChanges 54 = .ok (.iload_n 2, 1) := by decide +kernel
theorem dX3_addChanges_55 : decode cX3_addChanges 55 = .ok (.invokevirtual 82, 3) := by decide +kernel
theorem dX3_addChanges_58 : decode cX3_addChanges 58 = .ok (.return_, 1) := by decide +kernel
theorem dX3_add_0 : decode cX3_add 0 = .ok (.aload_n 0, 1) := by decide +kernel
theorem dX3_add_1 : decode cX3_add 1 = .ok (.getfield 69, 3) := by decide +kernel
theorem dX3_add_4 : decode cX3_add 4 = .ok (.bipush 40, 2) := by decide +kernel
theorem dX3_add_6 : decode cX3_add 6 = .ok (.if_icmp .ge 43, 3) := by decide +kernel
theorem dX3_add_9 : decode cX3_add 9 = .ok (.aload_n 0, 1) := by decide +kernel
theorem dX3_add_10 : decode cX3_add 10 = .ok (.getfield 28, 3) := by decide +kernel
theorem dX3_add_13 : decode cX3_add 13 = .ok (.aload_n 0, 1) := by decide +kernel
theorem dX3_add_14 : decode cX3_add 14 = .ok (.getfield 69, 3) := by decide +kernel
theorem dX3_add_17 : decode cX3_add 17 = .ok (.iload_n 1, 1) := by decide +kernel
theorem dX3_add_18 : decode cX3_add 18 = .ok (.castore, 1) := by decide +kernel
theorem dX3_add_19 : decode cX3_add 19 = .ok (.aload_n 0, 1) := by decide +kernel
theorem dX3_add_20 : decode cX3_add 20 = .ok (.getfield 32, 3) := by decide +kernel
theorem dX3_add_23 : decode cX3_add 23 = .ok (.aload_n 0, 1) := by decide +kernel
theorem dX3_add_24 : decode cX3_add 24 = .ok (.getfield 69, 3) := by decide +kernel
theorem dX3_add_27 : decode cX3_add 27 = .ok (.iload_n 2, 1) := by decide +kernel
theorem dX3_add_28 : decode cX3_add 28 = .ok (.iastore, 1) := by decide +kernel
theorem dX3_add_29 : decode cX3_add 29 = .ok (.aload_n 0, 1) := by decide +kernel
theorem dX3_add_30 : decode cX3_add 30 = .ok (.getfield 35, 3) := by decide +kernel
theorem dX3_add_33 : decode cX3_add 33 = .ok (.aload_n 0, 1) := by decide +kernel
theorem dX3_add_34 : decode cX3_add 34 = .ok (.getfield 69, 3) := by decide +kernel
theorem dX3_add_37 : decode cX3_add 37 = .ok (.iload_n 3, 1) := by decide +kernel
theorem dX3_add_38 : decode cX3_add 38 = .ok (.iastore, 1) := by decide +kernel
theorem dX3_add_39 : decode cX3_add 39 = .ok (.aload_n 0, 1) := by decide +kernel
theorem dX3_add_40 : decode cX3_add 40 = .ok (.dup, 1) := by decide +kernel
theorem dX3_add_41 : decode cX3_add 41 = .ok (.getfield 69, 3) := by decide +kernel
theorem dX3_add_44 : decode cX3_add 44 = .ok (.iconst 1, 1) := by decide +kernel
theorem dX3_add_45 : decode cX3_add 45 = .ok (.iadd, 1) := by decide +kernel
theorem dX3_add_46 : decode cX3_add 46 = .ok (.putfield 69, 3) := by decide +kernel
theorem dX3_add_49 : decode cX3_add 49 = .ok (.return_, 1) := by decide +kernel
set_option maxRecDepth 20000 in
theorem ggX3_recognizeMoves_X3_findInsertion : GoodIn wsX3_recognizeMoves wsX3_findInsertion := goodIn_r _ [8, 1, 2, 9, 10, 11, 12, 13, 14, 15, 16, 17, 18, 19, 20, 21, 22, 23, 24, 25, 26, 27, 28, 29, 30, 31, 32, 33, 34, 35, 36, 37, 38, 39, 40, 41, 42, 43, 44, 45] (by decide +kernel) (by decide +kernel)
set_option maxRecDepth 20000 in
theorem gX3_recognizeMoves_X3_findInsertion : GoodIn wsX3_recognizeMoves (wsV RX3 99 RX3 yX3_findInsertion wsX3_findInsertion) := goodIn_app (goodIn_of _ (by decide +kernel)) ggX3_recognizeMoves_X3_findInsertion
theorem dX3_recognizeMoves_0 : decode cX3_recognizeMoves 0 = .ok (.iconst 0, 1) := by decide +kernel
theorem dX3_recognizeMoves_1 : decode cX3_recognizeMoves 1 = .ok (.istore_n 1, 1) := by decide +kernel
theorem dX3_recognizeMoves_2 : decode cX3_recognizeMoves 2 = .ok (.iload_n 1, 1) := by decide +kernel
theorem dX3_recognizeMoves_3 : decode cX3_recognizeMoves 3 = .ok (.aload_n 0, 1) := by decide +kernel
theorem dX3_recognizeMoves_4 : decode cX3_recognizeMoves 4 = .ok (.getfield 69, 3) := by decide +kernel
theorem dX3_recognizeMoves_7 : decode cX3_recognizeMoves 7 = .ok (.if_icmp .ge 64, 3) := by decide +kernel
theorem dX3_recognizeMoves_10 : decode cX3_recognizeMoves 10 = .ok (.aload_n 0, 1) := by decide +kernel
theorem dX3_recognizeMoves_11 : decode cX3_recognizeMoves 11 = .ok (.getfield 28, 3) := by decide +kernel
theorem dX3_recognizeMoves_14 : decode cX3_recognizeMoves 14 = .ok (.iload_n 1, 1) := by decide +kernel
theorem dX3_recognizeMoves_15 : decode cX3_recognizeMoves 15 = .ok (.caload, 1) := by decide +kernel
theorem dX3_recognizeMoves_16 : decode cX3_recognizeMoves 16 = .ok (.bipush 100, 2) := by decide +kernel
theorem dX3_recognizeMoves_18 : decode cX3_recognizeMoves 18 = .ok (.if_icmp .ne 47, 3) := by decide +kernel
theorem dX3_recognizeMoves_21 : decode cX3_recognizeMoves 21 = .ok (.aload_n 0, 1) := by decide +kernel
theorem dX3_recognizeMoves_22 : decode cX3_recognizeMoves 22 = .ok (.aload_n 0, 1) := by decide +kernel
theorem dX3_recognizeMoves_23 : decode cX3_recognizeMoves 23 = .ok (.getfield 32, 3) := by decide +kernel
theorem dX3_recognizeMoves_26 : decode cX3_recognizeMoves 26 = .ok (.iload_n 1, 1) := by decide +kernel
theorem dX3_recognizeMoves_27 : decode cX3_recognizeMoves 27 = .ok (.iaload, 1) := by decide +kernel
theorem dX3_recognizeMoves_28 : decode cX3_recognizeMoves 28 = .ok (.invokevirtual 99, 3) := by decide +kernel
theorem dX3_recognizeMoves_31 : decode cX3_recognizeMoves 31 = .ok (.istore_n 2, 1) := by decide +kernel
theorem dX3_recognizeMoves_32 : decode cX3_recognizeMoves 32 = .ok (.iload_n 2, 1) := by decide +kernel
theorem dX3_recognizeMoves_33 : decode cX3_recognizeMoves 33 = .ok (.iconst (-1), 1) := by decide +kernel
theorem dX3_recognizeMoves_34 : decode cX3_recognizeMoves 34 = .ok (.if_icmp .eq 31, 3) := by decide +kernel
theorem dX3_recognizeMoves_37 : decode cX3_recognizeMoves 37 = .ok (.aload_n 0, 1) := by decide +kernel
theorem dX3_recognizeMoves_38 : decode cX3_recognizeMoves 38 = .ok (.getfield 28, 3) := by decide +kernel
theorem dX3_recognizeMoves_41 : decode cX3_recognizeMoves 41 = .ok (.iload_n 2, 1) := by decide +kernel
theorem dX3_recognizeMoves_42 : decode cX3_recognizeMoves 42 = .ok (.bipush 109, 2) := by decide +kernel
theorem dX3_recognizeMoves_44 : decode cX3_recognizeMoves 44 = .ok (.castore, 1) := by decide +kernel
theorem dX3_recognizeMoves_45 : decode cX3_recognizeMoves 45 = .ok (.aload_n 0, 1) := by decide +kernel
theorem dX3_recognizeMoves_46 : decode cX3_recognizeMoves 46 = .ok (.getfield 32, 3) := by decide +kernel
theorem dX3_recognizeMoves_49 : decode cX3_recognizeMoves 49 = .ok (.iload_n 2, 1) := by decide +kernel
theorem dX3_recognizeMoves_50 : decode cX3_recognizeMoves 50 = .ok (.aload_n 0, 1) := by decide +kernel
theorem dX3_recognizeMoves_51 : decode cX3_recognizeMoves 51 = .ok (.getfield 32, 3) := by decide +kernel
theorem dX3_recognizeMoves_54 : decode cX3_recognizeMoves 54 = .ok (.iload_n 1, 1) := by decide +kernel
theorem dX3_recognizeMoves_55 : decode cX3_recognizeMoves 55 = .ok (.iaload, 1) := by decide +kernel
theorem dX3_recognizeMoves_56 : decode cX3_recognizeMoves 56 = .ok (.iastore, 1) := by decide +kernel
theorem dX3_recognizeMoves_57 : decode cX3_recognizeMoves 57 = .ok (.aload_n 0, 1) := by decide +kernel
theorem dX3_recognizeMoves_58 : decode cX3_recognizeMoves 58 = .ok (.getfield 28, 3) := by decide +kernel
theorem dX3_recognizeMoves_61 : decode cX3_recognizeMoves 61 = .ok (.iload_n 1, 1) := by decide +kernel
theorem dX3_recognizeMoves_62 : decode cX3_recognizeMoves 62 = .ok (.bipush 32, 2) := by decide +kernel
theorem dX3_recognizeMoves_64 : decode cX3_recognizeMoves 64 = .ok (.castore, 1) := by decide +kernel
theorem dX3_recognizeMoves_65 : decode cX3_recognizeMoves 65 = .ok (.iinc 1 1, 3) := by decide +kernel
theorem dX3_recognizeMoves_68 : decode cX3_recognizeMoves 68 = .ok (.goto (-66), 3) := by decide +kernel
theorem dX3_recognizeMoves_71 : decode cX3_recognizeMoves 71 = .ok (.return_, 1) := by decide +kernel
set_option maxRecDepth 20000 in
theorem ggX3_findInsertion_X5_equalsAt : GoodIn wsX3_findInsertion wsX5_equalsAt := goodIn_r _ [10, 11, 12, 13, 14, 15, 16, 9, 17, 18, 19, 20, 21, 22, 23, 33, 34, 35, 36, 37, 38, 39] (by decide +kernel) (by decide +kernel)
set_option maxRecDepth 20000 in
theorem gX3_findInsertion_X5_equalsAt : GoodIn wsX3_findInsertion (wsV RX3 102 RX5 yX5_equalsAt wsX5_equalsAt) := goodIn_app (goodIn_of _ (by decide +kernel)) ggX3_findInsertion_X5_equalsAt
theorem dX3_findInsertion_0 : decode cX3_findInsertion 0 = .ok (.iconst 0, 1) := by decide +kernel
theorem dX3_findInsertion_1 : decode cX3_findInsertion 1 = .ok (.istore_n 2, 1) := by decide +kernel
theorem dX3_findInsertion_2 : decode cX3_findInsertion 2 = .ok (.iload_n 2, 1) := by decide +kernel
theorem dX3_findInsertion_3 : decode cX3_findInsertion 3 = .ok (.aload_n 0, 1) := by decide +kernel
theorem dX3_findInsertion_4 : decode cX3_findInsertion 4 = .ok (.getfield 69, 3) := by decide +kernel
theorem dX3_findInsertion_7 : decode cX3_findInsertion 7 = .ok (.if_icmp .ge 43, 3) := by decide +kernel
theorem dX3_findInsertion_10 : decode cX3_findInsertion 10 = .ok (.aload_n 0, 1) := by decide +kernel
theorem dX3_findInsertion_11 : decode cX3_findInsertion 11 = .ok (.getfield 28, 3) := by decide +kernel
theorem dX3_findInsertion_14 : decode cX3_findInsertion 14 = .ok (.iload_n 2, 1) := by decide +kernel
theorem dX3_findInsertion_15 : decode cX3_findInsertion 15 = .ok (.caload, 1) := by decide +kernel
theorem dX3_findInsertion_16 : decode cX3_findInsertion 16 = .ok (.bipush 105, 2) := by decide +kernel
theorem dX3_findInsertion_18 : decode cX3_findInsertion 18 = .ok (.if_icmp .ne 26, 3) := by decide +kernel
theorem dX3_findInsertion_21 : decode cX3_findInsertion 21 = .ok (.aload_n 0, 1) := by decide +kernel
theorem dX3_findInsertion_22 : decode cX3_findInsertion 22 = .ok (.getfield 12, 3) := by decide +kernel
theorem dX3_findInsertion_25 : decode cX3_findInsertion 25 = .ok (.iload_n 1, 1) := by decide +kernel
theorem dX3_findInsertion_26 : decode cX3_findInsertion 26 = .ok (.aload_n 0, 1) := by decide +kernel
theorem dX3_findInsertion_27 : decode cX3_findInsertion 27 = .ok (.getfield 18, 3) := by decide +kernel
theorem dX3_findInsertion_30 : decode cX3_findInsertion 30 = .ok (.aload_n 0, 1) := by decide +kernel
theorem dX3_findInsertion_31 : decode cX3_findInsertion 31 = .ok (.getfield 35, 3) := by decide +kernel
theorem dX3_findInsertion_34 : decode cX3_findInsertion 34 = .ok (.iload_n 2, 1) := by decide +kernel
theorem dX3_findInsertion_35 : decode cX3_findInsertion 35 = .ok (.iaload, 1) := by decide +kernel
theorem dX3_findInsertion_36 : decode cX3_findInsertion 36 = .ok (.invokevirtual 102, 3) := by decide +kernel
theorem dX3_findInsertion_39 : decode cX3_findInsertion 39 = .ok (.ifCond .eq 5, 3) := by decide +kernel
theorem dX3_findInsertion_42 : decode cX3_findInsertion 42 = .ok (.iload_n 2, 1) := by decide +kernel
theorem dX3_findInsertion_43 : decode cX3_findInsertion 43 = .ok (.ireturn, 1) := by decide +kernel
theorem dX3_findInsertion_44 : decode cX3_findInsertion 44 = .ok (.iinc 2 1, 3) := by decide +kernel
theorem dX3_findInsertion_47 : decode cX3_findInsertion 47 = .ok (.goto (-45), 3) := by decide +kernel
theorem dX3_findInsertion_50 : decode cX3_findInsertion 50 = .ok (.iconst (-1), 1) := by decide +kernel
theorem dX3_findInsertion_51 : decode cX3_findInsertion 51 = .ok (.ireturn, 1) := by decide +kernel
set_option maxRecDepth 20000 in
theorem ggX3_removeDropped_X3_add : GoodIn wsX3_removeDropped wsX3_add := goodIn_r _ [9, 1, 2, 3, 4, 10, 11, 12, 13, 14, 15, 16, 17, 18] (by decide +kernel) (by decide +kernel)
set_option maxRecDepth 20000 in
theorem gX3_removeDropped_X3_add : GoodIn wsX3_removeDropped (wsV RX3 82 RX3 yX3_add wsX3_add) := goodIn_app (goodIn_of _ (by decide +kernel)) ggX3_removeDropped_X3_add
theorem dX3_removeDropped_0 : decode cX3_removeDropped 0 = .ok (.aload_n 0, 1) := by decide +kernel
theorem dX3_removeDropped_1 : decode cX3_removeDropped 1 = .ok (.getfield 69, 3) := by decide +kernel
theorem dX3_removeDropped_4 : decode cX3_removeDropped 4 = .ok (.istore_n 1, 1) := by decide +kernel
theorem dX3_removeDropped_5 : decode cX3_removeDropped 5 = .ok (.aload_n 0, 1) := by decide +kernel
theorem dX3_removeDropped_6 : decode cX3_removeDropped 6 = .ok (.iconst 0, 1) := by decide +kernel
theorem dX3_removeDropped_7 : decode cX3_removeDropped 7 = .ok (.putfield 69, 3) := by decide +kernel
theorem dX3_removeDropped_10 : decode cX3_removeDropped 10 = .ok (.iconst 0, 1) := by decide +kernel
theorem dX3_removeDropped_11 : decode cX3_removeDropped 11 = .ok (.istore_n 2, 1) := by decide +kernel
theorem dX3_removeDropped_12 : decode cX3_removeDropped 12 = .ok (.iload_n 2, 1) := by decide +kernel
theorem dX3_removeDropped_13 : decode cX3_removeDropped 13 = .ok (.iload_n 1, 1) := by decide +kernel
theorem dX3_removeDropped_14 : decode cX3_removeDropped 14 = .ok (.if_icmp .ge 42, 3) := by decide +kernel
theorem dX3_removeDropped_17 : decode cX3_removeDropped 17 = .ok (.aload_n 0, 1) := by decide +kernel
theorem dX3_removeDropped_18 : decode cX3_removeDropped 18 = .ok (.getfield 28, 3) := by decide +kernel
theorem dX3_removeDropped_21 : decode cX3_removeDropped 21 = .ok (.iload_n 2, 1) := by decide +kernel
theorem dX3_removeDropped_22 : decode cX3_removeDropped 22 = .ok (.caload, 1) := by decide +kernel
theorem dX3_removeDropped_23 : decode cX3_removeDropped 23 = .ok (.bipush 32, 2) := by decide +kernel
theorem dX3_removeDropped_25 : decode cX3_removeDropped 25 = .ok (.if_icmp .eq 25, 3) := by decide +kernel
theorem dX3_removeDropped_28 : decode cX3_removeDropped 28 = .ok (.aload_n 0, 1) := by decide +kernel
theorem dX3_removeDropped_29 : decode cX3_removeDropped 29 = .ok (.aload_n 0, 1) := by decide +kernel
theorem dX3_removeDropped_30 : decode cX3_removeDropped 30 = .ok (.getfield 28, 3) := by decide +kernel
theorem dX3_removeDropped_33 : decode cX3_removeDropped 33 = .ok (.iload_n 2, 1) := by decide +kernel
theorem dX3_removeDropped_34 : decode cX3_removeDropped 34 = .ok (.caload, 1) := by decide +kernel
theorem dX3_removeDropped_35 : decode cX3_removeDropped 35 = .ok (.aload_n 0, 1) := by decide +kernel
theorem dX3_removeDropped_36 : decode cX3_removeDropped 36 = .ok (.getfield 32, 3) := by decide +kernel
theorem dX3_removeDropped_39 : decode cX3_removeDropped 39 = .ok (.iload_n 2, 1) := by decide +kernel
theorem dX3_removeDropped_40 : decode cX3_removeDropped 40 = .ok (.iaload, 1) := by decide +kernel
theorem dX3_removeDropped_41 : decode cX3_removeDropped 41 = .ok (.aload_n 0, 1) := by decide +kernel
theorem dX3_removeDropped_42 : decode cX3_removeDropped 42 = .ok (.getfield 35, 3) := by decide +kernel
theorem dX3_removeDropped_45 : decode cX3_removeDropped 45 = .ok (.iload_n 2, 1) := by decide +kernel
theorem dX3_removeDropped_46 : decode cX3_removeDropped 46 = .ok (.iaload, 1) := by decide +kernel
theorem dX3_removeDropped_47 : decode cX3_removeDropped 47 = .ok (.invokevirtual 82, 3) := by decide +kernel
theorem dX3_removeDropped_50 : decode cX3_removeDropped 50 = .ok (.iinc 2 1, 3) := by decide +kernel
theorem dX3_removeDropped_53 : decode cX3_removeDropped 53 = .ok (.goto (-41), 3) := by decide +kernel
theorem dX3_removeDropped_56 : decode cX3_removeDropped 56 = .ok (.return_, 1) := by decide +kernel
theorem dX3_shownNode_0 : decode cX3_shownNode 0 = .ok (.aload_n 0, 1) := by decide +kernel
theorem dX3_shownNode_1 : decode cX3_shownNode 1 = .ok (.getfield 28, 3) := by decide +kernel
theorem dX3_shownNode_4 : decode cX3_shownNode 4 = .ok (.iload_n 1, 1) := by decide +kernel
theorem dX3_shownNode_5 : decode cX3_shownNode 5 = .ok (.caload, 1) := by decide +kernel
theorem dX3_shownNode_6 : decode cX3_shownNode 6 = .ok (.bipush 105, 2) := by decide +kernel
theorem dX3_shownNode_8 : decode cX3_shownNode 8 = .ok (.if_icmp .ne 12, 3) := by decide +kernel
theorem dX3_shownNode_11 : decode cX3_shownNode 11 = .ok (.aload_n 0, 1) := by decide +kernel
theorem dX3_shownNode_12 : decode cX3_shownNode 12 = .ok (.getfield 35, 3) := by decide +kernel
theorem dX3_shownNode_15 : decode cX3_shownNode 15 = .ok (.iload_n 1, 1) := by decide +kernel
theorem dX3_shownNode_16 : decode cX3_shownNode 16 = .ok (.iaload, 1) := by decide +kernel
theorem dX3_shownNode_17 : decode cX3_shownNode 17 = .ok (.goto 9, 3) := by decide +kernel
theorem dX3_shownNode_20 : decode cX3_shownNode 20 = .ok (.aload_n 0, 1) := by decide +kernel
theorem dX3_shownNode_21 : decode cX3_shownNode 21 = .ok (.getfield 32, 3) := by decide +kernel
theorem dX3_shownNode_24 : decode cX3_shownNode 24 = .ok (.iload_n 1, 1) := by decide +kernel
theorem dX3_shownNode_25 : decode cX3_shownNode 25 = .ok (.iaload, 1) := by decide +kernel
theorem dX3_shownNode_26 : decode cX3_shownNode 26 = .ok (.ireturn, 1) := by decide +kernel
theorem dX3_countMoves_0 : decode cX3_countMoves 0 = .ok (.iconst 0, 1) := by decide +kernel
theorem dX3_countMoves_1 : decode cX3_countMoves 1 = .ok (.istore_n 1, 1) := by decide +kernel
theorem dX3_countMoves_2 : decode cX3_countMoves 2 = .ok (.iconst 0, 1) := by decide +kernel
theorem dX3_countMoves_3 : decode cX3_countMoves 3 = .ok (.istore_n 2, 1) := by decide +kernel
theorem dX3_countMoves_4 : decode cX3_countMoves 4 = .ok (.iload_n 2, 1) := by decide +kernel
theorem dX3_countMoves_5 : decode cX3_countMoves 5 = .ok (.aload_n 0, 1) := by decide +kernel
theorem dX3_countMoves_6 : decode cX3_countMoves 6 = .ok (.getfield 69, 3) := by decide +kernel
theorem dX3_countMoves_9 : decode cX3_countMoves 9 = .ok (.if_icmp .ge 23, 3) := by decide +kernel
theorem dX3_countMoves_12 : decode cX3_countMoves 12 = .ok (.aload_n 0, 1) := by decide +kernel
theorem dX3_countMoves_13 : decode cX3_countMoves 13 = .ok (.getfield 28, 3) := by decide +kernel
theorem dX3_countMoves_16 : decode cX3_countMoves 16 = .ok (.iload_n 2, 1) := by decide +kernel
theorem dX3_countMoves_17 : decode cX3_countMoves 17 = .ok (.caload, 1) := by decide +kernel
theorem dX3_countMoves_18 : decode cX3_countMoves 18 = .ok (.bipush 109, 2) := by decide +kernel
theorem dX3_countMoves_20 : decode cX3_countMoves 20 = .ok (.if_icmp .ne 6, 3) := by decide +kernel
theorem dX3_countMoves_23 : decode cX3_countMoves 23 = .ok (.iinc 1 1, 3) := by decide +kernel
theorem dX3_countMoves_26 : decode cX3_countMoves 26 = .ok (.iinc 2 1, 3) := by decide +kernel
theorem dX3_countMoves_29 : decode cX3_countMoves 29 = .ok (.goto (-25), 3) := by decide +kernel
theorem dX3_countMoves_32 : decode cX3_countMoves 32 = .ok (.iload_n 1, 1) := by decide +kernel
theorem dX3_countMoves_33 : decode cX3_countMoves 33 = .ok (.ireturn, 1) := by decide +kernel
set_option maxRecDepth 20000 in
theorem ggX3_totalCost_X3_costOf : GoodIn wsX3_totalCost wsX3_costOf := goodIn_r _ [6, 7, 8, 9, 10, 11, 12, 5, 13, 14, 15, 16, 17, 18, 19, 20, 21, 22, 23, 24, 25, 26, 27, 28, 29, 30, 31, 32, 33, 34, 35, 36, 37, 38] (by decide +kernel) (by decide +kernel)
set_option maxRecDepth 20000 in
theorem gX3_totalCost_X3_costOf : GoodIn wsX3_totalCost (wsV RX3 106 RX3 yX3_costOf wsX3_costOf) := goodIn_app (goodIn_of _ (by decide +kernel)) ggX3_totalCost_X3_costOf
theorem dX3_totalCost_0 : decode cX3_totalCost 0 = .ok (.iconst 0, 1) := by decide +kernel
theorem dX3_totalCost_1 : decode cX3_totalCost 1 = .ok (.istore_n 1, 1) := by decide +kernel
theorem dX3_totalCost_2 : decode cX3_totalCost 2 = .ok (.iconst 0, 1) := by decide +kernel
theorem dX3_totalCost_3 : decode cX3_totalCost 3 = .ok (.istore_n 2, 1) := by decide +kernel
theorem dX3_totalCost_4 : decode cX3_totalCost 4 = .ok (.iload_n 2, 1) := by decide +kernel
theorem dX3_totalCost_5 : decode cX3_totalCost 5 = .ok (.aload_n 0, 1) := by decide +kernel
theorem dX3_totalCost_6 : decode cX3_totalCost 6 = .ok (.getfield 69, 3) := by decide +kernel
theorem dX3_totalCost_9 : decode cX3_totalCost 9 = .ok (.if_icmp .ge 17, 3) := by decide +kernel
theorem dX3_totalCost_12 : decode cX3_totalCost 12 = .ok (.iload_n 1, 1) := by decide +kernel
theorem dX3_totalCost_13 : decode cX3_totalCost 13 = .ok (.aload_n 0, 1) := by decide +kernel
theorem dX3_totalCost_14 : decode cX3_totalCost 14 = .ok (.iload_n 2, 1) := by decide +kernel
theorem dX3_totalCost_15 : decode cX3_totalCost 15 = .ok (.invokevirtual 106, 3) := by decide +kernel
theorem dX3_totalCost_18 : decode cX3_totalCost 18 = .ok (.iadd, 1) := by decide +kernel
theorem dX3_totalCost_19 : decode cX3_totalCost 19 = .ok (.istore_n 1, 1) := by decide +kernel
theorem dX3_totalCost_20 : decode cX3_totalCost 20 = .ok (.iinc 2 1, 3) := by decide +kernel
theorem dX3_totalCost_23 : decode cX3_totalCost 23 = .ok (.goto (-19), 3) := by decide +kernel
theorem dX3_totalCost_26 : decode cX3_totalCost 26 = .ok (.iload_n 1, 1) := by decide +kernel
theorem dX3_totalCost_27 : decode cX3_totalCost 27 = .ok (.ireturn, 1) := by decide +kernel
set_option maxRecDepth 20000 in
theorem ggX3_costOf_X3_shownNode : GoodIn wsX3_costOf wsX3_shownNode := goodIn_r _ [8, 1, 9, 10, 18, 19, 20, 21, 22, 23, 24, 25, 26] (by decide +kernel) (by decide +kernel)
set_option maxRecDepth 20000 in
theorem gX3_costOf_X3_shownNode : GoodIn wsX3_costOf (wsV RX3 109 RX3 yX3_shownNode wsX3_shownNode) := goodIn_app (goodIn_of _ (by decide +kernel)) ggX3_costOf_X3_shownNode
set_option maxRecDepth 20000 in
theorem ggX3_costOf_X5_widthOf : GoodIn wsX3_costOf wsX5_widthOf := goodIn_r _ [15, 16, 17, 27, 28, 29, 30, 31, 32, 33] (by decide +kernel) (by decide +kernel)
set_option maxRecDepth 20000 in
theorem gX3_costOf_X5_widthOf : GoodIn wsX3_costOf (wsV RX3 112 RX5 yX5_widthOf wsX5_widthOf) := goodIn_app (goodIn_of _ (by decide +kernel)) ggX3_costOf_X5_widthOf
theorem dX3_costOf_0 : decode cX3_costOf 0 = .ok (.aload_n 0, 1) := by decide +kernel
theorem dX3_costOf_1 : decode cX3_costOf 1 = .ok (.getfield 28, 3) := by decide +kernel
theorem dX3_costOf_4 : decode cX3_costOf 4 = .ok (.iload_n 1, 1) := by decide +kernel
theorem dX3_costOf_5 : decode cX3_costOf 5 = .ok (.caload, 1) := by decide +kernel
theorem dX3_costOf_6 : decode cX3_costOf 6 = .ok (.istore_n 2, 1) := by decide +kernel
theorem dX3_costOf_7 : decode cX3_costOf 7 = .ok (.iload_n 2, 1) := by decide +kernel
theorem dX3_costOf_8 : decode cX3_costOf 8 = .ok (.bipush 108, 2) := by decide +kernel
theorem dX3_costOf_10 : decode cX3_costOf 10 = .ok (.if_icmp .ne 5, 3) := by decide +kernel
theorem dX3_costOf_13 : decode cX3_costOf 13 = .ok (.iconst 3, 1) := by decide +kernel
theorem dX3_costOf_14 : decode cX3_costOf 14 = .ok (.ireturn, 1) := by decide +kernel
theorem dX3_costOf_15 : decode cX3_costOf 15 = .ok (.iload_n 2, 1) := by decide +kernel
theorem dX3_costOf_16 : decode cX3_costOf 16 = .ok (.bipush 118, 2) := by decide +kernel
theorem dX3_costOf_18 : decode cX3_costOf 18 = .ok (.if_icmp .ne 5, 3) := by decide +kernel
theorem dX3_costOf_21 : decode cX3_costOf 21 = .ok (.iconst 1, 1) := by decide +kernel
theorem dX3_costOf_22 : decode cX3_costOf 22 = .ok (.ireturn, 1) := by decide +kernel
theorem dX3_costOf_23 : decode cX3_costOf 23 = .ok (.iload_n 2, 1) := by decide +kernel
theorem dX3_costOf_24 : decode cX3_costOf 24 = .ok (.bipush 109, 2) := by decide +kernel
theorem dX3_costOf_26 : decode cX3_costOf 26 = .ok (.if_icmp .ne 5, 3) := by decide +kernel
theorem dX3_costOf_29 : decode cX3_costOf 29 = .ok (.iconst 1, 1) := by decide +kernel
theorem dX3_costOf_30 : decode cX3_costOf 30 = .ok (.ireturn, 1) := by decide +kernel
theorem dX3_costOf_31 : decode cX3_costOf 31 = .ok (.iload_n 2, 1) := by decide +kernel
theorem dX3_costOf_32 : decode cX3_costOf 32 = .ok (.bipush 100, 2) := by decide +kernel
theorem dX3_costOf_34 : decode cX3_costOf 34 = .ok (.if_icmp .ne 10, 3) := by decide +kernel
theorem dX3_costOf_37 : decode cX3_costOf 37 = .ok (.aload_n 0, 1) := by decide +kernel
theorem dX3_costOf_38 : decode cX3_costOf 38 = .ok (.getfield 12, 3) := by decide +kernel
theorem dX3_costOf_41 : decode cX3_costOf 41 = .ok (.goto 7, 3) := by decide +kernel
theorem dX3_costOf_44 : decode cX3_costOf 44 = .ok (.aload_n 0, 1) := by decide +kernel
theorem dX3_costOf_45 : decode cX3_costOf 45 = .ok (.getfield 18, 3) := by decide +kernel
theorem dX3_costOf_48 : decode cX3_costOf 48 = .ok (.astore_n 3, 1) := by decide +kernel
theorem dX3_costOf_49 : decode cX3_costOf 49 = .ok (.iconst 2, 1) := by decide +kernel
theorem dX3_costOf_50 : decode cX3_costOf 50 = .ok (.aload_n 3, 1) := by decide +kernel
theorem dX3_costOf_51 : decode cX3_costOf 51 = .ok (.aload_n 0, 1) := by decide +kernel
theorem dX3_costOf_52 : decode cX3_costOf 52 = .ok (.iload_n 1, 1) := by decide +kernel
theorem dX3_costOf_53 : decode cX3_costOf 53 = .ok (.invokevirtual 109, 3) := by decide +kernel
theorem dX3_costOf_56 : decode cX3_costOf 56 = .ok (.invokevirtual 112, 3) := by decide +kernel
theorem dX3_costOf_59 : decode cX3_costOf 59 = .ok (.imul, 1) := by decide +kernel
theorem dX3_costOf_60 : decode cX3_costOf 60 = .ok (.ireturn, 1) := by decide +kernel
set_option maxRecDepth 20000 in
theorem ggX3_isSound_X5_isSound : GoodIn wsX3_isSound wsX5_isSound := goodIn_r _ [9, 10, 11, 12, 13, 14, 15, 16, 17, 18, 19, 20, 21, 22, 23, 24, 8, 25, 26, 27, 28, 29, 51, 52, 53, 54, 55, 56, 57] (by decide +kernel) (by decide +kernel)
set_option maxRecDepth 20000 in
theorem gX3_isSound_X5_isSound : GoodIn wsX3_isSound (wsV RX3 115 RX5 yX5_isSound wsX5_isSound) := goodIn_app (goodIn_of _ (by decide +kernel)) ggX3_isSound_X5_isSound
set_option maxRecDepth 20000 in
theorem ggX3_isSound_X3_hasSoundPairs : GoodIn wsX3_isSound wsX3_hasSoundPairs := goodIn_r _ [34, 3, 35, 36, 4, 37, 38, 39, 40, 8, 41, 10, 42, 43, 44, 45, 46, 47, 48, 49, 50, 51, 52, 53, 54, 55, 56, 57] (by decide +kernel) (by decide +kernel)
set_option maxRecDepth 20000 in
theorem gX3_isSound_X3_hasSoundPairs : GoodIn wsX3_isSound (wsV RX3 119 RX3 yX3_hasSoundPairs wsX3_hasSoundPairs) := goodIn_app (goodIn_of _ (by decide +kernel)) ggX3_isSound_X3_hasSoundPairs
theorem dX3_isSound_0 : decode cX3_isSound 0 = .ok (.aload_n 0, 1) := by decide +kernel
theorem dX3_isSound_1 : decode cX3_isSound 1 = .ok (.getfield 65, 3) := by decide +kernel
theorem dX3_isSound_4 : decode cX3_isSound 4 = .ok (.ifCond .ne 16, 3) := by decide +kernel
theorem dX3_isSound_7 : decode cX3_isSound 7 = .ok (.aload_n 0, 1) := by decide +kernel
theorem dX3_isSound_8 : decode cX3_isSound 8 = .ok (.getfield 69, 3) := by decide +kernel
theorem dX3_isSound_11 : decode cX3_isSound 11 = .ok (.ifCond .ne 7, 3) := by decide +kernel
theorem dX3_isSound_14 : decode cX3_isSound 14 = .ok (.iconst 1, 1) := by decide +kernel
theorem dX3_isSound_15 : decode cX3_isSound 15 = .ok (.goto 4, 3) := by decide +kernel
theorem dX3_isSound_18 : decode cX3_isSound 18 = .ok (.iconst 0, 1) := by decide +kernel
theorem dX3_isSound_19 : decode cX3_isSound 19 = .ok (.ireturn, 1) := by decide +kernel
theorem dX3_isSound_20 : decode cX3_isSound 20 = .ok (.aload_n 0, 1) := by decide +kernel
theorem dX3_isSound_21 : decode cX3_isSound 21 = .ok (.getfield 12, 3) := by decide +kernel
theorem dX3_isSound_24 : decode cX3_isSound 24 = .ok (.invokevirtual 115, 3) := by decide +kernel
theorem dX3_isSound_27 : decode cX3_isSound 27 = .ok (.ifCond .eq 40, 3) := by decide +kernel
theorem dX3_isSound_30 : decode cX3_isSound 30 = .ok (.aload_n 0, 1) := by decide +kernel
theorem dX3_isSound_31 : decode cX3_isSound 31 = .ok (.getfield 18, 3) := by decide +kernel
theorem dX3_isSound_34 : decode cX3_isSound 34 = .ok (.invokevirtual 115, 3) := by decide +kernel
theorem dX3_isSound_37 : decode cX3_isSound 37 = .ok (.ifCond .eq 30, 3) := by decide +kernel
theorem dX3_isSound_40 : decode cX3_isSound 40 = .ok (.aload_n 0, 1) := by decide +kernel
theorem dX3_isSound_41 : decode cX3_isSound 41 = .ok (.getfield 69, 3) := by decide +kernel
theorem dX3_isSound_44 : decode cX3_isSound 44 = .ok (.ifCond .lt 23, 3) := by decide +kernel
theorem dX3_isSound_47 : decode cX3_isSound 47 = .ok (.aload_n 0, 1) := by decide +kernel
theorem dX3_isSound_48 : decode cX3_isSound 48 = .ok (.getfield 69, 3) := by decide +kernel
theorem dX3_isSound_51 : decode cX3_isSound 51 = .ok (.bipush 40, 2) := by decide +kernel
theorem dX3_isSound_53 : decode cX3_isSound 53 = .ok (.if_icmp .gt 14, 3) := by decide +kernel
theorem dX3_isSound_56 : decode cX3_isSound 56 = .ok (.aload_n 0, 1) := by decide +kernel
theorem dX3_isSound_57 : decode cX3_isSound 57 = .ok (.invokevirtual 119, 3) := by decide +kernel
theorem dX3_isSound_60 : decode cX3_isSound 60 = .ok (.ifCond .eq 7, 3) := by decide +kernel
theorem dX3_isSound_63 : decode cX3_isSound 63 = .ok (.iconst 1, 1) := by decide +kernel
theorem dX3_isSound_64 : decode cX3_isSound 64 = .ok (.goto 4, 3) := by decide +kernel
theorem dX3_isSound_67 : decode cX3_isSound 67 = .ok (.iconst 0, 1) := by decide +kernel
theorem dX3_isSound_68 : decode cX3_isSound 68 = .ok (.ireturn, 1) := by decide +kernel
set_option maxRecDepth 20000 in
theorem ggX3_hasSoundPairs_X5_holds : GoodIn wsX3_hasSoundPairs wsX5_holds := goodIn_r _ [10, 11, 21, 22, 23, 24, 25, 26, 27] (by decide +kernel) (by decide +kernel)
set_option maxRecDepth 20000 in
theorem gX3_hasSoundPairs_X5_holds : GoodIn wsX3_hasSoundPairs (wsV RX3 122 RX5 yX5_holds wsX5_holds) := goodIn_app (goodIn_of _ (by decide +kernel)) ggX3_hasSoundPairs_X5_holds
theorem dX3_hasSoundPairs_0 : decode cX3_hasSoundPairs 0 = .ok (.iconst 0, 1) := by decide +kernel
theorem dX3_hasSoundPairs_1 : decode cX3_hasSoundPairs 1 = .ok (.istore_n 1, 1) := by decide +kernel
theorem dX3_hasSoundPairs_2 : decode cX3_hasSoundPairs 2 = .ok (.iload_n 1, 1) := by decide +kernel
theorem dX3_hasSoundPairs_3 : decode cX3_hasSoundPairs 3 = .ok (.aload_n 0, 1) := by decide +kernel
theorem dX3_hasSoundPairs_4 : decode cX3_hasSoundPairs 4 = .ok (.getfield 12, 3) := by decide +kernel
theorem dX3_hasSoundPairs_7 : decode cX3_hasSoundPairs 7 = .ok (.getfield 73, 3) := by decide +kernel
theorem dX3_hasSoundPairs_10 : decode cX3_hasSoundPairs 10 = .ok (.if_icmp .ge 44, 3) := by decide +kernel
theorem dX3_hasSoundPairs_13 : decode cX3_hasSoundPairs 13 = .ok (.aload_n 0, 1) := by decide +kernel
theorem dX3_hasSoundPairs_14 : decode cX3_hasSoundPairs 14 = .ok (.getfield 21, 3) := by decide +kernel
theorem dX3_hasSoundPairs_17 : decode cX3_hasSoundPairs 17 = .ok (.iload_n 1, 1) := by decide +kernel
theorem dX3_hasSoundPairs_18 : decode cX3_hasSoundPairs 18 = .ok (.iaload, 1) := by decide +kernel
theorem dX3_hasSoundPairs_19 : decode cX3_hasSoundPairs 19 = .ok (.istore_n 2, 1) := by decide +kernel
theorem dX3_hasSoundPairs_20 : decode cX3_hasSoundPairs 20 = .ok (.iload_n 2, 1) := by decide +kernel
theorem dX3_hasSoundPairs_21 : decode cX3_hasSoundPairs 21 = .ok (.iconst (-1), 1) := by decide +kernel
theorem dX3_hasSoundPairs_22 : decode cX3_hasSoundPairs 22 = .ok (.if_icmp .eq 26, 3) := by decide +kernel
theorem dX3_hasSoundPairs_25 : decode cX3_hasSoundPairs 25 = .ok (.aload_n 0, 1) := by decide +kernel
theorem dX3_hasSoundPairs_26 : decode cX3_hasSoundPairs 26 = .ok (.getfield 18, 3) := by decide +kernel
theorem dX3_hasSoundPairs_29 : decode cX3_hasSoundPairs 29 = .ok (.iload_n 2, 1) := by decide +kernel
theorem dX3_hasSoundPairs_30 : decode cX3_hasSoundPairs 30 = .ok (.invokevirtual 122, 3) := by decide +kernel
theorem dX3_hasSoundPairs_33 : decode cX3_hasSoundPairs 33 = .ok (.ifCond .eq 13, 3) := by decide +kernel
theorem dX3_hasSoundPairs_36 : decode cX3_hasSoundPairs 36 = .ok (.aload_n 0, 1) := by decide +kernel
theorem dX3_hasSoundPairs_37 : decode cX3_hasSoundPairs 37 = .ok (.getfield 25, 3) := by decide +kernel
theorem dX3_hasSoundPairs_40 : decode cX3_hasSoundPairs 40 = .ok (.iload_n 2, 1) := by decide +kernel
theorem dX3_hasSoundPairs_41 : decode cX3_hasSoundPairs 41 = .ok (.iaload, 1) := by decide +kernel
theorem dX3_hasSoundPairs_42 : decode cX3_hasSoundPairs 42 = .ok (.iload_n 1, 1) := by decide +kernel
theorem dX3_hasSoundPairs_43 : decode cX3_hasSoundPairs 43 = .ok (.if_icmp .eq 5, 3) := by decide +kernel
theorem dX3_hasSoundPairs_46 : decode cX3_hasSoundPairs 46 = .ok (.iconst 0, 1) := by decide +kernel
theorem dX3_hasSoundPairs_47 : decode cX3_hasSoundPairs 47 = .ok (.ireturn, 1) := by decide +kernel
theorem dX3_hasSoundPairs_48 : decode cX3_hasSoundPairs 48 = .ok (.iinc 1 1, 3) := by decide +kernel
theorem dX3_hasSoundPairs_51 : decode cX3_hasSoundPairs 51 = .ok (.goto (-49), 3) := by decide +kernel
theorem dX3_hasSoundPairs_54 : decode cX3_hasSoundPairs 54 = .ok (.aload_n 0, 1) := by decide +kernel
theorem dX3_hasSoundPairs_55 : decode cX3_hasSoundPairs 55 = .ok (.getfield 21, 3) := by decide +kernel
theorem dX3_hasSoundPairs_58 : decode cX3_hasSoundPairs 58 = .ok (.iconst 0, 1) := by decide +kernel
theorem dX3_hasSoundPairs_59 : decode cX3_hasSoundPairs 59 = .ok (.iaload, 1) := by decide +kernel
theorem dX3_hasSoundPairs_60 : decode cX3_hasSoundPairs 60 = .ok (.ifCond .ne 7, 3) := by decide +kernel
theorem dX3_hasSoundPairs_63 : decode cX3_hasSoundPairs 63 = .ok (.iconst 1, 1) := by decide +kernel
theorem dX3_hasSoundPairs_64 : decode cX3_hasSoundPairs 64 = .ok (.goto 4, 3) := by decide +kernel
theorem dX3_hasSoundPairs_67 : decode cX3_hasSoundPairs 67 = .ok (.iconst 0, 1) := by decide +kernel
theorem dX3_hasSoundPairs_68 : decode cX3_hasSoundPairs 68 = .ok (.ireturn, 1) := by decide +kernel
set_option maxRecDepth 20000 in
theorem ggX4_init_X5_init : GoodIn wsX4_init wsX5_init := goodIn_r _ [12, 13, 2, 3, 4, 14, 15, 16, 17, 18, 19, 20, 21, 26, 27, 28, 29, 30, 31, 32] (by decide +kernel) (by decide +kernel)
set_option maxRecDepth 20000 in
theorem gX4_init_X5_init : GoodIn wsX4_init (wsX5_init) := ggX4_init_X5_init
theorem dX4_init_0 : decode cX4_init 0 = .ok (.aload_n 0, 1) := by decide +kernel
theorem dX4_init_1 : decode cX4_init 1 = .ok (.invokespecial 3, 3) := by decide +kernel
theorem dX4_init_4 : decode cX4_init 4 = .ok (.aload_n 0, 1) := by decide +kernel
theorem dX4_init_5 : decode cX4_init 5 = .ok (.bipush 80, 2) := by decide +kernel
theorem dX4_init_7 : decode cX4_init 7 = .ok (.newarray .char, 2) := by decide +kernel
theorem dX4_init_9 : decode cX4_init 9 = .ok (.putfield 9, 3) := by decide +kernel
theorem dX4_init_12 : decode cX4_init 12 = .ok (.aload_n 0, 1) := by decide +kernel
theorem dX4_init_13 : decode cX4_init 13 = .ok (.new 15, 3) := by decide +kernel
theorem dX4_init_16 : decode cX4_init 16 = .ok (.dup, 1) := by decide +kernel
theorem dX4_init_17 : decode cX4_init 17 = .ok (.invokespecial 17, 3) := by decide +kernel
theorem dX4_init_20 : decode cX4_init 20 = .ok (.putfield 18, 3) := by decide +kernel
theorem dX4_init_23 : decode cX4_init 23 = .ok (.return_, 1) := by decide +kernel
theorem dX4_append_0 : decode cX4_append 0 = .ok (.aload_n 0, 1) := by decide +kernel
theorem dX4_append_1 : decode cX4_append 1 = .ok (.getfield 22, 3) := by decide +kernel
theorem dX4_append_4 : decode cX4_append 4 = .ok (.ifCond .lt 12, 3) := by decide +kernel
theorem dX4_append_7 : decode cX4_append 7 = .ok (.aload_n 0, 1) := by decide +kernel
theorem dX4_append_8 : decode cX4_append 8 = .ok (.getfield 22, 3) := by decide +kernel
theorem dX4_append_11 : decode cX4_append 11 = .ok (.bipush 80, 2) := by decide +kernel
theorem dX4_append_13 : decode cX4_append 13 = .ok (.if_icmp .lt 5, 3) := by decide +kernel
theorem dX4_append_16 : decode cX4_append 16 = .ok (.iconst 0, 1) := by decide +kernel
theorem dX4_append_17 : decode cX4_append 17 = .ok (.ireturn, 1) := by decide +kernel
theorem dX4_append_18 : decode cX4_append 18 = .ok (.aload_n 0, 1) := by decide +kernel
theorem dX4_append_19 : decode cX4_append 19 = .ok (.getfield 9, 3) := by decide +kernel
theorem dX4_append_22 : decode cX4_append 22 = .ok (.aload_n 0, 1) := by decide +kernel
theorem dX4_append_23 : decode cX4_append 23 = .ok (.getfield 22, 3) := by decide +kernel
theorem dX4_append_26 : decode cX4_append 26 = .ok (.iload_n 1, 1) := by decide +kernel
theorem dX4_append_27 : decode cX4_append 27 = .ok (.castore, 1) := by decide +kernel
theorem dX4_append_28 : decode cX4_append 28 = .ok (.aload_n 0, 1) := by decide +kernel
theorem dX4_append_29 : decode cX4_append 29 = .ok (.dup, 1) := by decide +kernel
theorem dX4_append_30 : decode cX4_append 30 = .ok (.getfield 22, 3) := by decide +kernel
theorem dX4_append_33 : decode cX4_append 33 = .ok (.iconst 1, 1) := by decide +kernel
theorem dX4_append_34 : decode cX4_append 34 = .ok (.iadd, 1) := by decide +kernel
theorem dX4_append_35 : decode cX4_append 35 = .ok (.putfield 22, 3) := by decide +kernel
theorem dX4_append_38 : decode cX4_append 38 = .ok (.iconst 1, 1) := by decide +kernel
theorem dX4_append_39 : decode cX4_append 39 = .ok (.ireturn, 1) := by decide +kernel
theorem dX4_current_0 : decode cX4_current 0 = .ok (.aload_n 0, 1) := by decide +kernel
theorem dX4_current_1 : decode cX4_current 1 = .ok (.getfield 26, 3) := by decide +kernel
theorem dX4_current_4 : decode cX4_current 4 = .ok (.ifCond .lt 23, 3) := by decide +kernel
theorem dX4_current_7 : decode cX4_current 7 = .ok (.aload_n 0, 1) := by decide +kernel
theorem dX4_current_8 : decode cX4_current 8 = .ok (.getfield 26, 3) := by decide +kernel
theorem dX4_current_11 : decode cX4_current 11 = .ok (.aload_n 0, 1) := by decide +kernel
theorem dX4_current_12 : decode cX4_current 12 = .ok (.getfield 22, 3) := by decide +kernel
theorem dX4_current_15 : decode cX4_current 15 = .ok (.if_icmp .ge 12, 3) := by decide +kernel
theorem dX4_current_18 : decode cX4_current 18 = .ok (.aload_n 0, 1) := by decide +kernel
theorem dX4_current_19 : decode cX4_current 19 = .ok (.getfield 26, 3) := by decide +kernel
theorem dX4_current_22 : decode cX4_current 22 = .ok (.bipush 80, 2) := by decide +kernel
theorem dX4_current_24 : decode cX4_current 24 = .ok (.if_icmp .lt 7, 3) := by decide +kernel
theorem dX4_current_27 : decode cX4_current 27 = .ok (.iconst (-1), 1) := by decide +kernel
theorem dX4_current_28 : decode cX4_current 28 = .ok (.goto 12, 3) := by decide +kernel
theorem dX4_current_31 : decode cX4_current 31 = .ok (.aload_n 0, 1) := by decide +kernel
theorem dX4_current_32 : decode cX4_current 32 = .ok (.getfield 9, 3) := by decide +kernel
theorem dX4_current_35 : decode cX4_current 35 = .ok (.aload_n 0, 1) := by decide +kernel
theorem dX4_current_36 : decode cX4_current 36 = .ok (.getfield 26, 3) := by decide +kernel
theorem dX4_current_39 : decode cX4_current 39 = .ok (.caload, 1) := by decide +kernel
theorem dX4_current_40 : decode cX4_current 40 = .ok (.ireturn, 1) := by decide +kernel
set_option maxRecDepth 20000 in
theorem ggX4_parse_X4_parseHead : GoodIn wsX4_parse wsX4_parseHead := goodIn_r _ [9, 2, 3, 1, 10, 11, 12, 8, 13, 4, 14, 15, 16, 17, 18, 19, 20, 21, 22, 23, 24, 25, 26, 27, 28, 29, 30, 31, 32, 33, 34, 35, 36, 37, 38, 39, 40, 41, 42, 43, 44, 52, 53, 54, 55, 56, 57, 58, 59, 60, 61, 62] (by decide +kernel) (by decide +kernel)
set_option maxRecDepth 20000 in
theorem gX4_parse_X4_parseHead : GoodIn wsX4_parse (wsV RX4 32 RX4 yX4_parseHead wsX4_parseHead) := goodIn_app (goodIn_of _ (by decide +kernel)) ggX4_parse_X4_parseHead
set_option maxRecDepth 20000 in
theorem ggX4_parse_X4_current : GoodIn wsX4_parse wsX4_current := goodIn_r _ [13, 1, 4, 14, 52, 53, 54, 55] (by decide +kernel) (by decide +kernel)
set_option maxRecDepth 20000 in
theorem gX4_parse_X4_current : GoodIn wsX4_parse (wsV RX4 36 RX4 yX4_current wsX4_current) := goodIn_app (goodIn_of _ (by decide +kernel)) ggX4_parse_X4_current
set_option maxRecDepth 20000 in
theorem ggX4_parse_X4_closeNodes : GoodIn wsX4_parse wsX4_closeNodes := goodIn_r _ [48, 1, 4, 2, 49, 10, 11, 12, 8, 13, 14, 50, 16, 51, 52, 53, 54, 55, 56, 57, 58, 59, 60, 61, 62] (by decide +kernel) (by decide +kernel)
set_option maxRecDepth 20000 in
theorem gX4_parse_X4_closeNodes : GoodIn wsX4_parse (wsV RX4 40 RX4 yX4_closeNodes wsX4_closeNodes) := goodIn_app (goodIn_of _ (by decide +kernel)) ggX4_parse_X4_closeNodes
theorem dX4_parse_0 : decode cX4_parse 0 = .ok (.aload_n 0, 1) := by decide +kernel
theorem dX4_parse_1 : decode cX4_parse 1 = .ok (.iconst 0, 1) := by decide +kernel
theorem dX4_parse_2 : decode cX4_parse 2 = .ok (.putfield 26, 3) := by decide +kernel
theorem dX4_parse_5 : decode cX4_parse 5 = .ok (.aload_n 0, 1) := by decide +kernel
theorem dX4_parse_6 : decode cX4_parse 6 = .ok (.getfield 18, 3) := by decide +kernel
theorem dX4_parse_9 : decode cX4_parse 9 = .ok (.iconst 0, 1) := by decide +kernel
theorem dX4_parse_10 : decode cX4_parse 10 = .ok (.putfield 29, 3) := by decide +kernel
theorem dX4_parse_13 : decode cX4_parse 13 = .ok (.iconst (-1), 1) := by decide +kernel
theorem dX4_parse_14 : decode cX4_parse 14 = .ok (.istore_n 1, 1) := by decide +kernel
theorem dX4_parse_15 : decode cX4_parse 15 = .ok (.iconst 0, 1) := by decide +kernel
theorem dX4_parse_16 : decode cX4_parse 16 = .ok (.istore_n 2, 1) := by decide +kernel
theorem dX4_parse_17 : decode cX4_parse 17 = .ok (.iload_n 2, 1) := by decide +kernel
theorem dX4_parse_18 : decode cX4_parse 18 = .ok (.bipush 20, 2) := by decide +kernel
theorem dX4_parse_20 : decode cX4_parse 20 = .ok (.if_icmp .gt 79, 3) := by decide +kernel
theorem dX4_parse_23 : decode cX4_parse 23 = .ok (.aload_n 0, 1) := by decide +kernel
theorem dX4_parse_24 : decode cX4_parse 24 = .ok (.iload_n 1, 1) := by decide +kernel
theorem dX4_parse_25 : decode cX4_parse 25 = .ok (.invokevirtual 32, 3) := by decide +kernel
theorem dX4_parse_28 : decode cX4_parse 28 = .ok (.ifCond .ne 5, 3) := by decide +kernel
theorem dX4_parse_31 : decode cX4_parse 31 = .ok (.iconst 0, 1) := by decide +kernel
theorem dX4_parse_32 : decode cX4_parse 32 = .ok (.ireturn, 1) := by decide +kernel
theorem dX4_parse_33 : decode cX4_parse 33 = .ok (.aload_n 0, 1) := by decide +kernel
theorem dX4_parse_34 : decode cX4_parse 34 = .ok (.invokevirtual 36, 3) := by decide +kernel
theorem dX4_parse_37 : decode cX4_parse 37 = .ok (.bipush 40, 2) := by decide +kernel
theorem dX4_parse_39 : decode cX4_parse 39 = .ok (.if_icmp .ne 26, 3) := by decide +kernel
theorem dX4_parse_42 : decode cX4_parse 42 = .ok (.aload_n 0, 1) := by decide +kernel
theorem dX4_parse_43 : decode cX4_parse 43 = .ok (.dup, 1) := by decide +kernel
theorem dX4_parse_44 : decode cX4_parse 44 = .ok (.getfield 26, 3) := by decide +kernel
theorem dX4_parse_47 : decode cX4_parse 47 = .ok (.iconst 1, 1) := by decide +kernel
theorem dX4_parse_48 : decode cX4_parse 48 = .ok (.iadd, 1) := by decide +kernel
theorem dX4_parse_49 : decode cX4_parse 49 = .ok (.putfield 26, 3) := by decide +kernel
theorem dX4_parse_52 : decode cX4_parse 52 = .ok (.aload_n 0, 1) := by decide +kernel
theorem dX4_parse_53 : decode cX4_parse 53 = .ok (.getfield 18, 3) := by decide +kernel
theorem dX4_parse_56 : decode cX4_parse 56 = .ok (.getfield 29, 3) := by decide +kernel
theorem dX4_parse_59 : decode cX4_parse 59 = .ok (.iconst 1, 1) := by decide +kernel
theorem dX4_parse_60 : decode cX4_parse 60 = .ok (.isub, 1) := by decide +kernel
theorem dX4_parse_61 : decode cX4_parse 61 = .ok (.istore_n 1, 1) := by decide +kernel
theorem dX4_parse_62 : decode cX4_parse 62 = .ok (.goto 31, 3) := by decide +kernel
theorem dX4_parse_65 : decode cX4_parse 65 = .ok (.aload_n 0, 1) := by decide +kernel
theorem dX4_parse_66 : decode cX4_parse 66 = .ok (.iload_n 1, 1) := by decide +kernel
theorem dX4_parse_67 : decode cX4_parse 67 = .ok (.invokevirtual 40, 3) := by decide +kernel
theorem dX4_parse_70 : decode cX4_parse 70 = .ok (.istore_n 1, 1) := by decide +kernel
theorem dX4_parse_71 : decode cX4_parse 71 = .ok (.iload_n 1, 1) := by decide +kernel
theorem dX4_parse_72 : decode cX4_parse 72 = .ok (.iconst (-1), 1) := by decide +kernel
theorem dX4_parse_73 : decode cX4_parse 73 = .ok (.if_icmp .ne 20, 3) := by decide +kernel
theorem dX4_parse_76 : decode cX4_parse 76 = .ok (.aload_n 0, 1) := by decide +kernel
theorem dX4_parse_77 : decode cX4_parse 77 = .ok (.getfield 26, 3) := by decide +kernel
theorem dX4_parse_80 : decode cX4_parse 80 = .ok (.aload_n 0, 1) := by decide +kernel
theorem dX4_parse_81 : decode cX4_parse 81 = .ok (.getfield 22, 3) := by decide +kernel
theorem dX4_parse_84 : decode cX4_parse 84 = .ok (.if_icmp .ne 7, 3) := by decide +kernel
theorem dX4_parse_87 : decode cX4_parse 87 = .ok (.iconst 1, 1) := by decide +kernel
theorem dX4_parse_88 : decode cX4_parse 88 = .ok (.goto 4, 3) := by decide +kernel
theorem dX4_parse_91 : decode cX4_parse 91 = .ok (.iconst 0, 1) := by decide +kernel
theorem dX4_parse_92 : decode cX4_parse 92 = .ok (.ireturn, 1) := by decide +kernel
theorem dX4_parse_93 : decode cX4_parse 93 = .ok (.iinc 2 1, 3) := by decide +kernel
theorem dX4_parse_96 : decode cX4_parse 96 = .ok (.goto (-79), 3) := by decide +kernel
theorem dX4_parse_99 : decode cX4_parse 99 = .ok (.iconst 0, 1) := by decide +kernel
theorem dX4_parse_100 : decode cX4_parse 100 = .ok (.ireturn, 1) := by decide +kernel
set_option maxRecDepth 20000 in
theorem ggX4_parseHead_X4_current : GoodIn wsX4_parseHead wsX4_current := goodIn_r _ [8, 3, 9, 10, 41, 42, 43, 44] (by decide +kernel) (by decide +kernel)
set_option maxRecDepth 20000 in
theorem gX4_parseHead_X4_current : GoodIn wsX4_parseHead (wsV RX4 36 RX4 yX4_current wsX4_current) := goodIn_app (goodIn_of _ (by decide +kernel)) ggX4_parseHead_X4_current
set_option maxRecDepth 20000 in
theorem ggX4_parseHead_X7_isLabel : GoodIn wsX4_parseHead wsX7_isLabel := goodIn_r _ [13] (by decide +kernel) (by decide +kernel)
set_option maxRecDepth 20000 in
theorem gX4_parseHead_X7_isLabel_n44 : GoodIn wsX4_parseHead (wsX7_isLabel) := ggX4_parseHead_X7_isLabel
set_option maxRecDepth 20000 in
theorem ggX4_parseHead_X5_setNode : GoodIn wsX4_parseHead wsX5_setNode := goodIn_r _ [18, 19, 20, 21, 22, 23, 45, 46, 47, 48, 49, 50, 51] (by decide +kernel) (by decide +kernel)
set_option maxRecDepth 20000 in
theorem gX4_parseHead_X5_setNode : GoodIn wsX4_parseHead (wsV RX4 47 RX5 yX5_setNode wsX5_setNode) := goodIn_app (goodIn_of _ (by decide +kernel)) ggX4_parseHead_X5_setNode
set_option maxRecDepth 20000 in
theorem ggX4_parseHead_X4_parseKey : GoodIn wsX4_parseHead wsX4_parseKey := goodIn_r _ [27, 3, 1, 28, 4, 5, 6, 7, 8, 9, 10, 29, 30, 31, 17, 32, 33, 22, 20, 41, 42, 43, 44, 45, 46, 47, 48, 49, 50, 51] (by decide +kernel) (by decide +kernel)
set_option maxRecDepth 20000 in
theorem gX4_parseHead_X4_parseKey : GoodIn wsX4_parseHead (wsV RX4 51 RX4 yX4_parseKey wsX4_parseKey) := goodIn_app (goodIn_of _ (by decide +kernel)) ggX4_parseHead_X4_parseKey
set_option maxRecDepth 20000 in
theorem ggX4_parseHead_X4_parseNumber : GoodIn wsX4_parseHead wsX4_parseNumber := goodIn_r _ [37, 3, 1, 38, 4, 5, 6, 7, 8, 9, 10, 39, 12, 40, 41, 42, 43, 44, 45, 46, 47, 48, 49, 50, 51] (by decide +kernel) (by decide +kernel)
set_option maxRecDepth 20000 in
theorem gX4_parseHead_X4_parseNumber : GoodIn wsX4_parseHead (wsV RX4 55 RX4 yX4_parseNumber wsX4_parseNumber) := goodIn_app (goodIn_of _ (by decide +kernel)) ggX4_parseHead_X4_parseNumber
theorem dX4_parseHead_0 : decode cX4_parseHead 0 = .ok (.aload_n 0, 1) := by decide +kernel
theorem dX4_parseHead_1 : decode cX4_parseHead 1 = .ok (.invokevirtual 36, 3) := by decide +kernel
theorem dX4_parseHead_4 : decode cX4_parseHead 4 = .ok (.istore_n 2, 1) := by decide +kernel
theorem dX4_parseHead_5 : decode cX4_parseHead 5 = .ok (.aload_n 0, 1) := by decide +kernel
theorem dX4_parseHead_6 : decode cX4_parseHead 6 = .ok (.getfield 18, 3) := by decide +kernel
theorem dX4_parseHead_9 : decode cX4_parseHead 9 = .ok (.getfield 29, 3) := by decide +kernel
theorem dX4_parseHead_12 : decode cX4_parseHead 12 = .ok (.istore_n 3, 1) := by decide +kernel
theorem dX4_parseHead_13 : decode cX4_parseHead 13 = .ok (.iload_n 2, 1) := by decide +kernel
theorem dX4_parseHead_14 : decode cX4_parseHead 14 = .ok (.invokestatic 44, 3) := by decide +kernel
theorem dX4_parseHead_17 : decode cX4_parseHead 17 = .ok (.ifCond .eq 13, 3) := by decide +kernel
theorem dX4_parseHead_20 : decode cX4_parseHead 20 = .ok (.iload_n 3, 1) := by decide +kernel
theorem dX4_parseHead_21 : decode cX4_parseHead 21 = .ok (.ifCond .lt 9, 3) := by decide +kernel
theorem dX4_parseHead_24 : decode cX4_parseHead 24 = .ok (.iload_n 3, 1) := by decide +kernel
theorem dX4_parseHead_25 : decode cX4_parseHead 25 = .ok (.bipush 20, 2) := by decide +kernel
theorem dX4_parseHead_27 : decode cX4_parseHead 27 = .ok (.if_icmp .lt 5, 3) := by decide +kernel
theorem dX4_parseHead_30 : decode cX4_parseHead 30 = .ok (.iconst 0, 1) := by decide +kernel
theorem dX4_parseHead_31 : decode cX4_parseHead 31 = .ok (.ireturn, 1) := by decide +kernel
theorem dX4_parseHead_32 : decode cX4_parseHead 32 = .ok (.aload_n 0, 1) := by decide +kernel
theorem dX4_parseHead_33 : decode cX4_parseHead 33 = .ok (.getfield 18, 3) := by decide +kernel
theorem dX4_parseHead_36 : decode cX4_parseHead 36 = .ok (.iload_n 3, 1) := by decide +kernel
theorem dX4_parseHead_37 : decode cX4_parseHead 37 = .ok (.iload_n 2, 1) := by decide +kernel
theorem dX4_parseHead_38 : decode cX4_parseHead 38 = .ok (.i2c, 1) := by decide +kernel
theorem dX4_parseHead_39 : decode cX4_parseHead 39 = .ok (.iconst 0, 1) := by decide +kernel
theorem dX4_parseHead_40 : decode cX4_parseHead 40 = .ok (.iconst 0, 1) := by decide +kernel
theorem dX4_parseHead_41 : decode cX4_parseHead 41 = .ok (.iload_n 1, 1) := by decide +kernel
theorem dX4_parseHead_42 : decode cX4_parseHead 42 = .ok (.invokevirtual 47, 3) := by decide +kernel
theorem dX4_parseHead_45 : decode cX4_parseHead 45 = .ok (.aload_n 0, 1) := by decide +kernel
theorem dX4_parseHead_46 : decode cX4_parseHead 46 = .ok (.getfield 18, 3) := by decide +kernel
theorem dX4_parseHead_49 : decode cX4_parseHead 49 = .ok (.dup, 1) := by decide +kernel
theorem dX4_parseHead_50 : decode cX4_parseHead 50 = .ok (.getfield 29, 3) := by decide +kernel
theorem dX4_parseHead_53 : decode cX4_parseHead 53 = .ok (.iconst 1, 1) := by decide +kernel
theorem dX4_parseHead_54 : decode cX4_parseHead 54 = .ok (.iadd, 1) := by decide +kernel
theorem dX4_parseHead_55 : decode cX4_parseHead 55 = .ok (.putfield 29, 3) := by decide +kernel
theorem dX4_parseHead_58 : decode cX4_parseHead 58 = .ok (.aload_n 0, 1) := by decide +kernel
theorem dX4_parseHead_59 : decode cX4_parseHead 59 = .ok (.dup, 1) := by decide +kernel
theorem dX4_parseHead_60 : decode cX4_parseHead 60 = .ok (.getfield 26, 3) := by decide +kernel
theorem dX4_parseHead_63 : decode cX4_parseHead 63 = .ok (.iconst 1, 1) := by decide +kernel
theorem dX4_parseHead_64 : decode cX4_parseHead 64 = .ok (.iadd, 1) := by decide +kernel
theorem dX4_parseHead_65 : decode cX4_parseHead 65 = .ok (.putfield 26, 3) := by decide +kernel
theorem dX4_parseHead_68 : decode cX4_parseHead 68 = .ok (.aload_n 0, 1) := by decide +kernel
theorem dX4_parseHead_69 : decode cX4_parseHead 69 = .ok (.iload_n 3, 1) := by decide +kernel
theorem dX4_parseHead_70 : decode cX4_parseHead 70 = .ok (.iload_n 1, 1) := by decide +kernel
theorem dX4_parseHead_71 : decode cX4_parseHead 71 = .ok (.invokevirtual 51, 3) := by decide +kernel
theorem dX4_parseHead_74 : decode cX4_parseHead 74 = .ok (.ifCond .eq 15, 3) := by decide +kernel
theorem dX4_parseHead_77 : decode cX4_parseHead 77 = .ok (.aload_n 0, 1) := by decide +kernel
theorem dX4_parseHead_78 : decode cX4_parseHead 78 = .ok (.iload_n 3, 1) := by decide +kernel
theorem dX4_parseHead_79 : decode cX4_parseHead 79 = .ok (.invokevirtual 55, 3) := by decide +kernel
theorem dX4_parseHead_82 : decode cX4_parseHead 82 = .ok (.ifCond .eq 7, 3) := by decide +kernel
theorem dX4_parseHead_85 : decode cX4_parseHead 85 = .ok (.iconst 1, 1) := by decide +kernel
theorem dX4_parseHead_86 : decode cX4_parseHead 86 = .ok (.goto 4, 3) := by decide +kernel
theorem dX4_parseHead_89 : decode cX4_parseHead 89 = .ok (.iconst 0, 1) := by decide +kernel
theorem dX4_parseHead_90 : decode cX4_parseHead 90 = .ok (.ireturn, 1) := by decide +kernel
set_option maxRecDepth 20000 in
theorem ggX4_parseKey_X4_current : GoodIn wsX4_parseKey wsX4_current := goodIn_r _ [8, 1, 9, 10, 19, 20, 21, 22] (by decide +kernel) (by decide +kernel)
set_option maxRecDepth 20000 in
theorem gX4_parseKey_X4_current : GoodIn wsX4_parseKey (wsV RX4 36 RX4 yX4_current wsX4_current) := goodIn_app (goodIn_of _ (by decide +kernel)) ggX4_parseKey_X4_current
set_option maxRecDepth 20000 in
theorem ggX4_parseKey_X5_hasKey : GoodIn wsX4_parseKey wsX5_hasKey := goodIn_r _ [15, 16, 17, 18, 23, 24, 25, 26, 27, 28, 29] (by decide +kernel) (by decide +kernel)
set_option maxRecDepth 20000 in
theorem gX4_parseKey_X5_hasKey : GoodIn wsX4_parseKey (wsV RX4 58 RX5 yX5_hasKey wsX5_hasKey) := goodIn_app (goodIn_of _ (by decide +kernel)) ggX4_parseKey_X5_hasKey
theorem dX4_parseKey_0 : decode cX4_parseKey 0 = .ok (.aload_n 0, 1) := by decide +kernel
theorem dX4_parseKey_1 : decode cX4_parseKey 1 = .ok (.invokevirtual 36, 3) := by decide +kernel
theorem dX4_parseKey_4 : decode cX4_parseKey 4 = .ok (.bipush 35, 2) := by decide +kernel
theorem dX4_parseKey_6 : decode cX4_parseKey 6 = .ok (.if_icmp .eq 5, 3) := by decide +kernel
theorem dX4_parseKey_9 : decode cX4_parseKey 9 = .ok (.iconst 1, 1) := by decide +kernel
theorem dX4_parseKey_10 : decode cX4_parseKey 10 = .ok (.ireturn, 1) := by decide +kernel
theorem dX4_parseKey_11 : decode cX4_parseKey 11 = .ok (.iload_n 2, 1) := by decide +kernel
theorem dX4_parseKey_12 : decode cX4_parseKey 12 = .ok (.iconst (-1), 1) := by decide +kernel
theorem dX4_parseKey_13 : decode cX4_parseKey 13 = .ok (.if_icmp .ne 5, 3) := by decide +kernel
theorem dX4_parseKey_16 : decode cX4_parseKey 16 = .ok (.iconst 0, 1) := by decide +kernel
theorem dX4_parseKey_17 : decode cX4_parseKey 17 = .ok (.ireturn, 1) := by decide +kernel
theorem dX4_parseKey_18 : decode cX4_parseKey 18 = .ok (.aload_n 0, 1) := by decide +kernel
theorem dX4_parseKey_19 : decode cX4_parseKey 19 = .ok (.dup, 1) := by decide +kernel
theorem dX4_parseKey_20 : decode cX4_parseKey 20 = .ok (.getfield 26, 3) := by decide +kernel
theorem dX4_parseKey_23 : decode cX4_parseKey 23 = .ok (.iconst 1, 1) := by decide +kernel
theorem dX4_parseKey_24 : decode cX4_parseKey 24 = .ok (.iadd, 1) := by decide +kernel
theorem dX4_parseKey_25 : decode cX4_parseKey 25 = .ok (.putfield 26, 3) := by decide +kernel
theorem dX4_parseKey_28 : decode cX4_parseKey 28 = .ok (.aload_n 0, 1) := by decide +kernel
theorem dX4_parseKey_29 : decode cX4_parseKey 29 = .ok (.invokevirtual 36, 3) := by decide +kernel
theorem dX4_parseKey_32 : decode cX4_parseKey 32 = .ok (.bipush 48, 2) := by decide +kernel
theorem dX4_parseKey_34 : decode cX4_parseKey 34 = .ok (.isub, 1) := by decide +kernel
theorem dX4_parseKey_35 : decode cX4_parseKey 35 = .ok (.istore_n 3, 1) := by decide +kernel
theorem dX4_parseKey_36 : decode cX4_parseKey 36 = .ok (.iload_n 3, 1) := by decide +kernel
theorem dX4_parseKey_37 : decode cX4_parseKey 37 = .ok (.iconst 1, 1) := by decide +kernel
theorem dX4_parseKey_38 : decode cX4_parseKey 38 = .ok (.if_icmp .lt 22, 3) := by decide +kernel
theorem dX4_parseKey_41 : decode cX4_parseKey 41 = .ok (.iload_n 3, 1) := by decide +kernel
theorem dX4_parseKey_42 : decode cX4_parseKey 42 = .ok (.bipush 9, 2) := by decide +kernel
theorem dX4_parseKey_44 : decode cX4_parseKey 44 = .ok (.if_icmp .gt 16, 3) := by decide +kernel
theorem dX4_parseKey_47 : decode cX4_parseKey 47 = .ok (.aload_n 0, 1) := by decide +kernel
theorem dX4_parseKey_48 : decode cX4_parseKey 48 = .ok (.getfield 18, 3) := by decide +kernel
theorem dX4_parseKey_51 : decode cX4_parseKey 51 = .ok (.iload_n 2, 1) := by decide +kernel
theorem dX4_parseKey_52 : decode cX4_parseKey 52 = .ok (.iload_n 3, 1) := by decide +kernel
theorem dX4_parseKey_53 : decode cX4_parseKey 53 = .ok (.iload_n 1, 1) := by decide +kernel
theorem dX4_parseKey_54 : decode cX4_parseKey 54 = .ok (.invokevirtual 58, 3) := by decide +kernel
theorem dX4_parseKey_57 : decode cX4_parseKey 57 = .ok (.ifCond .eq 5, 3) := by decide +kernel
theorem dX4_parseKey_60 : decode cX4_parseKey 60 = .ok (.iconst 0, 1) := by decide +kernel
theorem dX4_parseKey_61 : decode cX4_parseKey 61 = .ok (.ireturn, 1) := by decide +kernel
theorem dX4_parseKey_62 : decode cX4_parseKey 62 = .ok (.aload_n 0, 1) := by decide +kernel
theorem dX4_parseKey_63 : decode cX4_parseKey 63 = .ok (.getfield 18, 3) := by decide +kernel
theorem dX4_parseKey_66 : decode cX4_parseKey 66 = .ok (.getfield 62, 3) := by decide +kernel
theorem dX4_parseKey_69 : decode cX4_parseKey 69 = .ok (.iload_n 1, 1) := by decide +kernel
theorem dX4_parseKey_70 : decode cX4_parseKey 70 = .ok (.iload_n 3, 1) := by decide +kernel
theorem dX4_parseKey_71 : decode cX4_parseKey 71 = .ok (.iastore, 1) := by decide +kernel
theorem dX4_parseKey_72 : decode cX4_parseKey 72 = .ok (.aload_n 0, 1) := by decide +kernel
theorem dX4_parseKey_73 : decode cX4_parseKey 73 = .ok (.dup, 1) := by decide +kernel
theorem dX4_parseKey_74 : decode cX4_parseKey 74 = .ok (.getfield 26, 3) := by decide +kernel
theorem dX4_parseKey_77 : decode cX4_parseKey 77 = .ok (.iconst 1, 1) := by decide +kernel
theorem dX4_parseKey_78 : decode cX4_parseKey 78 = .ok (.iadd, 1) := by decide +kernel
theorem dX4_parseKey_79 : decode cX4_parseKey 79 = .ok (.putfield 26, 3) := by decide +kernel
theorem dX4_parseKey_82 : decode cX4_parseKey 82 = .ok (.iconst 1, 1) := by decide +kernel
theorem dX4_parseKey_83 : decode cX4_parseKey 83 = .ok (.ireturn, 1) := by decide +kernel
set_option maxRecDepth 20000 in
theorem ggX4_parseNumber_X4_current : GoodIn wsX4_parseNumber wsX4_current := goodIn_r _ [8, 1, 9, 10, 14, 15, 16, 17] (by decide +kernel) (by decide +kernel)
set_option maxRecDepth 20000 in
theorem gX4_parseNumber_X4_current : GoodIn wsX4_parseNumber (wsV RX4 36 RX4 yX4_current wsX4_current) := goodIn_app (goodIn_of _ (by decide +kernel)) ggX4_parseNumber_X4_current
set_option maxRecDepth 20000 in
theorem ggX4_parseNumber_X7_isDigit : GoodIn wsX4_parseNumber wsX7_isDigit := goodIn_r _ [13] (by decide +kernel) (by decide +kernel)
set_option maxRecDepth 20000 in
theorem gX4_parseNumber_X7_isDigit_n66 : GoodIn wsX4_parseNumber (wsX7_isDigit) := ggX4_parseNumber_X7_isDigit
theorem dX4_parseNumber_0 : decode cX4_parseNumber 0 = .ok (.aload_n 0, 1) := by decide +kernel
theorem dX4_parseNumber_1 : decode cX4_parseNumber 1 = .ok (.invokevirtual 36, 3) := by decide +kernel
theorem dX4_parseNumber_4 : decode cX4_parseNumber 4 = .ok (.bipush 61, 2) := by decide +kernel
theorem dX4_parseNumber_6 : decode cX4_parseNumber 6 = .ok (.if_icmp .eq 5, 3) := by decide +kernel
theorem dX4_parseNumber_9 : decode cX4_parseNumber 9 = .ok (.iconst 1, 1) := by decide +kernel
theorem dX4_parseNumber_10 : decode cX4_parseNumber 10 = .ok (.ireturn, 1) := by decide +kernel
theorem dX4_parseNumber_11 : decode cX4_parseNumber 11 = .ok (.aload_n 0, 1) := by decide +kernel
theorem dX4_parseNumber_12 : decode cX4_parseNumber 12 = .ok (.dup, 1) := by decide +kernel
theorem dX4_parseNumber_13 : decode cX4_parseNumber 13 = .ok (.getfield 26, 3) := by decide +kernel
theorem dX4_parseNumber_16 : decode cX4_parseNumber 16 = .ok (.iconst 1, 1) := by decide +kernel
theorem dX4_parseNumber_17 : decode cX4_parseNumber 17 = .ok (.iadd, 1) := by decide +kernel
theorem dX4_parseNumber_18 : decode cX4_parseNumber 18 = .ok (.putfield 26, 3) := by decide +kernel
theorem dX4_parseNumber_21 : decode cX4_parseNumber 21 = .ok (.aload_n 0, 1) := by decide +kernel
theorem dX4_parseNumber_22 : decode cX4_parseNumber 22 = .ok (.invokevirtual 36, 3) := by decide +kernel
theorem dX4_parseNumber_25 : decode cX4_parseNumber 25 = .ok (.invokestatic 66, 3) := by decide +kernel
theorem dX4_parseNumber_28 : decode cX4_parseNumber 28 = .ok (.ifCond .ne 5, 3) := by decide +kernel
theorem dX4_parseNumber_31 : decode cX4_parseNumber 31 = .ok (.iconst 0, 1) := by decide +kernel
theorem dX4_parseNumber_32 : decode cX4_parseNumber 32 = .ok (.ireturn, 1) := by decide +kernel
theorem dX4_parseNumber_33 : decode cX4_parseNumber 33 = .ok (.aload_n 0, 1) := by decide +kernel
theorem dX4_parseNumber_34 : decode cX4_parseNumber 34 = .ok (.invokevirtual 36, 3) := by decide +kernel
theorem dX4_parseNumber_37 : decode cX4_parseNumber 37 = .ok (.bipush 48, 2) := by decide +kernel
theorem dX4_parseNumber_39 : decode cX4_parseNumber 39 = .ok (.isub, 1) := by decide +kernel
theorem dX4_parseNumber_40 : decode cX4_parseNumber 40 = .ok (.istore_n 2, 1) := by decide +kernel
theorem dX4_parseNumber_41 : decode cX4_parseNumber 41 = .ok (.aload_n 0, 1) := by decide +kernel
theorem dX4_parseNumber_42 : decode cX4_parseNumber 42 = .ok (.dup, 1) := by decide +kernel
theorem dX4_parseNumber_43 : decode cX4_parseNumber 43 = .ok (.getfield 26, 3) := by decide +kernel
theorem dX4_parseNumber_46 : decode cX4_parseNumber 46 = .ok (.iconst 1, 1) := by decide +kernel
theorem dX4_parseNumber_47 : decode cX4_parseNumber 47 = .ok (.iadd, 1) := by decide +kernel
theorem dX4_parseNumber_48 : decode cX4_parseNumber 48 = .ok (.putfield 26, 3) := by decide +kernel
theorem dX4_parseNumber_51 : decode cX4_parseNumber 51 = .ok (.aload_n 0, 1) := by decide +kernel
theorem dX4_parseNumber_52 : decode cX4_parseNumber 52 = .ok (.invokevirtual 36, 3) := by decide +kernel
theorem dX4_parseNumber_55 : decode cX4_parseNumber 55 = .ok (.invokestatic 66, 3) := by decide +kernel
theorem dX4_parseNumber_58 : decode cX4_parseNumber 58 = .ok (.ifCond .eq 26, 3) := by decide +kernel
theorem dX4_parseNumber_61 : decode cX4_parseNumber 61 = .ok (.iload_n 2, 1) := by decide +kernel
theorem dX4_parseNumber_62 : decode cX4_parseNumber 62 = .ok (.bipush 10, 2) := by decide +kernel
theorem dX4_parseNumber_64 : decode cX4_parseNumber 64 = .ok (.imul, 1) := by decide +kernel
theorem dX4_parseNumber_65 : decode cX4_parseNumber 65 = .ok (.aload_n 0, 1) := by decide +kernel
theorem dX4_parseNumber_66 : decode cX4_parseNumber 66 = .ok (.invokevirtual 36, 3) := by decide +kernel
theorem dX4_parseNumber_69 : decode cX4_parseNumber 69 = .ok (.iadd, 1) := by decide +kernel
theorem dX4_parseNumber_70 : decode cX4_parseNumber 70 = .ok (.bipush 48, 2) := by decide +kernel
theorem dX4_parseNumber_72 : decode cX4_parseNumber 72 = .ok (.isub, 1) := by decide +kernel
theorem dX4_parseNumber_73 : decode cX4_parseNumber 73 = .ok (.istore_n 2, 1) := by decide +kernel
theorem dX4_parseNumber_74 : decode cX4_parseNumber 74 = .ok (.aload_n 0, 1) := by decide +kernel
theorem dX4_parseNumber_75 : decode cX4_parseNumber 75 = .ok (.dup, 1) := by decide +kernel
theorem dX4_parseNumber_76 : decode cX4_parseNumber 76 = .ok (.getfield 26, 3) := by decide +kernel
theorem dX4_parseNumber_79 : decode cX4_parseNumber 79 = .ok (.iconst 1, 1) := by decide +kernel
theorem dX4_parseNumber_80 : decode cX4_parseNumber 80 = .ok (.iadd, 1) := by decide +kernel
theorem dX4_parseNumber_81 : decode cX4_parseNumber 81 = .ok (.putfield 26, 3) := by decide +kernel
theorem dX4_parseNumber_84 : decode cX4_parseNumber 84 = .ok (.aload_n 0, 1) := by decide +kernel
theorem dX4_parseNumber_85 : decode cX4_parseNumber 85 = .ok (.getfield 18, 3) := by decide +kernel
theorem dX4_parseNumber_88 : decode cX4_parseNumber 88 = .ok (.getfield 69, 3) := by decide +kernel
theorem dX4_parseNumber_91 : decode cX4_parseNumber 91 = .ok (.iload_n 1, 1) := by decide +kernel
theorem dX4_parseNumber_92 : decode cX4_parseNumber 92 = .ok (.iload_n 2, 1) := by decide +kernel
theorem dX4_parseNumber_93 : decode cX4_parseNumber 93 = .ok (.iastore, 1) := by decide +kernel
theorem dX4_parseNumber_94 : decode cX4_parseNumber 94 = .ok (.iconst 1, 1) := by decide +kernel
theorem dX4_parseNumber_95 : decode cX4_parseNumber 95 = .ok (.ireturn, 1) := by decide +kernel
set_option maxRecDepth 20000 in
theorem ggX4_closeNodes_X4_current : GoodIn wsX4_closeNodes wsX4_current := goodIn_r _ [9, 1, 2, 10, 14, 15, 16, 17] (by decide +kernel) (by decide +kernel)
set_option maxRecDepth 20000 in
theorem gX4_closeNodes_X4_current : GoodIn wsX4_closeNodes (wsV RX4 36 RX4 yX4_current wsX4_current) := goodIn_app (goodIn_of _ (by decide +kernel)) ggX4_closeNodes_X4_current
set_option maxRecDepth 20000 in
theorem ggX4_closeNodes_X7_entry : GoodIn wsX4_closeNodes wsX7_entry := goodIn_r _ [13] (by decide +kernel) (by decide +kernel)
set_option maxRecDepth 20000 in
theorem gX4_closeNodes_X7_entry_n75 : GoodIn wsX4_closeNodes (wsX7_entry) := ggX4_closeNodes_X7_entry
theorem dX4_closeNodes_0 : decode cX4_closeNodes 0 = .ok (.iload_n 1, 1) := by decide +kernel
theorem dX4_closeNodes_1 : decode cX4_closeNodes 1 = .ok (.istore_n 2, 1) := by decide +kernel
theorem dX4_closeNodes_2 : decode cX4_closeNodes 2 = .ok (.iload_n 2, 1) := by decide +kernel
theorem dX4_closeNodes_3 : decode cX4_closeNodes 3 = .ok (.iconst (-1), 1) := by decide +kernel
theorem dX4_closeNodes_4 : decode cX4_closeNodes 4 = .ok (.if_icmp .eq 48, 3) := by decide +kernel
theorem dX4_closeNodes_7 : decode cX4_closeNodes 7 = .ok (.aload_n 0, 1) := by decide +kernel
theorem dX4_closeNodes_8 : decode cX4_closeNodes 8 = .ok (.getfield 26, 3) := by decide +kernel
theorem dX4_closeNodes_11 : decode cX4_closeNodes 11 = .ok (.aload_n 0, 1) := by decide +kernel
theorem dX4_closeNodes_12 : decode cX4_closeNodes 12 = .ok (.getfield 22, 3) := by decide +kernel
theorem dX4_closeNodes_15 : decode cX4_closeNodes 15 = .ok (.if_icmp .ge 37, 3) := by decide +kernel
theorem dX4_closeNodes_18 : decode cX4_closeNodes 18 = .ok (.aload_n 0, 1) := by decide +kernel
theorem dX4_closeNodes_19 : decode cX4_closeNodes 19 = .ok (.invokevirtual 36, 3) := by decide +kernel
theorem dX4_closeNodes_22 : decode cX4_closeNodes 22 = .ok (.bipush 41, 2) := by decide +kernel
theorem dX4_closeNodes_24 : decode cX4_closeNodes 24 = .ok (.if_icmp .ne 28, 3) := by decide +kernel
theorem dX4_closeNodes_27 : decode cX4_closeNodes 27 = .ok (.aload_n 0, 1) := by decide +kernel
theorem dX4_closeNodes_28 : decode cX4_closeNodes 28 = .ok (.getfield 18, 3) := by decide +kernel
theorem dX4_closeNodes_31 : decode cX4_closeNodes 31 = .ok (.getfield 72, 3) := by decide +kernel
theorem dX4_closeNodes_34 : decode cX4_closeNodes 34 = .ok (.iload_n 2, 1) := by decide +kernel
theorem dX4_closeNodes_35 : decode cX4_closeNodes 35 = .ok (.invokestatic 75, 3) := by decide +kernel
theorem dX4_closeNodes_38 : decode cX4_closeNodes 38 = .ok (.istore_n 2, 1) := by decide +kernel
theorem dX4_closeNodes_39 : decode cX4_closeNodes 39 = .ok (.aload_n 0, 1) := by decide +kernel
theorem dX4_closeNodes_40 : decode cX4_closeNodes 40 = .ok (.dup, 1) := by decide +kernel
theorem dX4_closeNodes_41 : decode cX4_closeNodes 41 = .ok (.getfield 26, 3) := by decide +kernel
theorem dX4_closeNodes_44 : decode cX4_closeNodes 44 = .ok (.iconst 1, 1) := by decide +kernel
theorem dX4_closeNodes_45 : decode cX4_closeNodes 45 = .ok (.iadd, 1) := by decide +kernel
theorem dX4_closeNodes_46 : decode cX4_closeNodes 46 = .ok (.putfield 26, 3) := by decide +kernel
theorem dX4_closeNodes_49 : decode cX4_closeNodes 49 = .ok (.goto (-47), 3) := by decide +kernel
theorem dX4_closeNodes_52 : decode cX4_closeNodes 52 = .ok (.iload_n 2, 1) := by decide +kernel
theorem dX4_closeNodes_53 : decode cX4_closeNodes 53 = .ok (.ireturn, 1) := by decide +kernel
theorem dX4_isSound_0 : decode cX4_isSound 0 = .ok (.aload_n 0, 1) := by decide +kernel
theorem dX4_isSound_1 : decode cX4_isSound 1 = .ok (.getfield 22, 3) := by decide +kernel
theorem dX4_isSound_4 : decode cX4_isSound 4 = .ok (.ifCond .lt 16, 3) := by decide +kernel
theorem dX4_isSound_7 : decode cX4_isSound 7 = .ok (.aload_n 0, 1) := by decide +kernel
theorem dX4_isSound_8 : decode cX4_isSound 8 = .ok (.getfield 22, 3) := by decide +kernel
theorem dX4_isSound_11 : decode cX4_isSound 11 = .ok (.bipush 80, 2) := by decide +kernel
theorem dX4_isSound_13 : decode cX4_isSound 13 = .ok (.if_icmp .gt 7, 3) := by decide +kernel
theorem dX4_isSound_16 : decode cX4_isSound 16 = .ok (.iconst 1, 1) := by decide +kernel
theorem dX4_isSound_17 : decode cX4_isSound 17 = .ok (.goto 4, 3) := by decide +kernel
theorem dX4_isSound_20 : decode cX4_isSound 20 = .ok (.iconst 0, 1) := by decide +kernel
theorem dX4_isSound_21 : decode cX4_isSound 21 = .ok (.ireturn, 1) := by decide +kernel
theorem dX5_init_0 : decode cX5_init 0 = .ok (.aload_n 0, 1) := by decide +kernel
theorem dX5_init_1 : decode cX5_init 1 = .ok (.invokespecial 3, 3) := by decide +kernel
theorem dX5_init_4 : decode cX5_init 4 = .ok (.aload_n 0, 1) := by decide +kernel
theorem dX5_init_5 : decode cX5_init 5 = .ok (.bipush 20, 2) := by decide +kernel
theorem dX5_init_7 : decode cX5_init 7 = .ok (.newarray .char, 2) := by decide +kernel
theorem dX5_init_9 : decode cX5_init 9 = .ok (.putfield 9, 3) := by decide +kernel
theorem dX5_init_12 : decode cX5_init 12 = .ok (.aload_n 0, 1) := by decide +kernel
theorem dX5_init_13 : decode cX5_init 13 = .ok (.bipush 20, 2) := by decide +kernel
theorem dX5_init_15 : decode cX5_init 15 = .ok (.newarray .int, 2) := by decide +kernel
theorem dX5_init_17 : decode cX5_init 17 = .ok (.putfield 15, 3) := by decide +kernel
theorem dX5_init_20 : decode cX5_init 20 = .ok (.aload_n 0, 1) := by decide +kernel
theorem dX5_init_21 : decode cX5_init 21 = .ok (.bipush 20, 2) := by decide +kernel
theorem dX5_init_23 : decode cX5_init 23 = .ok (.newarray .int, 2) := by decide +kernel
theorem dX5_init_25 : decode cX5_init 25 = .ok (.putfield 19, 3) := by decide +kernel
theorem dX5_init_28 : decode cX5_init 28 = .ok (.aload_n 0, 1) := by decide +kernel
theorem dX5_init_29 : decode cX5_init 29 = .ok (.bipush 20, 2) := by decide +kernel
theorem dX5_init_31 : decode cX5_init 31 = .ok (.newarray .int, 2) := by decide +kernel
theorem dX5_init_33 : decode cX5_init 33 = .ok (.putfield 22, 3) := by decide +kernel
theorem dX5_init_36 : decode cX5_init 36 = .ok (.aload_n 0, 1) := by decide +kernel
theorem dX5_init_37 : decode cX5_init 37 = .ok (.bipush 20, 2) := by decide +kernel
theorem dX5_init_39 : decode cX5_init 39 = .ok (.newarray .int, 2) := by decide +kernel
theorem dX5_init_41 : decode cX5_init 41 = .ok (.putfield 25, 3) := by decide +kernel
theorem dX5_init_44 : decode cX5_init 44 = .ok (.aload_n 0, 1) := by decide +kernel
theorem dX5_init_45 : decode cX5_init 45 = .ok (.bipush 20, 2) := by decide +kernel
theorem dX5_init_47 : decode cX5_init 47 = .ok (.newarray .int, 2) := by decide +kernel
theorem dX5_init_49 : decode cX5_init 49 = .ok (.putfield 28, 3) := by decide +kernel
theorem dX5_init_52 : decode cX5_init 52 = .ok (.aload_n 0, 1) := by decide +kernel
theorem dX5_init_53 : decode cX5_init 53 = .ok (.getfield 9, 3) := by decide +kernel
theorem dX5_init_56 : decode cX5_init 56 = .ok (.iconst 0, 1) := by decide +kernel
theorem dX5_init_57 : decode cX5_init 57 = .ok (.bipush 97, 2) := by decide +kernel
theorem dX5_init_59 : decode cX5_init 59 = .ok (.castore, 1) := by decide +kernel
theorem dX5_init_60 : decode cX5_init 60 = .ok (.aload_n 0, 1) := by decide +kernel
theorem dX5_init_61 : decode cX5_init 61 = .ok (.getfield 22, 3) := by decide +kernel
theorem dX5_init_64 : decode cX5_init 64 = .ok (.iconst 0, 1) := by decide +kernel
theorem dX5_init_65 : decode cX5_init 65 = .ok (.iconst (-1), 1) := by decide +kernel
theorem dX5_init_66 : decode cX5_init 66 = .ok (.iastore, 1) := by decide +kernel
theorem dX5_init_67 : decode cX5_init 67 = .ok (.aload_n 0, 1) := by decide +kernel
theorem dX5_init_68 : decode cX5_init 68 = .ok (.iconst 1, 1) := by decide +kernel
theorem dX5_init_69 : decode cX5_init 69 = .ok (.putfield 31, 3) := by decide +kernel
theorem dX5_init_72 : decode cX5_init 72 = .ok (.return_, 1) := by decide +kernel
theorem dX5_holds_0 : decode cX5_holds 0 = .ok (.iload_n 1, 1) := by decide +kernel
theorem dX5_holds_1 : decode cX5_holds 1 = .ok (.ifCond .lt 15, 3) := by decide +kernel
theorem dX5_holds_4 : decode cX5_holds 4 = .ok (.iload_n 1, 1) := by decide +kernel
theorem dX5_holds_5 : decode cX5_holds 5 = .ok (.aload_n 0, 1) := by decide +kernel
theorem dX5_holds_6 : decode cX5_holds 6 = .ok (.getfield 31, 3) := by decide +kernel
theorem dX5_holds_9 : decode cX5_holds 9 = .ok (.if_icmp .ge 7, 3) := by decide +kernel
theorem dX5_holds_12 : decode cX5_holds 12 = .ok (.iconst 1, 1) := by decide +kernel
theorem dX5_holds_13 : decode cX5_holds 13 = .ok (.goto 4, 3) := by decide +kernel
theorem dX5_holds_16 : decode cX5_holds 16 = .ok (.iconst 0, 1) := by decide +kernel
theorem dX5_holds_17 : decode cX5_holds 17 = .ok (.ireturn, 1) := by decide +kernel
theorem dX5_copyFrom_0 : decode cX5_copyFrom 0 = .ok (.aload_n 1, 1) := by decide +kernel
theorem dX5_copyFrom_1 : decode cX5_copyFrom 1 = .ok (.getfield 9, 3) := by decide +kernel
theorem dX5_copyFrom_4 : decode cX5_copyFrom 4 = .ok (.iconst 0, 1) := by decide +kernel
theorem dX5_copyFrom_5 : decode cX5_copyFrom 5 = .ok (.aload_n 0, 1) := by decide +kernel
theorem dX5_copyFrom_6 : decode cX5_copyFrom 6 = .ok (.getfield 9, 3) := by decide +kernel
theorem dX5_copyFrom_9 : decode cX5_copyFrom 9 = .ok (.iconst 0, 1) := by decide +kernel
theorem dX5_copyFrom_10 : decode cX5_copyFrom 10 = .ok (.bipush 20, 2) := by decide +kernel
theorem dX5_copyFrom_12 : decode cX5_copyFrom 12 = .ok (.invokestatic 35, 3) := by decide +kernel
theorem dX5_copyFrom_15 : decode cX5_copyFrom 15 = .ok (.aload_n 1, 1) := by decide +kernel
theorem dX5_copyFrom_16 : decode cX5_copyFrom 16 = .ok (.getfield 15, 3) := by decide +kernel
theorem dX5_copyFrom_19 : decode cX5_copyFrom 19 = .ok (.iconst 0, 1) := by decide +kernel
theorem dX5_copyFrom_20 : decode cX5_copyFrom 20 = .ok (.aload_n 0, 1) := by decide +kernel
theorem dX5_copyFrom_21 : decode cX5_copyFrom 21 = .ok (.getfield 15, 3) := by decide +kernel
theorem dX5_copyFrom_24 : decode cX5_copyFrom 24 = .ok (.iconst 0, 1) := by decide +kernel
theorem dX5_copyFrom_25 : decode cX5_copyFrom 25 = .ok (.bipush 20, 2) := by decide +kernel
theorem dX5_copyFrom_27 : decode cX5_copyFrom 27 = .ok (.invokestatic 35, 3) := by decide +kernel
theorem dX5_copyFrom_30 : decode cX5_copyFrom 30 = .ok (.aload_n 1, 1) := by decide +kernel
theorem dX5_copyFrom_31 : decode cX5_copyFrom 31 = .ok (.getfield 19, 3) := by decide +kernel
theorem dX5_copyFrom_34 : decode cX5_copyFrom 34 = .ok (.iconst 0, 1) := by decide +kernel
theorem dX5_copyFrom_35 : decode cX5_copyFrom 35 = .ok (.aload_n 0, 1) := by decide +kernel
theorem dX5_copyFrom_36 : decode cX5_copyFrom 36 = .ok (.getfield 19, 3) := by decide +kernel
theorem dX5_copyFrom_39 : decode cX5_copyFrom 39 = .ok (.iconst 0, 1) := by decide +kernel
theorem dX5_copyFrom_40 : decode cX5_copyFrom 40 = .ok (.bipush 20, 2) := by decide +kernel
theorem dX5_copyFrom_42 : decode cX5_copyFrom 42 = .ok (.invokestatic 35, 3) := by decide +kernel
theorem dX5_copyFrom_45 : decode cX5_copyFrom 45 = .ok (.aload_n 1, 1) := by decide +kernel
theorem dX5_copyFrom_46 : decode cX5_copyFrom 46 = .ok (.getfield 22, 3) := by decide +kernel
theorem dX5_copyFrom_49 : decode cX5_copyFrom 49 = .ok (.iconst 0, 1) := by decide +kernel
theorem dX5_copyFrom_50 : decode cX5_copyFrom 50 = .ok (.aload_n 0, 1) := by decide +kernel
theorem dX5_copyFrom_51 : decode cX5_copyFrom 51 = .ok (.getfield 22, 3) := by decide +kernel
theorem dX5_copyFrom_54 : decode cX5_copyFrom 54 = .ok (.iconst 0, 1) := by decide +kernel
theorem dX5_copyFrom_55 : decode cX5_copyFrom 55 = .ok (.bipush 20, 2) := by decide +kernel
theorem dX5_copyFrom_57 : decode cX5_copyFrom 57 = .ok (.invokestatic 35, 3) := by decide +kernel
theorem dX5_copyFrom_60 : decode cX5_copyFrom 60 = .ok (.aload_n 0, 1) := by decide +kernel
theorem dX5_copyFrom_61 : decode cX5_copyFrom 61 = .ok (.aload_n 1, 1) := by decide +kernel
theorem dX5_copyFrom_62 : decode cX5_copyFrom 62 = .ok (.getfield 31, 3) := by decide +kernel
theorem dX5_copyFrom_65 : decode cX5_copyFrom 65 = .ok (.putfield 31, 3) := by decide +kernel
theorem dX5_copyFrom_68 : decode cX5_copyFrom 68 = .ok (.return_, 1) := by decide +kernel
theorem dX5_setNode_0 : decode cX5_setNode 0 = .ok (.aload_n 0, 1) := by decide +kernel
theorem dX5_setNode_1 : decode cX5_setNode 1 = .ok (.getfield 9, 3) := by decide +kernel
theorem dX5_setNode_4 : decode cX5_setNode 4 = .ok (.iload_n 1, 1) := by decide +kernel
theorem dX5_setNode_5 : decode cX5_setNode 5 = .ok (.iload_n 2, 1) := by decide +kernel
theorem dX5_setNode_6 : decode cX5_setNode 6 = .ok (.castore, 1) := by decide +kernel
theorem dX5_setNode_7 : decode cX5_setNode 7 = .ok (.aload_n 0, 1) := by decide +kernel
theorem dX5_setNode_8 : decode cX5_setNode 8 = .ok (.getfield 15, 3) := by decide +kernel
theorem dX5_setNode_11 : decode cX5_setNode 11 = .ok (.iload_n 1, 1) := by decide +kernel
theorem dX5_setNode_12 : decode cX5_setNode 12 = .ok (.iload_n 3, 1) := by decide +kernel
theorem dX5_setNode_13 : decode cX5_setNode 13 = .ok (.iastore, 1) := by decide +kernel
theorem dX5_setNode_14 : decode cX5_setNode 14 = .ok (.aload_n 0, 1) := by decide +kernel
theorem dX5_setNode_15 : decode cX5_setNode 15 = .ok (.getfield 19, 3) := by decide +kernel
theorem dX5_setNode_18 : decode cX5_setNode 18 = .ok (.iload_n 1, 1) := by decide +kernel
theorem dX5_setNode_19 : decode cX5_setNode 19 = .ok (.iload 4, 2) := by decide +kernel
theorem dX5_setNode_21 : decode cX5_setNode 21 = .ok (.iastore, 1) := by decide +kernel
theorem dX5_setNode_22 : decode cX5_setNode 22 = .ok (.aload_n 0, 1) := by decide +kernel
theorem dX5_setNode_23 : decode cX5_setNode 23 = .ok (.getfield 22, 3) := by decide +kernel
theorem dX5_setNode_26 : decode cX5_setNode 26 = .ok (.iload_n 1, 1) := by decide +kernel
theorem dX5_setNode_27 : decode cX5_setNode 27 = .ok (.iload 5, 2) := by decide +kernel
theorem dX5_setNode_29 : decode cX5_setNode 29 = .ok (.iastore, 1) := by decide +kernel
theorem dX5_setNode_30 : decode cX5_setNode 30 = .ok (.aload_n 0, 1) := by decide +kernel
theorem dX5_setNode_31 : decode cX5_setNode 31 = .ok (.getfield 25, 3) := by decide +kernel
theorem dX5_setNode_34 : decode cX5_setNode 34 = .ok (.iload_n 1, 1) := by decide +kernel
theorem dX5_setNode_35 : decode cX5_setNode 35 = .ok (.iconst (-1), 1) := by decide +kernel
theorem dX5_setNode_36 : decode cX5_setNode 36 = .ok (.iastore, 1) := by decide +kernel
theorem dX5_setNode_37 : decode cX5_setNode 37 = .ok (.return_, 1) := by decide +kernel
theorem dX5_widthOf_0 : decode cX5_widthOf 0 = .ok (.iload_n 1, 1) := by decide +kernel
theorem dX5_widthOf_1 : decode cX5_widthOf 1 = .ok (.iconst 1, 1) := by decide +kernel
theorem dX5_widthOf_2 : decode cX5_widthOf 2 = .ok (.iadd, 1) := by decide +kernel
theorem dX5_widthOf_3 : decode cX5_widthOf 3 = .ok (.istore_n 2, 1) := by decide +kernel
theorem dX5_widthOf_4 : decode cX5_widthOf 4 = .ok (.iload_n 2, 1) := by decide +kernel
theorem dX5_widthOf_5 : decode cX5_widthOf 5 = .ok (.aload_n 0, 1) := by decide +kernel
theorem dX5_widthOf_6 : decode cX5_widthOf 6 = .ok (.getfield 31, 3) := by decide +kernel
theorem dX5_widthOf_9 : decode cX5_widthOf 9 = .ok (.if_icmp .ge 19, 3) := by decide +kernel
theorem dX5_widthOf_12 : decode cX5_widthOf 12 = .ok (.aload_n 0, 1) := by decide +kernel
theorem dX5_widthOf_13 : decode cX5_widthOf 13 = .ok (.getfield 22, 3) := by decide +kernel
theorem dX5_widthOf_16 : decode cX5_widthOf 16 = .ok (.iload_n 2, 1) := by decide +kernel
theorem dX5_widthOf_17 : decode cX5_widthOf 17 = .ok (.iaload, 1) := by decide +kernel
theorem dX5_widthOf_18 : decode cX5_widthOf 18 = .ok (.iload_n 1, 1) := by decide +kernel
theorem dX5_widthOf_19 : decode cX5_widthOf 19 = .ok (.if_icmp .lt 9, 3) := by decide +kernel
theorem dX5_widthOf_22 : decode cX5_widthOf 22 = .ok (.iinc 2 1, 3) := by decide +kernel
theorem dX5_widthOf_25 : decode cX5_widthOf 25 = .ok (.goto (-21), 3) := by decide +kernel
theorem dX5_widthOf_28 : decode cX5_widthOf 28 = .ok (.iload_n 2, 1) := by decide +kernel
theorem dX5_widthOf_29 : decode cX5_widthOf 29 = .ok (.iload_n 1, 1) := by decide +kernel
theorem dX5_widthOf_30 : decode cX5_widthOf 30 = .ok (.isub, 1) := by decide +kernel
theorem dX5_widthOf_31 : decode cX5_widthOf 31 = .ok (.ireturn, 1) := by decide +kernel
set_option maxRecDepth 20000 in
theorem ggX5_endOf_X5_widthOf : GoodIn wsX5_endOf wsX5_widthOf := goodIn_r _ [5, 6, 7, 8, 9, 10, 11, 12, 13, 14] (by decide +kernel) (by decide +kernel)
set_option maxRecDepth 20000 in
theorem gX5_endOf_X5_widthOf : GoodIn wsX5_endOf (wsV RX5 41 RX5 yX5_widthOf wsX5_widthOf) := goodIn_app (goodIn_of _ (by decide +kernel)) ggX5_endOf_X5_widthOf
theorem dX5_endOf_0 : decode cX5_endOf 0 = .ok (.iload_n 1, 1) := by decide +kernel
theorem dX5_endOf_1 : decode cX5_endOf 1 = .ok (.aload_n 0, 1) := by decide +kernel
theorem dX5_endOf_2 : decode cX5_endOf 2 = .ok (.iload_n 1, 1) := by decide +kernel
theorem dX5_endOf_3 : decode cX5_endOf 3 = .ok (.invokevirtual 41, 3) := by decide +kernel
theorem dX5_endOf_6 : decode cX5_endOf 6 = .ok (.iadd, 1) := by decide +kernel
theorem dX5_endOf_7 : decode cX5_endOf 7 = .ok (.ireturn, 1) := by decide +kernel
theorem dX5_depthOf_0 : decode cX5_depthOf 0 = .ok (.iconst 0, 1) := by decide +kernel
theorem dX5_depthOf_1 : decode cX5_depthOf 1 = .ok (.istore_n 2, 1) := by decide +kernel
theorem dX5_depthOf_2 : decode cX5_depthOf 2 = .ok (.iload_n 1, 1) := by decide +kernel
theorem dX5_depthOf_3 : decode cX5_depthOf 3 = .ok (.istore_n 3, 1) := by decide +kernel
theorem dX5_depthOf_4 : decode cX5_depthOf 4 = .ok (.iload_n 3, 1) := by decide +kernel
theorem dX5_depthOf_5 : decode cX5_depthOf 5 = .ok (.ifCond .le 22, 3) := by decide +kernel
theorem dX5_depthOf_8 : decode cX5_depthOf 8 = .ok (.iload_n 2, 1) := by decide +kernel
theorem dX5_depthOf_9 : decode cX5_depthOf 9 = .ok (.bipush 20, 2) := by decide +kernel
theorem dX5_depthOf_11 : decode cX5_depthOf 11 = .ok (.if_icmp .ge 16, 3) := by decide +kernel
theorem dX5_depthOf_14 : decode cX5_depthOf 14 = .ok (.aload_n 0, 1) := by decide +kernel
theorem dX5_depthOf_15 : decode cX5_depthOf 15 = .ok (.getfield 22, 3) := by decide +kernel
theorem dX5_depthOf_18 : decode cX5_depthOf 18 = .ok (.iload_n 3, 1) := by decide +kernel
theorem dX5_depthOf_19 : decode cX5_depthOf 19 = .ok (.iaload, 1) := by decide +kernel
theorem dX5_depthOf_20 : decode cX5_depthOf 20 = .ok (.istore_n 3, 1) := by decide +kernel
theorem dX5_depthOf_21 : decode cX5_depthOf 21 = .ok (.iinc 2 1, 3) := by decide +kernel
theorem dX5_depthOf_24 : decode cX5_depthOf 24 = .ok (.goto (-20), 3) := by decide +kernel
theorem dX5_depthOf_27 : decode cX5_depthOf 27 = .ok (.iload_n 2, 1) := by decide +kernel
theorem dX5_depthOf_28 : decode cX5_depthOf 28 = .ok (.ireturn, 1) := by decide +kernel
theorem dX5_countChildren_0 : decode cX5_countChildren 0 = .ok (.iconst 0, 1) := by decide +kernel
theorem dX5_countChildren_1 : decode cX5_countChildren 1 = .ok (.istore_n 2, 1) := by decide +kernel
theorem dX5_countChildren_2 : decode cX5_countChildren 2 = .ok (.iload_n 1, 1) := by decide +kernel
theorem dX5_countChildren_3 : decode cX5_countChildren 3 = .ok (.iconst 1, 1) := by decide +kernel
theorem dX5_countChildren_4 : decode cX5_countChildren 4 = .ok (.iadd, 1) := by decide +kernel
theorem dX5_countChildren_5 : decode cX5_countChildren 5 = .ok (.istore_n 3, 1) := by decide +kernel
theorem dX5_countChildren_6 : decode cX5_countChildren 6 = .ok (.iload_n 3, 1) := by decide +kernel
theorem dX5_countChildren_7 : decode cX5_countChildren 7 = .ok (.aload_n 0, 1) := by decide +kernel
theorem dX5_countChildren_8 : decode cX5_countChildren 8 = .ok (.getfield 31, 3) := by decide +kernel
theorem dX5_countChildren_11 : decode cX5_countChildren 11 = .ok (.if_icmp .ge 22, 3) := by decide +kernel
theorem dX5_countChildren_14 : decode cX5_countChildren 14 = .ok (.aload_n 0, 1) := by decide +kernel
theorem dX5_countChildren_15 : decode cX5_countChildren 15 = .ok (.getfield 22, 3) := by decide +kernel
theorem dX5_countChildren_18 : decode cX5_countChildren 18 = .ok (.iload_n 3, 1) := by decide +kernel
theorem dX5_countChildren_19 : decode cX5_countChildren 19 = .ok (.iaload, 1) := by decide +kernel
theorem dX5_countChildren_20 : decode cX5_countChildren 20 = .ok (.iload_n 1, 1) := by decide +kernel
theorem dX5_countChildren_21 : decode cX5_countChildren 21 = .ok (.if_icmp .ne 6, 3) := by decide +kernel
theorem dX5_countChildren_24 : decode cX5_countChildren 24 = .ok (.iinc 2 1, 3) := by decide +kernel
theorem dX5_countChildren_27 : decode cX5_countChildren 27 = .ok (.iinc 3 1, 3) := by decide +kernel
theorem dX5_countChildren_30 : decode cX5_countChildren 30 = .ok (.goto (-24), 3) := by decide +kernel
theorem dX5_countChildren_33 : decode cX5_countChildren 33 = .ok (.iload_n 2, 1) := by decide +kernel
theorem dX5_countChildren_34 : decode cX5_countChildren 34 = .ok (.ireturn, 1) := by decide +kernel
theorem dX5_countLabel_0 : decode cX5_countLabel 0 = .ok (.iconst 0, 1) := by decide +kernel
theorem dX5_countLabel_1 : decode cX5_countLabel 1 = .ok (.istore_n 2, 1) := by decide +kernel
theorem dX5_countLabel_2 : decode cX5_countLabel 2 = .ok (.iconst 0, 1) := by decide +kernel
theorem dX5_countLabel_3 : decode cX5_countLabel 3 = .ok (.istore_n 3, 1) := by decide +kernel
theorem dX5_countLabel_4 : decode cX5_countLabel 4 = .ok (.iload_n 3, 1) := by decide +kernel
theorem dX5_countLabel_5 : decode cX5_countLabel 5 = .ok (.aload_n 0, 1) := by decide +kernel
theorem dX5_countLabel_6 : decode cX5_countLabel 6 = .ok (.getfield 31, 3) := by decide +kernel
theorem dX5_countLabel_9 : decode cX5_countLabel 9 = .ok (.if_icmp .ge 22, 3) := by decide +kernel
theorem dX5_countLabel_12 : decode cX5_countLabel 12 = .ok (.aload_n 0, 1) := by decide +kernel
theorem dX5_countLabel_13 : decode cX5_countLabel 13 = .ok (.getfield 9, 3) := by decide +kernel
theorem dX5_countLabel_16 : decode cX5_countLabel 16 = .ok (.iload_n 3, 1) := by decide +kernel
theorem dX5_countLabel_17 : decode cX5_countLabel 17 = .ok (.caload, 1) := by decide +kernel
theorem dX5_countLabel_18 : decode cX5_countLabel 18 = .ok (.iload_n 1, 1) := by decide +kernel
theorem dX5_countLabel_19 : decode cX5_countLabel 19 = .ok (.if_icmp .ne 6, 3) := by decide +kernel
theorem dX5_countLabel_22 : decode cX5_countLabel 22 = .ok (.iinc 2 1, 3) := by decide +kernel
theorem dX5_countLabel_25 : decode cX5_countLabel 25 = .ok (.iinc 3 1, 3) := by decide +kernel
theorem dX5_countLabel_28 : decode cX5_countLabel 28 = .ok (.goto (-24), 3) := by decide +kernel
theorem dX5_countLabel_31 : decode cX5_countLabel 31 = .ok (.iload_n 2, 1) := by decide +kernel
theorem dX5_countLabel_32 : decode cX5_countLabel 32 = .ok (.ireturn, 1) := by decide +kernel
set_option maxRecDepth 20000 in
theorem ggX5_placeOf_X5_endOf : GoodIn wsX5_placeOf wsX5_endOf := goodIn_r _ [7, 8, 9, 10, 6, 11, 1, 2, 12, 13, 14, 15, 16, 17, 18] (by decide +kernel) (by decide +kernel)
set_option maxRecDepth 20000 in
theorem gX5_placeOf_X5_endOf : GoodIn wsX5_placeOf (wsV RX5 45 RX5 yX5_endOf wsX5_endOf) := goodIn_app (goodIn_of _ (by decide +kernel)) ggX5_placeOf_X5_endOf
theorem dX5_placeOf_0 : decode cX5_placeOf 0 = .ok (.iconst 0, 1) := by decide +kernel
theorem dX5_placeOf_1 : decode cX5_placeOf 1 = .ok (.istore_n 3, 1) := by decide +kernel
theorem dX5_placeOf_2 : decode cX5_placeOf 2 = .ok (.iload_n 1, 1) := by decide +kernel
theorem dX5_placeOf_3 : decode cX5_placeOf 3 = .ok (.iconst 1, 1) := by decide +kernel
theorem dX5_placeOf_4 : decode cX5_placeOf 4 = .ok (.iadd, 1) := by decide +kernel
theorem dX5_placeOf_5 : decode cX5_placeOf 5 = .ok (.istore 4, 2) := by decide +kernel
theorem dX5_placeOf_7 : decode cX5_placeOf 7 = .ok (.iload 4, 2) := by decide +kernel
theorem dX5_placeOf_9 : decode cX5_placeOf 9 = .ok (.aload_n 0, 1) := by decide +kernel
theorem dX5_placeOf_10 : decode cX5_placeOf 10 = .ok (.getfield 31, 3) := by decide +kernel
theorem dX5_placeOf_13 : decode cX5_placeOf 13 = .ok (.if_icmp .ge 31, 3) := by decide +kernel
theorem dX5_placeOf_16 : decode cX5_placeOf 16 = .ok (.aload_n 0, 1) := by decide +kernel
theorem dX5_placeOf_17 : decode cX5_placeOf 17 = .ok (.getfield 22, 3) := by decide +kernel
theorem dX5_placeOf_20 : decode cX5_placeOf 20 = .ok (.iload 4, 2) := by decide +kernel
theorem dX5_placeOf_22 : decode cX5_placeOf 22 = .ok (.iaload, 1) := by decide +kernel
theorem dX5_placeOf_23 : decode cX5_placeOf 23 = .ok (.iload_n 1, 1) := by decide +kernel
theorem dX5_placeOf_24 : decode cX5_placeOf 24 = .ok (.if_icmp .ne 14, 3) := by decide +kernel
theorem dX5_placeOf_27 : decode cX5_placeOf 27 = .ok (.iload_n 3, 1) := by decide +kernel
theorem dX5_placeOf_28 : decode cX5_placeOf 28 = .ok (.iload_n 2, 1) := by decide +kernel
theorem dX5_placeOf_29 : decode cX5_placeOf 29 = .ok (.if_icmp .ne 6, 3) := by decide +kernel
theorem dX5_placeOf_32 : decode cX5_placeOf 32 = .ok (.iload 4, 2) := by decide +kernel
theorem dX5_placeOf_34 : decode cX5_placeOf 34 = .ok (.ireturn, 1) := by decide +kernel
theorem dX5_placeOf_35 : decode cX5_placeOf 35 = .ok (.iinc 3 1, 3) := by decide +kernel
theorem dX5_placeOf_38 : decode cX5_placeOf 38 = .ok (.iinc 4 1, 3) := by decide +kernel
theorem dX5_placeOf_41 : decode cX5_placeOf 41 = .ok (.goto (-34), 3) := by decide +kernel
theorem dX5_placeOf_44 : decode cX5_placeOf 44 = .ok (.aload_n 0, 1) := by decide +kernel
theorem dX5_placeOf_45 : decode cX5_placeOf 45 = .ok (.iload_n 1, 1) := by decide +kernel
theorem dX5_placeOf_46 : decode cX5_placeOf 46 = .ok (.invokevirtual 45, 3) := by decide +kernel
theorem dX5_placeOf_49 : decode cX5_placeOf 49 = .ok (.ireturn, 1) := by decide +kernel
theorem dX5_hasKey_0 : decode cX5_hasKey 0 = .ok (.iload_n 2, 1) := by decide +kernel
theorem dX5_hasKey_1 : decode cX5_hasKey 1 = .ok (.ifCond .ne 5, 3) := by decide +kernel
theorem dX5_hasKey_4 : decode cX5_hasKey 4 = .ok (.iconst 0, 1) := by decide +kernel
theorem dX5_hasKey_5 : decode cX5_hasKey 5 = .ok (.ireturn, 1) := by decide +kernel
theorem dX5_hasKey_6 : decode cX5_hasKey 6 = .ok (.iload_n 1, 1) := by decide +kernel
theorem dX5_hasKey_7 : decode cX5_hasKey 7 = .ok (.iconst 1, 1) := by decide +kernel
theorem dX5_hasKey_8 : decode cX5_hasKey 8 = .ok (.iadd, 1) := by decide +kernel
theorem dX5_hasKey_9 : decode cX5_hasKey 9 = .ok (.istore 4, 2) := by decide +kernel
theorem dX5_hasKey_11 : decode cX5_hasKey 11 = .ok (.iload 4, 2) := by decide +kernel
theorem dX5_hasKey_13 : decode cX5_hasKey 13 = .ok (.aload_n 0, 1) := by decide +kernel
theorem dX5_hasKey_14 : decode cX5_hasKey 14 = .ok (.getfield 31, 3) := by decide +kernel
theorem dX5_hasKey_17 : decode cX5_hasKey 17 = .ok (.if_icmp .ge 39, 3) := by decide +kernel
theorem dX5_hasKey_20 : decode cX5_hasKey 20 = .ok (.iload 4, 2) := by decide +kernel
theorem dX5_hasKey_22 : decode cX5_hasKey 22 = .ok (.iload_n 3, 1) := by decide +kernel
theorem dX5_hasKey_23 : decode cX5_hasKey 23 = .ok (.if_icmp .eq 27, 3) := by decide +kernel
theorem dX5_hasKey_26 : decode cX5_hasKey 26 = .ok (.aload_n 0, 1) := by decide +kernel
theorem dX5_hasKey_27 : decode cX5_hasKey 27 = .ok (.getfield 22, 3) := by decide +kernel
theorem dX5_hasKey_30 : decode cX5_hasKey 30 = .ok (.iload 4, 2) := by decide +kernel
theorem dX5_hasKey_32 : decode cX5_hasKey 32 = .ok (.iaload, 1) := by decide +kernel
theorem dX5_hasKey_33 : decode cX5_hasKey 33 = .ok (.iload_n 1, 1) := by decide +kernel
theorem dX5_hasKey_34 : decode cX5_hasKey 34 = .ok (.if_icmp .ne 16, 3) := by decide +kernel
theorem dX5_hasKey_37 : decode cX5_hasKey 37 = .ok (.aload_n 0, 1) := by decide +kernel
theorem dX5_hasKey_38 : decode cX5_hasKey 38 = .ok (.getfield 15, 3) := by decide +kernel
theorem dX5_hasKey_41 : decode cX5_hasKey 41 = .ok (.iload 4, 2) := by decide +kernel
theorem dX5_hasKey_43 : decode cX5_hasKey 43 = .ok (.iaload, 1) := by decide +kernel
theorem dX5_hasKey_44 : decode cX5_hasKey 44 = .ok (.iload_n 2, 1) := by decide +kernel
theorem dX5_hasKey_45 : decode cX5_hasKey 45 = .ok (.if_icmp .ne 5, 3) := by decide +kernel
theorem dX5_hasKey_48 : decode cX5_hasKey 48 = .ok (.iconst 1, 1) := by decide +kernel
theorem dX5_hasKey_49 : decode cX5_hasKey 49 = .ok (.ireturn, 1) := by decide +kernel
theorem dX5_hasKey_50 : decode cX5_hasKey 50 = .ok (.iinc 4 1, 3) := by decide +kernel
theorem dX5_hasKey_53 : decode cX5_hasKey 53 = .ok (.goto (-42), 3) := by decide +kernel
theorem dX5_hasKey_56 : decode cX5_hasKey 56 = .ok (.iconst 0, 1) := by decide +kernel
theorem dX5_hasKey_57 : decode cX5_hasKey 57 = .ok (.ireturn, 1) := by decide +kernel
set_option maxRecDepth 20000 in
theorem ggX5_openGap_X5_renumber : GoodIn wsX5_openGap wsX5_renumber := goodIn_r _ [6, 7, 8, 9, 10, 11, 12, 13, 14, 15, 16, 17, 18] (by decide +kernel) (by decide +kernel)
set_option maxRecDepth 20000 in
theorem gX5_openGap_X5_renumber : GoodIn wsX5_openGap (wsV RX5 48 RX5 yX5_renumber wsX5_renumber) := goodIn_app (goodIn_of _ (by decide +kernel)) ggX5_openGap_X5_renumber
theorem dX5_openGap_0 : decode cX5_openGap 0 = .ok (.iload_n 1, 1) := by decide +kernel
theorem dX5_openGap_1 : decode cX5_openGap 1 = .ok (.iconst 1, 1) := by decide +kernel
theorem dX5_openGap_2 : decode cX5_openGap 2 = .ok (.if_icmp .lt 26, 3) := by decide +kernel
theorem dX5_openGap_5 : decode cX5_openGap 5 = .ok (.iload_n 1, 1) := by decide +kernel
theorem dX5_openGap_6 : decode cX5_openGap 6 = .ok (.aload_n 0, 1) := by decide +kernel
theorem dX5_openGap_7 : decode cX5_openGap 7 = .ok (.getfield 31, 3) := by decide +kernel
theorem dX5_openGap_10 : decode cX5_openGap 10 = .ok (.if_icmp .gt 18, 3) := by decide +kernel
theorem dX5_openGap_13 : decode cX5_openGap 13 = .ok (.iload_n 2, 1) := by decide +kernel
theorem dX5_openGap_14 : decode cX5_openGap 14 = .ok (.ifCond .lt 14, 3) := by decide +kernel
theorem dX5_openGap_17 : decode cX5_openGap 17 = .ok (.iload_n 2, 1) := by decide +kernel
theorem dX5_openGap_18 : decode cX5_openGap 18 = .ok (.bipush 20, 2) := by decide +kernel
theorem dX5_openGap_20 : decode cX5_openGap 20 = .ok (.aload_n 0, 1) := by decide +kernel
theorem dX5_openGap_21 : decode cX5_openGap 21 = .ok (.getfield 31, 3) := by decide +kernel
theorem dX5_openGap_24 : decode cX5_openGap 24 = .ok (.isub, 1) := by decide +kernel
theorem dX5_openGap_25 : decode cX5_openGap 25 = .ok (.if_icmp .le 5, 3) := by decide +kernel
theorem dX5_openGap_28 : decode cX5_openGap 28 = .ok (.iconst 0, 1) := by decide +kernel
theorem dX5_openGap_29 : decode cX5_openGap 29 = .ok (.ireturn, 1) := by decide +kernel
theorem dX5_openGap_30 : decode cX5_openGap 30 = .ok (.aload_n 0, 1) := by decide +kernel
theorem dX5_openGap_31 : decode cX5_openGap 31 = .ok (.getfield 31, 3) := by decide +kernel
theorem dX5_openGap_34 : decode cX5_openGap 34 = .ok (.iconst 1, 1) := by decide +kernel
theorem dX5_openGap_35 : decode cX5_openGap 35 = .ok (.isub, 1) := by decide +kernel
theorem dX5_openGap_36 : decode cX5_openGap 36 = .ok (.istore_n 3, 1) := by decide +kernel
theorem dX5_openGap_37 : decode cX5_openGap 37 = .ok (.iload_n 3, 1) := by decide +kernel
theorem dX5_openGap_38 : decode cX5_openGap 38 = .ok (.iload_n 1, 1) := by decide +kernel
theorem dX5_openGap_39 : decode cX5_openGap 39 = .ok (.if_icmp .lt 19, 3) := by decide +kernel
theorem dX5_openGap_42 : decode cX5_openGap 42 = .ok (.aload_n 0, 1) := by decide +kernel
theorem dX5_openGap_43 : decode cX5_openGap 43 = .ok (.iload_n 3, 1) := by decide +kernel
theorem dX5_openGap_44 : decode cX5_openGap 44 = .ok (.iload_n 3, 1) := by decide +kernel
theorem dX5_openGap_45 : decode cX5_openGap 45 = .ok (.iload_n 2, 1) := by decide +kernel
theorem dX5_openGap_46 : decode cX5_openGap 46 = .ok (.iadd, 1) := by decide +kernel
theorem dX5_openGap_47 : decode cX5_openGap 47 = .ok (.iload_n 1, 1) := by decide +kernel
theorem dX5_openGap_48 : decode cX5_openGap 48 = .ok (.iload_n 2, 1) := by decide +kernel
theorem dX5_openGap_49 : decode cX5_openGap 49 = .ok (.invokevirtual 48, 3) := by decide +kernel
theorem dX5_openGap_52 : decode cX5_openGap 52 = .ok (.iinc 3 (-1), 3) := by decide +kernel
theorem dX5_openGap_55 : decode cX5_openGap 55 = .ok (.goto (-18), 3) := by decide +kernel
theorem dX5_openGap_58 : decode cX5_openGap 58 = .ok (.aload_n 0, 1) := by decide +kernel
theorem dX5_openGap_59 : decode cX5_openGap 59 = .ok (.dup, 1) := by decide +kernel
theorem dX5_openGap_60 : decode cX5_openGap 60 = .ok (.getfield 31, 3) := by decide +kernel
theorem dX5_openGap_63 : decode cX5_openGap 63 = .ok (.iload_n 2, 1) := by decide +kernel
theorem dX5_openGap_64 : decode cX5_openGap 64 = .ok (.iadd, 1) := by decide +kernel
theorem dX5_openGap_65 : decode cX5_openGap 65 = .ok (.putfield 31, 3) := by decide +kernel
theorem dX5_openGap_68 : decode cX5_openGap 68 = .ok (.iconst 1, 1) := by decide +kernel
theorem dX5_openGap_69 : decode cX5_openGap 69 = .ok (.ireturn, 1) := by decide +kernel
set_option maxRecDepth 20000 in
theorem ggX5_cutOut_X5_widthOf : GoodIn wsX5_cutOut wsX5_widthOf := goodIn_r _ [6, 1, 7, 16, 17, 18, 19, 20, 21, 22] (by decide +kernel) (by decide +kernel)
set_option maxRecDepth 20000 in
theorem gX5_cutOut_X5_widthOf : GoodIn wsX5_cutOut (wsV RX5 41 RX5 yX5_widthOf wsX5_widthOf) := goodIn_app (goodIn_of _ (by decide +kernel)) ggX5_cutOut_X5_widthOf
set_option maxRecDepth 20000 in
theorem ggX5_cutOut_X5_renumber : GoodIn wsX5_cutOut wsX5_renumber := goodIn_r _ [11, 12, 13, 14, 7, 15, 16, 17, 18, 19, 20, 21, 22] (by decide +kernel) (by decide +kernel)
set_option maxRecDepth 20000 in
theorem gX5_cutOut_X5_renumber : GoodIn wsX5_cutOut (wsV RX5 48 RX5 yX5_renumber wsX5_renumber) := goodIn_app (goodIn_of _ (by decide +kernel)) ggX5_cutOut_X5_renumber
theorem dX5_cutOut_0 : decode cX5_cutOut 0 = .ok (.iload_n 1, 1) := by decide +kernel
theorem dX5_cutOut_1 : decode cX5_cutOut 1 = .ok (.iconst 1, 1) := by decide +kernel
theorem dX5_cutOut_2 : decode cX5_cutOut 2 = .ok (.if_icmp .lt 11, 3) := by decide +kernel
theorem dX5_cutOut_5 : decode cX5_cutOut 5 = .ok (.iload_n 1, 1) := by decide +kernel
theorem dX5_cutOut_6 : decode cX5_cutOut 6 = .ok (.aload_n 0, 1) := by decide +kernel
theorem dX5_cutOut_7 : decode cX5_cutOut 7 = .ok (.getfield 31, 3) := by decide +kernel
theorem dX5_cutOut_10 : decode cX5_cutOut 10 = .ok (.if_icmp .lt 4, 3) := by decide +kernel
theorem dX5_cutOut_13 : decode cX5_cutOut 13 = .ok (.return_, 1) := by decide +kernel
theorem dX5_cutOut_14 : decode cX5_cutOut 14 = .ok (.aload_n 0, 1) := by decide +kernel
theorem dX5_cutOut_15 : decode cX5_cutOut 15 = .ok (.iload_n 1, 1) := by decide +kernel
theorem dX5_cutOut_16 : decode cX5_cutOut 16 = .ok (.invokevirtual 41, 3) := by decide +kernel
theorem dX5_cutOut_19 : decode cX5_cutOut 19 = .ok (.istore_n 2, 1) := by decide +kernel
theorem dX5_cutOut_20 : decode cX5_cutOut 20 = .ok (.iload_n 1, 1) := by decide +kernel
theorem dX5_cutOut_21 : decode cX5_cutOut 21 = .ok (.iload_n 2, 1) := by decide +kernel
theorem dX5_cutOut_22 : decode cX5_cutOut 22 = .ok (.iadd, 1) := by decide +kernel
theorem dX5_cutOut_23 : decode cX5_cutOut 23 = .ok (.istore_n 3, 1) := by decide +kernel
theorem dX5_cutOut_24 : decode cX5_cutOut 24 = .ok (.iload_n 3, 1) := by decide +kernel
theorem dX5_cutOut_25 : decode cX5_cutOut 25 = .ok (.istore 4, 2) := by decide +kernel
theorem dX5_cutOut_27 : decode cX5_cutOut 27 = .ok (.iload 4, 2) := by decide +kernel
theorem dX5_cutOut_29 : decode cX5_cutOut 29 = .ok (.aload_n 0, 1) := by decide +kernel
theorem dX5_cutOut_30 : decode cX5_cutOut 30 = .ok (.getfield 31, 3) := by decide +kernel
theorem dX5_cutOut_33 : decode cX5_cutOut 33 = .ok (.if_icmp .ge 22, 3) := by decide +kernel
theorem dX5_cutOut_36 : decode cX5_cutOut 36 = .ok (.aload_n 0, 1) := by decide +kernel
theorem dX5_cutOut_37 : decode cX5_cutOut 37 = .ok (.iload 4, 2) := by decide +kernel
theorem dX5_cutOut_39 : decode cX5_cutOut 39 = .ok (.iload 4, 2) := by decide +kernel
theorem dX5_cutOut_41 : decode cX5_cutOut 41 = .ok (.iload_n 2, 1) := by decide +kernel
theorem dX5_cutOut_42 : decode cX5_cutOut 42 = .ok (.isub, 1) := by decide +kernel
theorem dX5_cutOut_43 : decode cX5_cutOut 43 = .ok (.iload_n 3, 1) := by decide +kernel
theorem dX5_cutOut_44 : decode cX5_cutOut 44 = .ok (.iload_n 2, 1) := by decide +kernel
theorem dX5_cutOut_45 : decode cX5_cutOut 45 = .ok (.ineg, 1) := by decide +kernel
theorem dX5_cutOut_46 : decode cX5_cutOut 46 = .ok (.invokevirtual 48, 3) := by decide +kernel
theorem dX5_cutOut_49 : decode cX5_cutOut 49 = .ok (.iinc 4 1, 3) := by decide +kernel
theorem dX5_cutOut_52 : decode cX5_cutOut 52 = .ok (.goto (-25), 3) := by decide +kernel
theorem dX5_cutOut_55 : decode cX5_cutOut 55 = .ok (.aload_n 0, 1) := by decide +kernel
theorem dX5_cutOut_56 : decode cX5_cutOut 56 = .ok (.dup, 1) := by decide +kernel
theorem dX5_cutOut_57 : decode cX5_cutOut 57 = .ok (.getfield 31, 3) := by decide +kernel
theorem dX5_cutOut_60 : decode cX5_cutOut 60 = .ok (.iload_n 2, 1) := by decide +kernel
theorem dX5_cutOut_61 : decode cX5_cutOut 61 = .ok (.isub, 1) := by decide +kernel
theorem dX5_cutOut_62 : decode cX5_cutOut 62 = .ok (.putfield 31, 3) := by decide +kernel
theorem dX5_cutOut_65 : decode cX5_cutOut 65 = .ok (.return_, 1) := by decide +kernel
theorem dX5_renumber_0 : decode cX5_renumber 0 = .ok (.aload_n 0, 1) := by decide +kernel
theorem dX5_renumber_1 : decode cX5_renumber 1 = .ok (.getfield 9, 3) := by decide +kernel
theorem dX5_renumber_4 : decode cX5_renumber 4 = .ok (.iload_n 2, 1) := by decide +kernel
theorem dX5_renumber_5 : decode cX5_renumber 5 = .ok (.aload_n 0, 1) := by decide +kernel
theorem dX5_renumber_6 : decode cX5_renumber 6 = .ok (.getfield 9, 3) := by decide +kernel
theorem dX5_renumber_9 : decode cX5_renumber 9 = .ok (.iload_n 1, 1) := by decide +kernel
theorem dX5_renumber_10 : decode cX5_renumber 10 = .ok (.caload, 1) := by decide +kernel
theorem dX5_renumber_11 : decode cX5_renumber 11 = .ok (.castore, 1) := by decide +kernel
theorem dX5_renumber_12 : decode cX5_renumber 12 = .ok (.aload_n 0, 1) := by decide +kernel
theorem dX5_renumber_13 : decode cX5_renumber 13 = .ok (.getfield 15, 3) := by decide +kernel
theorem dX5_renumber_16 : decode cX5_renumber 16 = .ok (.iload_n 2, 1) := by decide +kernel
theorem dX5_renumber_17 : decode cX5_renumber 17 = .ok (.aload_n 0, 1) := by decide +kernel
theorem dX5_renumber_18 : decode cX5_renumber 18 = .ok (.getfield 15, 3) := by decide +kernel
theorem dX5_renumber_21 : decode cX5_renumber 21 = .ok (.iload_n 1, 1) := by decide +kernel
theorem dX5_renumber_22 : decode cX5_renumber 22 = .ok (.iaload, 1) := by decide +kernel
theorem dX5_renumber_23 : decode cX5_renumber 23 = .ok (.iastore, 1) := by decide +kernel
theorem dX5_renumber_24 : decode cX5_renumber 24 = .ok (.aload_n 0, 1) := by decide +kernel
theorem dX5_renumber_25 : decode cX5_renumber 25 = .ok (.getfield 19, 3) := by decide +kernel
theorem dX5_renumber_28 : decode cX5_renumber 28 = .ok (.iload_n 2, 1) := by decide +kernel
theorem dX5_renumber_29 : decode cX5_renumber 29 = .ok (.aload_n 0, 1) := by decide +kernel
theorem dX5_renumber_30 : decode cX5_renumber 30 = .ok (.getfield 19, 3) := by decide +kernel
theorem dX5_renumber_33 : decode cX5_renumber 33 = .ok (.iload_n 1, 1) := by decide +kernel
theorem dX5_renumber_34 : decode cX5_renumber 34 = .ok (.iaload, 1) := by decide +kernel
theorem dX5_renumber_35 : decode cX5_renumber 35 = .ok (.iastore, 1) := by decide +kernel
theorem dX5_renumber_36 : decode cX5_renumber 36 = .ok (.aload_n 0, 1) := by decide +kernel
theorem dX5_renumber_37 : decode cX5_renumber 37 = .ok (.getfield 22, 3) := by decide +kernel
