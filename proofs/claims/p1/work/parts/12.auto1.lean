theorem dX5_init_0 : decode cX5_init 0 = .ok (.aload_n 0, 1) := by decide +kernel
theorem dX5_init_1 : decode cX5_init 1 = .ok (.invokespecial 3, 3) := by decide +kernel
theorem dX5_init_4 : decode cX5_init 4 = .ok (.aload_n 0, 1) := by decide +kernel
theorem dX5_init_5 : decode cX5_init 5 = .ok (.bipush 20, 2) := by decide +kernel
theorem dX5_init_7 : decode cX5_init 7 = .ok (.newarray .char, 2) := by decide +kernel
theorem dX5_init_9 : decode cX5_init 9 = .ok (.putfield 9, 3) := by decide +kernel
theorem dX5_init_12 : decode cX5_init 12 = .ok (.aload_n 0, 1) := by decide +kernel
theorem dX5_init_13 : decode cX5_init 13 = .ok (.bipush 20, 2) := by decide +kernel
theorem dX5_init_15 : decode cX5_init 15 = .ok (.newarray .int, 2) := by decide +kernel
theorem dX5_init_17 : decode cX5_init 17 = .ok (.putfield 15, 3) := by decide +kernel
theorem dX5_init_20 : decode cX5_init 20 = .ok (.aload_n 0, 1) := by decide +kernel
theorem dX5_init_21 : decode cX5_init 21 = .ok (.bipush 20, 2) := by decide +kernel
theorem dX5_init_23 : decode cX5_init 23 = .ok (.newarray .int, 2) := by decide +kernel
theorem dX5_init_25 : decode cX5_init 25 = .ok (.putfield 19, 3) := by decide +kernel
theorem dX5_init_28 : decode cX5_init 28 = .ok (.aload_n 0, 1) := by decide +kernel
theorem dX5_init_29 : decode cX5_init 29 = .ok (.bipush 20, 2) := by decide +kernel
theorem dX5_init_31 : decode cX5_init 31 = .ok (.newarray .int, 2) := by decide +kernel
theorem dX5_init_33 : decode cX5_init 33 = .ok (.putfield 22, 3) := by decide +kernel
theorem dX5_init_36 : decode cX5_init 36 = .ok (.aload_n 0, 1) := by decide +kernel
theorem dX5_init_37 : decode cX5_init 37 = .ok (.bipush 20, 2) := by decide +kernel
theorem dX5_init_39 : decode cX5_init 39 = .ok (.newarray .int, 2) := by decide +kernel
theorem dX5_init_41 : decode cX5_init 41 = .ok (.putfield 25, 3) := by decide +kernel
theorem dX5_init_44 : decode cX5_init 44 = .ok (.aload_n 0, 1) := by decide +kernel
theorem dX5_init_45 : decode cX5_init 45 = .ok (.bipush 20, 2) := by decide +kernel
theorem dX5_init_47 : decode cX5_init 47 = .ok (.newarray .int, 2) := by decide +kernel
theorem dX5_init_49 : decode cX5_init 49 = .ok (.putfield 28, 3) := by decide +kernel
theorem dX5_init_52 : decode cX5_init 52 = .ok (.aload_n 0, 1) := by decide +kernel
theorem dX5_init_53 : decode cX5_init 53 = .ok (.getfield 9, 3) := by decide +kernel
theorem dX5_init_56 : decode cX5_init 56 = .ok (.iconst 0, 1) := by decide +kernel
theorem dX5_init_57 : decode cX5_init 57 = .ok (.bipush 97, 2) := by decide +kernel
theorem dX5_init_59 : decode cX5_init 59 = .ok (.castore, 1) := by decide +kernel
theorem dX5_init_60 : decode cX5_init 60 = .ok (.aload_n 0, 1) := by decide +kernel
theorem dX5_init_61 : decode cX5_init 61 = .ok (.getfield 22, 3) := by decide +kernel
theorem dX5_init_64 : decode cX5_init 64 = .ok (.iconst 0, 1) := by decide +kernel
theorem dX5_init_65 : decode cX5_init 65 = .ok (.iconst (-1), 1) := by decide +kernel
theorem dX5_init_66 : decode cX5_init 66 = .ok (.iastore, 1) := by decide +kernel
theorem dX5_init_67 : decode cX5_init 67 = .ok (.aload_n 0, 1) := by decide +kernel
theorem dX5_init_68 : decode cX5_init 68 = .ok (.iconst 1, 1) := by decide +kernel
theorem dX5_init_69 : decode cX5_init 69 = .ok (.putfield 31, 3) := by decide +kernel
theorem dX5_init_72 : decode cX5_init 72 = .ok (.return_, 1) := by decide +kernel
theorem dX4_init_0 : decode cX4_init 0 = .ok (.aload_n 0, 1) := by decide +kernel
theorem dX4_init_1 : decode cX4_init 1 = .ok (.invokespecial 3, 3) := by decide +kernel
theorem dX4_init_4 : decode cX4_init 4 = .ok (.aload_n 0, 1) := by decide +kernel
theorem dX4_init_5 : decode cX4_init 5 = .ok (.bipush 80, 2) := by decide +kernel
theorem dX4_init_7 : decode cX4_init 7 = .ok (.newarray .char, 2) := by decide +kernel
theorem dX4_init_9 : decode cX4_init 9 = .ok (.putfield 9, 3) := by decide +kernel
theorem dX4_init_12 : decode cX4_init 12 = .ok (.aload_n 0, 1) := by decide +kernel
theorem dX4_init_13 : decode cX4_init 13 = .ok (.new 15, 3) := by decide +kernel
theorem dX4_init_16 : decode cX4_init 16 = .ok (.dup, 1) := by decide +kernel
set_option maxRecDepth 20000 in
theorem ggX4_init_X5_init : GoodIn wsX4_init wsX5_init := goodIn_r _ [12, 13, 2, 3, 4, 14, 15, 16, 17, 18, 19, 20, 21, 26, 27, 28, 29, 30, 31, 32] (by decide +kernel) (by decide +kernel)
set_option maxRecDepth 20000 in
theorem gX4_init_X5_init : GoodIn wsX4_init (wsX5_init) := ggX4_init_X5_init
theorem dX4_init_17 : decode cX4_init 17 = .ok (.invokespecial 17, 3) := by decide +kernel
theorem dX4_init_20 : decode cX4_init 20 = .ok (.putfield 18, 3) := by decide +kernel
theorem dX4_init_23 : decode cX4_init 23 = .ok (.return_, 1) := by decide +kernel
theorem dX0_init_0 : decode cX0_init 0 = .ok (.aload_n 0, 1) := by decide +kernel
theorem dX0_init_1 : decode cX0_init 1 = .ok (.invokespecial 3, 3) := by decide +kernel
theorem dX0_init_4 : decode cX0_init 4 = .ok (.aload_n 0, 1) := by decide +kernel
theorem dX0_init_5 : decode cX0_init 5 = .ok (.sipush 160, 3) := by decide +kernel
theorem dX0_init_8 : decode cX0_init 8 = .ok (.newarray .char, 2) := by decide +kernel
theorem dX0_init_10 : decode cX0_init 10 = .ok (.putfield 9, 3) := by decide +kernel
theorem dX0_init_13 : decode cX0_init 13 = .ok (.return_, 1) := by decide +kernel
theorem dX1_init_0 : decode cX1_init 0 = .ok (.aload_n 0, 1) := by decide +kernel
theorem dX1_init_1 : decode cX1_init 1 = .ok (.invokespecial 3, 3) := by decide +kernel
theorem dX1_init_4 : decode cX1_init 4 = .ok (.aload_n 0, 1) := by decide +kernel
theorem dX1_init_5 : decode cX1_init 5 = .ok (.bipush 20, 2) := by decide +kernel
theorem dX1_init_7 : decode cX1_init 7 = .ok (.bipush 20, 2) := by decide +kernel
theorem dX1_init_9 : decode cX1_init 9 = .ok (.multianewarray 9 2, 4) := by decide +kernel
theorem dX1_init_13 : decode cX1_init 13 = .ok (.putfield 11, 3) := by decide +kernel
theorem dX1_init_16 : decode cX1_init 16 = .ok (.aload_n 0, 1) := by decide +kernel
theorem dX1_init_17 : decode cX1_init 17 = .ok (.bipush 21, 2) := by decide +kernel
theorem dX1_init_19 : decode cX1_init 19 = .ok (.bipush 21, 2) := by decide +kernel
theorem dX1_init_21 : decode cX1_init 21 = .ok (.multianewarray 9 2, 4) := by decide +kernel
theorem dX1_init_25 : decode cX1_init 25 = .ok (.putfield 16, 3) := by decide +kernel
theorem dX1_init_28 : decode cX1_init 28 = .ok (.aload_n 0, 1) := by decide +kernel
theorem dX1_init_29 : decode cX1_init 29 = .ok (.bipush 20, 2) := by decide +kernel
theorem dX1_init_31 : decode cX1_init 31 = .ok (.newarray .int, 2) := by decide +kernel
theorem dX1_init_33 : decode cX1_init 33 = .ok (.putfield 19, 3) := by decide +kernel
theorem dX1_init_36 : decode cX1_init 36 = .ok (.aload_n 0, 1) := by decide +kernel
theorem dX1_init_37 : decode cX1_init 37 = .ok (.bipush 20, 2) := by decide +kernel
theorem dX1_init_39 : decode cX1_init 39 = .ok (.newarray .int, 2) := by decide +kernel
theorem dX1_init_41 : decode cX1_init 41 = .ok (.putfield 23, 3) := by decide +kernel
theorem dX1_init_44 : decode cX1_init 44 = .ok (.aload_n 0, 1) := by decide +kernel
theorem dX1_init_45 : decode cX1_init 45 = .ok (.bipush 20, 2) := by decide +kernel
theorem dX1_init_47 : decode cX1_init 47 = .ok (.newarray .int, 2) := by decide +kernel
theorem dX1_init_49 : decode cX1_init 49 = .ok (.putfield 26, 3) := by decide +kernel
theorem dX1_init_52 : decode cX1_init 52 = .ok (.aload_n 0, 1) := by decide +kernel
theorem dX1_init_53 : decode cX1_init 53 = .ok (.bipush 20, 2) := by decide +kernel
theorem dX1_init_55 : decode cX1_init 55 = .ok (.newarray .int, 2) := by decide +kernel
theorem dX1_init_57 : decode cX1_init 57 = .ok (.putfield 29, 3) := by decide +kernel
theorem dX1_init_60 : decode cX1_init 60 = .ok (.aload_n 0, 1) := by decide +kernel
theorem dX1_init_61 : decode cX1_init 61 = .ok (.bipush 20, 2) := by decide +kernel
theorem dX1_init_63 : decode cX1_init 63 = .ok (.newarray .int, 2) := by decide +kernel
theorem dX1_init_65 : decode cX1_init 65 = .ok (.putfield 32, 3) := by decide +kernel
theorem dX1_init_68 : decode cX1_init 68 = .ok (.aload_n 0, 1) := by decide +kernel
theorem dX1_init_69 : decode cX1_init 69 = .ok (.bipush 20, 2) := by decide +kernel
theorem dX1_init_71 : decode cX1_init 71 = .ok (.newarray .int, 2) := by decide +kernel
theorem dX1_init_73 : decode cX1_init 73 = .ok (.putfield 35, 3) := by decide +kernel
theorem dX1_init_76 : decode cX1_init 76 = .ok (.return_, 1) := by decide +kernel
theorem dX6_init_0 : decode cX6_init 0 = .ok (.aload_n 0, 1) := by decide +kernel
theorem dX6_init_1 : decode cX6_init 1 = .ok (.invokespecial 3, 3) := by decide +kernel
theorem dX6_init_4 : decode cX6_init 4 = .ok (.aload_n 0, 1) := by decide +kernel
theorem dX6_init_5 : decode cX6_init 5 = .ok (.bipush 7, 2) := by decide +kernel
theorem dX6_init_7 : decode cX6_init 7 = .ok (.newarray .int, 2) := by decide +kernel
theorem dX6_init_9 : decode cX6_init 9 = .ok (.putfield 9, 3) := by decide +kernel
theorem dX6_init_12 : decode cX6_init 12 = .ok (.return_, 1) := by decide +kernel
theorem dX3_init_0 : decode cX3_init 0 = .ok (.aload_n 0, 1) := by decide +kernel
theorem dX3_init_1 : decode cX3_init 1 = .ok (.invokespecial 3, 3) := by decide +kernel
theorem dX3_init_4 : decode cX3_init 4 = .ok (.aload_n 0, 1) := by decide +kernel
theorem dX3_init_5 : decode cX3_init 5 = .ok (.new 9, 3) := by decide +kernel
theorem dX3_init_8 : decode cX3_init 8 = .ok (.dup, 1) := by decide +kernel
set_option maxRecDepth 20000 in
theorem ggX3_init_X5_init : GoodIn wsX3_init wsX5_init := goodIn_r _ [18, 19, 2, 3, 12, 20, 9, 21, 22, 23, 24, 25, 26, 27, 28, 29, 30, 31, 32, 33] (by decide +kernel) (by decide +kernel)
set_option maxRecDepth 20000 in
theorem gX3_init_X5_init : GoodIn wsX3_init (wsX5_init) := ggX3_init_X5_init
theorem dX3_init_9 : decode cX3_init 9 = .ok (.invokespecial 11, 3) := by decide +kernel
theorem dX3_init_12 : decode cX3_init 12 = .ok (.putfield 12, 3) := by decide +kernel
theorem dX3_init_15 : decode cX3_init 15 = .ok (.aload_n 0, 1) := by decide +kernel
theorem dX3_init_16 : decode cX3_init 16 = .ok (.new 9, 3) := by decide +kernel
theorem dX3_init_19 : decode cX3_init 19 = .ok (.dup, 1) := by decide +kernel
theorem dX3_init_20 : decode cX3_init 20 = .ok (.invokespecial 11, 3) := by decide +kernel
theorem dX3_init_23 : decode cX3_init 23 = .ok (.putfield 18, 3) := by decide +kernel
theorem dX3_init_26 : decode cX3_init 26 = .ok (.aload_n 0, 1) := by decide +kernel
theorem dX3_init_27 : decode cX3_init 27 = .ok (.bipush 20, 2) := by decide +kernel
theorem dX3_init_29 : decode cX3_init 29 = .ok (.newarray .int, 2) := by decide +kernel
theorem dX3_init_31 : decode cX3_init 31 = .ok (.putfield 21, 3) := by decide +kernel
theorem dX3_init_34 : decode cX3_init 34 = .ok (.aload_n 0, 1) := by decide +kernel
theorem dX3_init_35 : decode cX3_init 35 = .ok (.bipush 20, 2) := by decide +kernel
theorem dX3_init_37 : decode cX3_init 37 = .ok (.newarray .int, 2) := by decide +kernel
theorem dX3_init_39 : decode cX3_init 39 = .ok (.putfield 25, 3) := by decide +kernel
theorem dX3_init_42 : decode cX3_init 42 = .ok (.aload_n 0, 1) := by decide +kernel
theorem dX3_init_43 : decode cX3_init 43 = .ok (.bipush 40, 2) := by decide +kernel
theorem dX3_init_45 : decode cX3_init 45 = .ok (.newarray .char, 2) := by decide +kernel
theorem dX3_init_47 : decode cX3_init 47 = .ok (.putfield 28, 3) := by decide +kernel
theorem dX3_init_50 : decode cX3_init 50 = .ok (.aload_n 0, 1) := by decide +kernel
theorem dX3_init_51 : decode cX3_init 51 = .ok (.bipush 40, 2) := by decide +kernel
theorem dX3_init_53 : decode cX3_init 53 = .ok (.newarray .int, 2) := by decide +kernel
theorem dX3_init_55 : decode cX3_init 55 = .ok (.putfield 32, 3) := by decide +kernel
theorem dX3_init_58 : decode cX3_init 58 = .ok (.aload_n 0, 1) := by decide +kernel
theorem dX3_init_59 : decode cX3_init 59 = .ok (.bipush 40, 2) := by decide +kernel
theorem dX3_init_61 : decode cX3_init 61 = .ok (.newarray .int, 2) := by decide +kernel
theorem dX3_init_63 : decode cX3_init 63 = .ok (.putfield 35, 3) := by decide +kernel
theorem dX3_init_66 : decode cX3_init 66 = .ok (.return_, 1) := by decide +kernel
theorem dX2_init_0 : decode cX2_init 0 = .ok (.aload_n 0, 1) := by decide +kernel
theorem dX2_init_1 : decode cX2_init 1 = .ok (.invokespecial 3, 3) := by decide +kernel
theorem dX2_init_4 : decode cX2_init 4 = .ok (.aload_n 0, 1) := by decide +kernel
theorem dX2_init_5 : decode cX2_init 5 = .ok (.new 9, 3) := by decide +kernel
theorem dX2_init_8 : decode cX2_init 8 = .ok (.dup, 1) := by decide +kernel
set_option maxRecDepth 20000 in
theorem ggX2_init_X1_init : GoodIn wsX2_init wsX1_init := goodIn_r _ [15, 16, 2, 3, 17, 18, 19, 20, 21, 22, 23, 24, 25, 26, 39, 40, 41, 42, 43, 44, 45, 46, 47, 48] (by decide +kernel) (by decide +kernel)
set_option maxRecDepth 20000 in
theorem gX2_init_X1_init_n11 : GoodIn wsX2_init (wsX1_init) := ggX2_init_X1_init
theorem dX2_init_9 : decode cX2_init 9 = .ok (.invokespecial 11, 3) := by decide +kernel
theorem dX2_init_12 : decode cX2_init 12 = .ok (.putfield 12, 3) := by decide +kernel
theorem dX2_init_15 : decode cX2_init 15 = .ok (.aload_n 0, 1) := by decide +kernel
theorem dX2_init_16 : decode cX2_init 16 = .ok (.new 18, 3) := by decide +kernel
theorem dX2_init_19 : decode cX2_init 19 = .ok (.dup, 1) := by decide +kernel
set_option maxRecDepth 20000 in
theorem ggX2_init_X5_init : GoodIn wsX2_init wsX5_init := goodIn_r _ [29, 30, 2, 3, 31, 32, 18, 33, 34, 35, 36, 37, 38, 53, 54, 55, 56, 57, 58, 59] (by decide +kernel) (by decide +kernel)
set_option maxRecDepth 20000 in
theorem gX2_init_X5_init : GoodIn wsX2_init (wsX5_init) := ggX2_init_X5_init
theorem dX2_init_20 : decode cX2_init 20 = .ok (.invokespecial 20, 3) := by decide +kernel
theorem dX2_init_23 : decode cX2_init 23 = .ok (.putfield 21, 3) := by decide +kernel
theorem dX2_init_26 : decode cX2_init 26 = .ok (.aload_n 0, 1) := by decide +kernel
theorem dX2_init_27 : decode cX2_init 27 = .ok (.iconst (-1), 1) := by decide +kernel
theorem dX2_init_28 : decode cX2_init 28 = .ok (.putfield 25, 3) := by decide +kernel
theorem dX2_init_31 : decode cX2_init 31 = .ok (.aload_n 0, 1) := by decide +kernel
theorem dX2_init_32 : decode cX2_init 32 = .ok (.bipush 32, 2) := by decide +kernel
theorem dX2_init_34 : decode cX2_init 34 = .ok (.putfield 29, 3) := by decide +kernel
theorem dX2_init_37 : decode cX2_init 37 = .ok (.return_, 1) := by decide +kernel
theorem dX7_init_0 : decode cX7_init 0 = .ok (.aload_n 0, 1) := by decide +kernel
theorem dX7_init_1 : decode cX7_init 1 = .ok (.invokespecial 1, 3) := by decide +kernel
theorem dX7_init_4 : decode cX7_init 4 = .ok (.aload_n 0, 1) := by decide +kernel
theorem dX7_init_5 : decode cX7_init 5 = .ok (.iconst 3, 1) := by decide +kernel
theorem dX7_init_6 : decode cX7_init 6 = .ok (.anewarray 9, 3) := by decide +kernel
theorem dX7_init_9 : decode cX7_init 9 = .ok (.putfield 11, 3) := by decide +kernel
theorem dX7_init_12 : decode cX7_init 12 = .ok (.aload_n 0, 1) := by decide +kernel
theorem dX7_init_13 : decode cX7_init 13 = .ok (.new 15, 3) := by decide +kernel
theorem dX7_init_16 : decode cX7_init 16 = .ok (.dup, 1) := by decide +kernel
set_option maxRecDepth 20000 in
theorem ggX7_init_X4_init : GoodIn wsX7_init wsX4_init := goodIn_r _ [36, 37, 2, 3, 38, 39, 40, 33, 34, 41, 42, 43, 44, 45, 46, 47, 48, 49, 50, 51, 52, 53, 107, 108, 109, 110, 138, 139, 140, 141, 142, 143, 144] (by decide +kernel) (by decide +kernel)
set_option maxRecDepth 20000 in
theorem gX7_init_X4_init_n17 : GoodIn wsX7_init (wsX4_init) := ggX7_init_X4_init
theorem dX7_init_17 : decode cX7_init 17 = .ok (.invokespecial 17, 3) := by decide +kernel
theorem dX7_init_20 : decode cX7_init 20 = .ok (.putfield 18, 3) := by decide +kernel
theorem dX7_init_23 : decode cX7_init 23 = .ok (.aload_n 0, 1) := by decide +kernel
theorem dX7_init_24 : decode cX7_init 24 = .ok (.new 22, 3) := by decide +kernel
theorem dX7_init_27 : decode cX7_init 27 = .ok (.dup, 1) := by decide +kernel
set_option maxRecDepth 20000 in
theorem ggX7_init_X0_init : GoodIn wsX7_init wsX0_init := goodIn_r _ [55, 56, 2, 3, 38, 57, 111, 112] (by decide +kernel) (by decide +kernel)
set_option maxRecDepth 20000 in
theorem gX7_init_X0_init_n24 : GoodIn wsX7_init (wsX0_init) := ggX7_init_X0_init
theorem dX7_init_28 : decode cX7_init 28 = .ok (.invokespecial 24, 3) := by decide +kernel
theorem dX7_init_31 : decode cX7_init 31 = .ok (.putfield 25, 3) := by decide +kernel
theorem dX7_init_34 : decode cX7_init 34 = .ok (.aload_n 0, 1) := by decide +kernel
theorem dX7_init_35 : decode cX7_init 35 = .ok (.new 29, 3) := by decide +kernel
theorem dX7_init_38 : decode cX7_init 38 = .ok (.dup, 1) := by decide +kernel
set_option maxRecDepth 20000 in
theorem ggX7_init_X1_init : GoodIn wsX7_init wsX1_init := goodIn_r _ [59, 60, 2, 3, 61, 47, 62, 63, 64, 65, 66, 67, 68, 69, 113, 114, 115, 116, 117, 118, 119, 120, 121, 122] (by decide +kernel) (by decide +kernel)
set_option maxRecDepth 20000 in
theorem gX7_init_X1_init_n31 : GoodIn wsX7_init (wsX1_init) := ggX7_init_X1_init
theorem dX7_init_39 : decode cX7_init 39 = .ok (.invokespecial 31, 3) := by decide +kernel
theorem dX7_init_42 : decode cX7_init 42 = .ok (.putfield 32, 3) := by decide +kernel
theorem dX7_init_45 : decode cX7_init 45 = .ok (.aload_n 0, 1) := by decide +kernel
theorem dX7_init_46 : decode cX7_init 46 = .ok (.new 36, 3) := by decide +kernel
theorem dX7_init_49 : decode cX7_init 49 = .ok (.dup, 1) := by decide +kernel
set_option maxRecDepth 20000 in
theorem ggX7_init_X6_init : GoodIn wsX7_init wsX6_init := goodIn_r _ [71, 72, 2, 3, 47, 73, 123, 124] (by decide +kernel) (by decide +kernel)
set_option maxRecDepth 20000 in
theorem gX7_init_X6_init_n38 : GoodIn wsX7_init (wsX6_init) := ggX7_init_X6_init
theorem dX7_init_50 : decode cX7_init 50 = .ok (.invokespecial 38, 3) := by decide +kernel
theorem dX7_init_53 : decode cX7_init 53 = .ok (.putfield 39, 3) := by decide +kernel
theorem dX7_init_56 : decode cX7_init 56 = .ok (.aload_n 0, 1) := by decide +kernel
theorem dX7_init_57 : decode cX7_init 57 = .ok (.new 43, 3) := by decide +kernel
theorem dX7_init_60 : decode cX7_init 60 = .ok (.dup, 1) := by decide +kernel
set_option maxRecDepth 20000 in
theorem ggX7_init_X3_init : GoodIn wsX7_init wsX3_init := goodIn_r _ [75, 76, 2, 3, 77, 33, 34, 78, 79, 47, 80, 81, 38, 82, 83, 84, 85, 43, 44, 45, 46, 48, 49, 50, 51, 52, 53, 138, 139, 140, 141, 142, 143, 144, 125, 126, 127, 128, 129, 130, 131, 132, 133] (by decide +kernel) (by decide +kernel)
set_option maxRecDepth 20000 in
theorem gX7_init_X3_init_n45 : GoodIn wsX7_init (wsX3_init) := ggX7_init_X3_init
theorem dX7_init_61 : decode cX7_init 61 = .ok (.invokespecial 45, 3) := by decide +kernel
theorem dX7_init_64 : decode cX7_init 64 = .ok (.putfield 46, 3) := by decide +kernel
theorem dX7_init_67 : decode cX7_init 67 = .ok (.aload_n 0, 1) := by decide +kernel
theorem dX7_init_68 : decode cX7_init 68 = .ok (.new 50, 3) := by decide +kernel
theorem dX7_init_71 : decode cX7_init 71 = .ok (.dup, 1) := by decide +kernel
set_option maxRecDepth 20000 in
theorem ggX7_init_X2_init : GoodIn wsX7_init wsX2_init := goodIn_r _ [87, 88, 2, 3, 89, 15, 16, 90, 91, 33, 34, 92, 93, 94, 58, 59, 60, 61, 47, 62, 63, 64, 65, 66, 67, 68, 69, 95, 43, 44, 45, 38, 46, 48, 49, 50, 51, 52, 53, 113, 114, 115, 116, 117, 118, 119, 120, 121, 122, 134, 135, 136, 137, 138, 139, 140, 141, 142, 143, 144] (by decide +kernel) (by decide +kernel)
set_option maxRecDepth 20000 in
theorem gX7_init_X2_init_n52 : GoodIn wsX7_init (wsX2_init) := ggX7_init_X2_init
theorem dX7_init_72 : decode cX7_init 72 = .ok (.invokespecial 52, 3) := by decide +kernel
theorem dX7_init_75 : decode cX7_init 75 = .ok (.putfield 53, 3) := by decide +kernel
theorem dX7_init_78 : decode cX7_init 78 = .ok (.aload_n 0, 1) := by decide +kernel
theorem dX7_init_79 : decode cX7_init 79 = .ok (.iconst (-1), 1) := by decide +kernel
theorem dX7_init_80 : decode cX7_init 80 = .ok (.putfield 57, 3) := by decide +kernel
theorem dX7_init_83 : decode cX7_init 83 = .ok (.aload_n 0, 1) := by decide +kernel
theorem dX7_init_84 : decode cX7_init 84 = .ok (.iconst (-1), 1) := by decide +kernel
theorem dX7_init_85 : decode cX7_init 85 = .ok (.putfield 61, 3) := by decide +kernel
theorem dX7_init_88 : decode cX7_init 88 = .ok (.aload_n 0, 1) := by decide +kernel
theorem dX7_init_89 : decode cX7_init 89 = .ok (.bipush 32, 2) := by decide +kernel
theorem dX7_init_91 : decode cX7_init 91 = .ok (.putfield 64, 3) := by decide +kernel
theorem dX7_init_94 : decode cX7_init 94 = .ok (.iconst 0, 1) := by decide +kernel
theorem dX7_init_95 : decode cX7_init 95 = .ok (.istore_n 1, 1) := by decide +kernel
theorem dX7_init_96 : decode cX7_init 96 = .ok (.iload_n 1, 1) := by decide +kernel
theorem dX7_init_97 : decode cX7_init 97 = .ok (.iconst 3, 1) := by decide +kernel
theorem dX7_init_98 : decode cX7_init 98 = .ok (.if_icmp .ge 22, 3) := by decide +kernel
theorem dX7_init_101 : decode cX7_init 101 = .ok (.aload_n 0, 1) := by decide +kernel
theorem dX7_init_102 : decode cX7_init 102 = .ok (.getfield 11, 3) := by decide +kernel
theorem dX7_init_105 : decode cX7_init 105 = .ok (.iload_n 1, 1) := by decide +kernel
theorem dX7_init_106 : decode cX7_init 106 = .ok (.new 9, 3) := by decide +kernel
theorem dX7_init_109 : decode cX7_init 109 = .ok (.dup, 1) := by decide +kernel
set_option maxRecDepth 20000 in
theorem ggX7_init_X5_init : GoodIn wsX7_init wsX5_init := goodIn_r _ [44, 45, 2, 3, 38, 46, 47, 48, 49, 50, 51, 52, 53, 138, 139, 140, 141, 142, 143, 144] (by decide +kernel) (by decide +kernel)
set_option maxRecDepth 20000 in
theorem gX7_init_X5_init : GoodIn wsX7_init (wsX5_init) := ggX7_init_X5_init
theorem dX7_init_110 : decode cX7_init 110 = .ok (.invokespecial 68, 3) := by decide +kernel
theorem dX7_init_113 : decode cX7_init 113 = .ok (.aastore, 1) := by decide +kernel
theorem dX7_init_114 : decode cX7_init 114 = .ok (.iinc 1 1, 3) := by decide +kernel
theorem dX7_init_117 : decode cX7_init 117 = .ok (.goto (-21), 3) := by decide +kernel
theorem dX7_init_120 : decode cX7_init 120 = .ok (.return_, 1) := by decide +kernel
theorem dX9_init_0 : decode cX9_init 0 = .ok (.aload_n 0, 1) := by decide +kernel
theorem dX9_init_1 : decode cX9_init 1 = .ok (.invokespecial 3, 3) := by decide +kernel
theorem dX9_init_4 : decode cX9_init 4 = .ok (.aload_n 0, 1) := by decide +kernel
theorem dX9_init_5 : decode cX9_init 5 = .ok (.bipush 20, 2) := by decide +kernel
theorem dX9_init_7 : decode cX9_init 7 = .ok (.newarray .int, 2) := by decide +kernel
theorem dX9_init_9 : decode cX9_init 9 = .ok (.putfield 9, 3) := by decide +kernel
theorem dX9_init_12 : decode cX9_init 12 = .ok (.aload_n 0, 1) := by decide +kernel
theorem dX9_init_13 : decode cX9_init 13 = .ok (.bipush 20, 2) := by decide +kernel
theorem dX9_init_15 : decode cX9_init 15 = .ok (.newarray .int, 2) := by decide +kernel
theorem dX9_init_17 : decode cX9_init 17 = .ok (.putfield 15, 3) := by decide +kernel
theorem dX9_init_20 : decode cX9_init 20 = .ok (.aload_n 0, 1) := by decide +kernel
theorem dX9_init_21 : decode cX9_init 21 = .ok (.bipush 20, 2) := by decide +kernel
theorem dX9_init_23 : decode cX9_init 23 = .ok (.newarray .int, 2) := by decide +kernel
theorem dX9_init_25 : decode cX9_init 25 = .ok (.putfield 18, 3) := by decide +kernel
theorem dX9_init_28 : decode cX9_init 28 = .ok (.aload_n 0, 1) := by decide +kernel
theorem dX9_init_29 : decode cX9_init 29 = .ok (.bipush 20, 2) := by decide +kernel
theorem dX9_init_31 : decode cX9_init 31 = .ok (.newarray .int, 2) := by decide +kernel
theorem dX9_init_33 : decode cX9_init 33 = .ok (.putfield 21, 3) := by decide +kernel
theorem dX9_init_36 : decode cX9_init 36 = .ok (.return_, 1) := by decide +kernel
theorem dX9_sets_0 : decode cX9_sets 0 = .ok (.aload_n 0, 1) := by decide +kernel
theorem dX9_sets_1 : decode cX9_sets 1 = .ok (.getfield 9, 3) := by decide +kernel
theorem dX9_sets_4 : decode cX9_sets 4 = .ok (.iload_n 1, 1) := by decide +kernel
theorem dX9_sets_5 : decode cX9_sets 5 = .ok (.iload_n 2, 1) := by decide +kernel
theorem dX9_sets_6 : decode cX9_sets 6 = .ok (.iastore, 1) := by decide +kernel
theorem dX9_sets_7 : decode cX9_sets 7 = .ok (.aload_n 0, 1) := by decide +kernel
theorem dX9_sets_8 : decode cX9_sets 8 = .ok (.getfield 15, 3) := by decide +kernel
theorem dX9_sets_11 : decode cX9_sets 11 = .ok (.iload_n 1, 1) := by decide +kernel
theorem dX9_sets_12 : decode cX9_sets 12 = .ok (.iload_n 3, 1) := by decide +kernel
theorem dX9_sets_13 : decode cX9_sets 13 = .ok (.iastore, 1) := by decide +kernel
theorem dX9_sets_14 : decode cX9_sets 14 = .ok (.aload_n 0, 1) := by decide +kernel
theorem dX9_sets_15 : decode cX9_sets 15 = .ok (.getfield 18, 3) := by decide +kernel
theorem dX9_sets_18 : decode cX9_sets 18 = .ok (.iload_n 1, 1) := by decide +kernel
theorem dX9_sets_19 : decode cX9_sets 19 = .ok (.iload 4, 2) := by decide +kernel
theorem dX9_sets_21 : decode cX9_sets 21 = .ok (.iastore, 1) := by decide +kernel
theorem dX9_sets_22 : decode cX9_sets 22 = .ok (.aload_n 0, 1) := by decide +kernel
theorem dX9_sets_23 : decode cX9_sets 23 = .ok (.getfield 21, 3) := by decide +kernel
theorem dX9_sets_26 : decode cX9_sets 26 = .ok (.iload_n 1, 1) := by decide +kernel
theorem dX9_sets_27 : decode cX9_sets 27 = .ok (.iload 5, 2) := by decide +kernel
theorem dX9_sets_29 : decode cX9_sets 29 = .ok (.iastore, 1) := by decide +kernel
theorem dX9_sets_30 : decode cX9_sets 30 = .ok (.return_, 1) := by decide +kernel
theorem dX9_adds_0 : decode cX9_adds 0 = .ok (.aload_n 0, 1) := by decide +kernel
theorem dX9_adds_1 : decode cX9_adds 1 = .ok (.aload_n 0, 1) := by decide +kernel
theorem dX9_adds_2 : decode cX9_adds 2 = .ok (.getfield 24, 3) := by decide +kernel
theorem dX9_adds_5 : decode cX9_adds 5 = .ok (.iload_n 1, 1) := by decide +kernel
theorem dX9_adds_6 : decode cX9_adds 6 = .ok (.iload_n 2, 1) := by decide +kernel
theorem dX9_adds_7 : decode cX9_adds 7 = .ok (.iload_n 3, 1) := by decide +kernel
theorem dX9_adds_8 : decode cX9_adds 8 = .ok (.iload 4, 2) := by decide +kernel
set_option maxRecDepth 20000 in
theorem ggX9_adds_X9_sets : GoodIn wsX9_adds wsX9_sets := goodIn_r _ [6, 7, 8, 9, 10, 11, 12, 13, 14, 15] (by decide +kernel) (by decide +kernel)
set_option maxRecDepth 20000 in
theorem gX9_adds_X9_sets : GoodIn wsX9_adds (wsV RX9 28 RX9 yX9_sets wsX9_sets) := goodIn_app (goodIn_of _ (by decide +kernel)) ggX9_adds_X9_sets
theorem dX9_adds_10 : decode cX9_adds 10 = .ok (.invokevirtual 28, 3) := by decide +kernel
theorem dX9_adds_13 : decode cX9_adds 13 = .ok (.aload_n 0, 1) := by decide +kernel
theorem dX9_adds_14 : decode cX9_adds 14 = .ok (.dup, 1) := by decide +kernel
theorem dX9_adds_15 : decode cX9_adds 15 = .ok (.getfield 24, 3) := by decide +kernel
theorem dX9_adds_18 : decode cX9_adds 18 = .ok (.iconst 1, 1) := by decide +kernel
theorem dX9_adds_19 : decode cX9_adds 19 = .ok (.iadd, 1) := by decide +kernel
theorem dX9_adds_20 : decode cX9_adds 20 = .ok (.putfield 24, 3) := by decide +kernel
theorem dX9_adds_23 : decode cX9_adds 23 = .ok (.return_, 1) := by decide +kernel
theorem dX10_init_0 : decode cX10_init 0 = .ok (.aload_n 0, 1) := by decide +kernel
theorem dX10_init_1 : decode cX10_init 1 = .ok (.invokespecial 20, 3) := by decide +kernel
theorem dX10_init_4 : decode cX10_init 4 = .ok (.aload_n 0, 1) := by decide +kernel
theorem dX10_init_5 : decode cX10_init 5 = .ok (.iconst 3, 1) := by decide +kernel
theorem dX10_init_6 : decode cX10_init 6 = .ok (.anewarray 2, 3) := by decide +kernel
theorem dX10_init_9 : decode cX10_init 9 = .ok (.dup, 1) := by decide +kernel
theorem dX10_init_10 : decode cX10_init 10 = .ok (.iconst 0, 1) := by decide +kernel
theorem dX10_init_11 : decode cX10_init 11 = .ok (.new 2, 3) := by decide +kernel
theorem dX10_init_14 : decode cX10_init 14 = .ok (.dup, 1) := by decide +kernel
set_option maxRecDepth 20000 in
theorem ggX10_init_X9_init : GoodIn wsX10_init wsX9_init := goodIn_r _ [32, 33, 2, 3, 14, 34, 35, 36, 37, 46, 47, 48, 49, 50] (by decide +kernel) (by decide +kernel)
set_option maxRecDepth 20000 in
theorem gX10_init_X9_init_n26 : GoodIn wsX10_init (wsX9_init) := ggX10_init_X9_init
theorem dX10_init_15 : decode cX10_init 15 = .ok (.invokespecial 26, 3) := by decide +kernel
theorem dX10_init_18 : decode cX10_init 18 = .ok (.aastore, 1) := by decide +kernel
theorem dX10_init_19 : decode cX10_init 19 = .ok (.dup, 1) := by decide +kernel
theorem dX10_init_20 : decode cX10_init 20 = .ok (.iconst 1, 1) := by decide +kernel
theorem dX10_init_21 : decode cX10_init 21 = .ok (.new 2, 3) := by decide +kernel
theorem dX10_init_24 : decode cX10_init 24 = .ok (.dup, 1) := by decide +kernel
theorem dX10_init_25 : decode cX10_init 25 = .ok (.invokespecial 26, 3) := by decide +kernel
theorem dX10_init_28 : decode cX10_init 28 = .ok (.aastore, 1) := by decide +kernel
theorem dX10_init_29 : decode cX10_init 29 = .ok (.dup, 1) := by decide +kernel
theorem dX10_init_30 : decode cX10_init 30 = .ok (.iconst 2, 1) := by decide +kernel
theorem dX10_init_31 : decode cX10_init 31 = .ok (.new 2, 3) := by decide +kernel
theorem dX10_init_34 : decode cX10_init 34 = .ok (.dup, 1) := by decide +kernel
theorem dX10_init_35 : decode cX10_init 35 = .ok (.invokespecial 26, 3) := by decide +kernel
theorem dX10_init_38 : decode cX10_init 38 = .ok (.aastore, 1) := by decide +kernel
theorem dX10_init_39 : decode cX10_init 39 = .ok (.putfield 27, 3) := by decide +kernel
theorem dX10_init_42 : decode cX10_init 42 = .ok (.aload_n 0, 1) := by decide +kernel
theorem dX10_init_43 : decode cX10_init 43 = .ok (.bipush 80, 2) := by decide +kernel
theorem dX10_init_45 : decode cX10_init 45 = .ok (.newarray .char, 2) := by decide +kernel
theorem dX10_init_47 : decode cX10_init 47 = .ok (.putfield 33, 3) := by decide +kernel
theorem dX10_init_50 : decode cX10_init 50 = .ok (.aload_n 0, 1) := by decide +kernel
theorem dX10_init_51 : decode cX10_init 51 = .ok (.iconst (-1), 1) := by decide +kernel
theorem dX10_init_52 : decode cX10_init 52 = .ok (.putfield 37, 3) := by decide +kernel
theorem dX10_init_55 : decode cX10_init 55 = .ok (.aload_n 0, 1) := by decide +kernel
theorem dX10_init_56 : decode cX10_init 56 = .ok (.ldc 41, 2) := by decide +kernel
theorem dX10_init_58 : decode cX10_init 58 = .ok (.putfield 43, 3) := by decide +kernel
theorem dX10_init_61 : decode cX10_init 61 = .ok (.aload_n 0, 1) := by decide +kernel
theorem dX10_init_62 : decode cX10_init 62 = .ok (.new 2, 3) := by decide +kernel
theorem dX10_init_65 : decode cX10_init 65 = .ok (.dup, 1) := by decide +kernel
theorem dX10_init_66 : decode cX10_init 66 = .ok (.invokespecial 26, 3) := by decide +kernel
theorem dX10_init_69 : decode cX10_init 69 = .ok (.putfield 47, 3) := by decide +kernel
theorem dX10_init_72 : decode cX10_init 72 = .ok (.aload_n 0, 1) := by decide +kernel
theorem dX10_init_73 : decode cX10_init 73 = .ok (.bipush 20, 2) := by decide +kernel
theorem dX10_init_75 : decode cX10_init 75 = .ok (.bipush 20, 2) := by decide +kernel
theorem dX10_init_77 : decode cX10_init 77 = .ok (.multianewarray 51 2, 4) := by decide +kernel
theorem dX10_init_81 : decode cX10_init 81 = .ok (.putfield 53, 3) := by decide +kernel
theorem dX10_init_84 : decode cX10_init 84 = .ok (.aload_n 0, 1) := by decide +kernel
theorem dX10_init_85 : decode cX10_init 85 = .ok (.bipush 80, 2) := by decide +kernel
theorem dX10_init_87 : decode cX10_init 87 = .ok (.newarray .char, 2) := by decide +kernel
theorem dX10_init_89 : decode cX10_init 89 = .ok (.putfield 56, 3) := by decide +kernel
theorem dX10_init_92 : decode cX10_init 92 = .ok (.aload_n 0, 1) := by decide +kernel
theorem dX10_init_93 : decode cX10_init 93 = .ok (.bipush 80, 2) := by decide +kernel
theorem dX10_init_95 : decode cX10_init 95 = .ok (.newarray .int, 2) := by decide +kernel
theorem dX10_init_97 : decode cX10_init 97 = .ok (.putfield 59, 3) := by decide +kernel
theorem dX10_init_100 : decode cX10_init 100 = .ok (.aload_n 0, 1) := by decide +kernel
theorem dX10_init_101 : decode cX10_init 101 = .ok (.bipush 80, 2) := by decide +kernel
theorem dX10_init_103 : decode cX10_init 103 = .ok (.newarray .int, 2) := by decide +kernel
theorem dX10_init_105 : decode cX10_init 105 = .ok (.putfield 62, 3) := by decide +kernel
theorem dX10_init_108 : decode cX10_init 108 = .ok (.aload_n 0, 1) := by decide +kernel
theorem dX10_init_109 : decode cX10_init 109 = .ok (.bipush 20, 2) := by decide +kernel
theorem dX10_init_111 : decode cX10_init 111 = .ok (.newarray .int, 2) := by decide +kernel
theorem dX10_init_113 : decode cX10_init 113 = .ok (.putfield 65, 3) := by decide +kernel
theorem dX10_init_116 : decode cX10_init 116 = .ok (.aload_n 0, 1) := by decide +kernel
theorem dX10_init_117 : decode cX10_init 117 = .ok (.bipush 20, 2) := by decide +kernel
theorem dX10_init_119 : decode cX10_init 119 = .ok (.newarray .int, 2) := by decide +kernel
theorem dX10_init_121 : decode cX10_init 121 = .ok (.putfield 68, 3) := by decide +kernel
theorem dX10_init_124 : decode cX10_init 124 = .ok (.aload_n 0, 1) := by decide +kernel
theorem dX10_init_125 : decode cX10_init 125 = .ok (.new 2, 3) := by decide +kernel
theorem dX10_init_128 : decode cX10_init 128 = .ok (.dup, 1) := by decide +kernel
theorem dX10_init_129 : decode cX10_init 129 = .ok (.invokespecial 26, 3) := by decide +kernel
theorem dX10_init_132 : decode cX10_init 132 = .ok (.putfield 71, 3) := by decide +kernel
theorem dX10_init_135 : decode cX10_init 135 = .ok (.aload_n 0, 1) := by decide +kernel
theorem dX10_init_136 : decode cX10_init 136 = .ok (.new 2, 3) := by decide +kernel
theorem dX10_init_139 : decode cX10_init 139 = .ok (.dup, 1) := by decide +kernel
theorem dX10_init_140 : decode cX10_init 140 = .ok (.invokespecial 26, 3) := by decide +kernel
theorem dX10_init_143 : decode cX10_init 143 = .ok (.putfield 74, 3) := by decide +kernel
theorem dX10_init_146 : decode cX10_init 146 = .ok (.aload_n 0, 1) := by decide +kernel
theorem dX10_init_147 : decode cX10_init 147 = .ok (.bipush 80, 2) := by decide +kernel
theorem dX10_init_149 : decode cX10_init 149 = .ok (.newarray .char, 2) := by decide +kernel
theorem dX10_init_151 : decode cX10_init 151 = .ok (.putfield 77, 3) := by decide +kernel
theorem dX10_init_154 : decode cX10_init 154 = .ok (.aload_n 0, 1) := by decide +kernel
theorem dX10_init_155 : decode cX10_init 155 = .ok (.bipush 80, 2) := by decide +kernel
theorem dX10_init_157 : decode cX10_init 157 = .ok (.newarray .int, 2) := by decide +kernel
theorem dX10_init_159 : decode cX10_init 159 = .ok (.putfield 80, 3) := by decide +kernel
theorem dX10_init_162 : decode cX10_init 162 = .ok (.aload_n 0, 1) := by decide +kernel
theorem dX10_init_163 : decode cX10_init 163 = .ok (.bipush 80, 2) := by decide +kernel
theorem dX10_init_165 : decode cX10_init 165 = .ok (.newarray .int, 2) := by decide +kernel
theorem dX10_init_167 : decode cX10_init 167 = .ok (.putfield 83, 3) := by decide +kernel
theorem dX10_init_170 : decode cX10_init 170 = .ok (.aload_n 0, 1) := by decide +kernel
theorem dX10_init_171 : decode cX10_init 171 = .ok (.bipush 20, 2) := by decide +kernel
theorem dX10_init_173 : decode cX10_init 173 = .ok (.newarray .int, 2) := by decide +kernel
theorem dX10_init_175 : decode cX10_init 175 = .ok (.putfield 86, 3) := by decide +kernel
theorem dX10_init_178 : decode cX10_init 178 = .ok (.aload_n 0, 1) := by decide +kernel
theorem dX10_init_179 : decode cX10_init 179 = .ok (.bipush 20, 2) := by decide +kernel
theorem dX10_init_181 : decode cX10_init 181 = .ok (.newarray .int, 2) := by decide +kernel
theorem dX10_init_183 : decode cX10_init 183 = .ok (.putfield 89, 3) := by decide +kernel
theorem dX10_init_186 : decode cX10_init 186 = .ok (.aload_n 0, 1) := by decide +kernel
theorem dX10_init_187 : decode cX10_init 187 = .ok (.bipush 20, 2) := by decide +kernel
theorem dX10_init_189 : decode cX10_init 189 = .ok (.anewarray 92, 3) := by decide +kernel
theorem dX10_init_192 : decode cX10_init 192 = .ok (.putfield 94, 3) := by decide +kernel
theorem dX10_init_195 : decode cX10_init 195 = .ok (.aload_n 0, 1) := by decide +kernel
theorem dX10_init_196 : decode cX10_init 196 = .ok (.iconst (-1), 1) := by decide +kernel
theorem dX10_init_197 : decode cX10_init 197 = .ok (.putfield 98, 3) := by decide +kernel
theorem dX10_init_200 : decode cX10_init 200 = .ok (.aload_n 0, 1) := by decide +kernel
theorem dX10_init_201 : decode cX10_init 201 = .ok (.getfield 27, 3) := by decide +kernel
theorem dX10_init_204 : decode cX10_init 204 = .ok (.astore_n 1, 1) := by decide +kernel
theorem dX10_init_205 : decode cX10_init 205 = .ok (.aload_n 1, 1) := by decide +kernel
theorem dX10_init_206 : decode cX10_init 206 = .ok (.arraylength, 1) := by decide +kernel
theorem dX10_init_207 : decode cX10_init 207 = .ok (.istore_n 2, 1) := by decide +kernel
theorem dX10_init_208 : decode cX10_init 208 = .ok (.iconst 0, 1) := by decide +kernel
theorem dX10_init_209 : decode cX10_init 209 = .ok (.istore_n 3, 1) := by decide +kernel
theorem dX10_init_210 : decode cX10_init 210 = .ok (.iload_n 3, 1) := by decide +kernel
theorem dX10_init_211 : decode cX10_init 211 = .ok (.iload_n 2, 1) := by decide +kernel
theorem dX10_init_212 : decode cX10_init 212 = .ok (.if_icmp .ge 24, 3) := by decide +kernel
theorem dX10_init_215 : decode cX10_init 215 = .ok (.aload_n 1, 1) := by decide +kernel
theorem dX10_init_216 : decode cX10_init 216 = .ok (.iload_n 3, 1) := by decide +kernel
theorem dX10_init_217 : decode cX10_init 217 = .ok (.aaload, 1) := by decide +kernel
theorem dX10_init_218 : decode cX10_init 218 = .ok (.astore 4, 2) := by decide +kernel
theorem dX10_init_220 : decode cX10_init 220 = .ok (.aload 4, 2) := by decide +kernel
theorem dX10_init_222 : decode cX10_init 222 = .ok (.bipush 97, 2) := by decide +kernel
theorem dX10_init_224 : decode cX10_init 224 = .ok (.iconst 0, 1) := by decide +kernel
theorem dX10_init_225 : decode cX10_init 225 = .ok (.iconst 0, 1) := by decide +kernel
theorem dX10_init_226 : decode cX10_init 226 = .ok (.iconst (-1), 1) := by decide +kernel
set_option maxRecDepth 20000 in
theorem ggX10_init_X9_adds : GoodIn wsX10_init wsX9_adds := goodIn_r _ [40, 41, 42, 43, 44, 6, 45, 34, 35, 36, 37, 46, 47, 48, 49, 50] (by decide +kernel) (by decide +kernel)
set_option maxRecDepth 20000 in
theorem gX10_init_X9_adds_n101 : GoodIn wsX10_init (wsX9_adds) := ggX10_init_X9_adds
theorem dX10_init_227 : decode cX10_init 227 = .ok (.invokevirtual 101, 3) := by decide +kernel
theorem dX10_init_230 : decode cX10_init 230 = .ok (.iinc 3 1, 3) := by decide +kernel
theorem dX10_init_233 : decode cX10_init 233 = .ok (.goto (-23), 3) := by decide +kernel
theorem dX10_init_236 : decode cX10_init 236 = .ok (.return_, 1) := by decide +kernel
variable {l : Launch} {N0 : Nat} {D : va_G} {cI cC cL cD cII cTr cTm cIt cB : ClassId} {F : Nat → Option va_E} {ql : Nat → Nat}
theorem i_X5_init_X5 : ∀ w ∈ u_ws RX5 TX5 7, w ∈ wsX5_init := by decide +kernel
theorem k1_X5_init {n b1 : Nat} (hn : N0 + 0 ≤ n) (hb1 : N0 + 0 ≤ b1) (h0 : F b1 = some (.inr (7, [.null, .null, .null, .null, .null, .null, .int 0]))) : Met l yX5_init wsX5_init ({ frames := 1, cells := 6, slots := 120, locals := 12 }) (va_Pc [.ref b1] (fP N0 D vwCl (fty cI cC cL cD cII cTr cTm cIt cB) (fen ql) F n)) (fQv N0 D vwCl (fty cI cC cL cD cII cTr cTm cIt cB) (fun (_ : Unit) => True) (fun _ => (fblk (fu F b1 (.inr (7, [.ref n, .ref (n + 1), .ref (n + 2), .ref (n + 3), .ref (n + 4), .ref (n + 5), .int 1]))) n [.inl (cC, 20, .inl (upd (fun _ => 0) 0 97)), .inl (cI, 20, .inl (fun _ => 0)), .inl (cI, 20, .inl (fun _ => 0)), .inl (cI, 20, .inl (upd (fun _ => 0) 0 (-1))), .inl (cI, 20, .inl (fun _ => 0)), .inl (cI, 20, .inl (fun _ => 0))])) (fun _ => (n + 6))) 6 120 (fA N0) := by
  refine fx_start 1 rfl rfl (Nat.le_of_ble_eq_true rfl) ?_ rfl
  intro p e s m below meth c ls S hr hlocks hin hG hl
  have hl : lv_has ls 1 [(0, .ref b1)] := hl
  have lt_h0 := hG.1.lt h0
  refine lv_aload_n S.1 S.2.1 dX5_init_0 rfl (lv_at hl 0 rfl) ?_
  refine gx_objInit S hG (by decide +kernel) (by decide +kernel) (by decide +kernel) hl.1 dX5_init_1 (Nat.le_of_ble_eq_true rfl) (Nat.le_of_ble_eq_true rfl) ?_
  refine lv_aload_n S.1 S.2.1 dX5_init_4 rfl (lv_at hl 0 rfl) ?_
  refine lv_bipush (v := 20) S.1 S.2.1 dX5_init_5 (by decide) ?_
  refine gx_newa (atype := .char) (ty := .char) (N' := 20) (a0 := (20, .inl (fun _ => 0))) S hG (by decide +kernel) rfl 1 rfl (fun _ => rfl) (by decide) (by decide) (by decide) (by decide) (by decide) dX5_init_7 (fun H hG => ?_)
  refine W.widen (k := 1) (n := 20) (by decide) (by decide) ?_
  refine gx_putF (C := RX5) (T := TX5) (N := 7) (ty := (.array .char)) (v := .ref n) (fs' := [.ref n, .null, .null, .null, .null, .null, .int 0]) S hG (fu_at (by omega) h0) i_X5_init_X5 rfl 0 (by decide) tyX5 tyX5_ok nmX5 (by decide +kernel) rfl hin rfl (by decide +kernel) rfl rfl (Nat.le_of_ble_eq_true rfl) rfl dX5_init_9 (fun H locs hG => ?_)
  refine lv_aload_n S.1 S.2.1 dX5_init_12 rfl (lv_at hl 0 rfl) ?_
  refine lv_bipush (v := 20) S.1 S.2.1 dX5_init_13 (by decide) ?_
  refine gx_newa (atype := .int) (ty := .int) (N' := 20) (a0 := (20, .inl (fun _ => 0))) S hG (by decide +kernel) rfl 0 rfl (fun _ => rfl) (by decide) (by decide) (by decide) (by decide) (by decide) dX5_init_15 (fun H hG => ?_)
  refine W.widen (k := 2) (n := 40) (by decide) (by decide) ?_
  refine gx_putF (C := RX5) (T := TX5) (N := 7) (ty := (.array .int)) (v := .ref (n + 1)) (fs' := [.ref n, .ref (n + 1), .null, .null, .null, .null, .int 0]) S hG (fu_at (by omega) fu_s) i_X5_init_X5 rfl 1 (by decide) tyX5 tyX5_ok nmX5 (by decide +kernel) rfl hin rfl (by decide +kernel) rfl rfl (Nat.le_of_ble_eq_true rfl) rfl dX5_init_17 (fun H locs hG => ?_)
  refine lv_aload_n S.1 S.2.1 dX5_init_20 rfl (lv_at hl 0 rfl) ?_
  refine lv_bipush (v := 20) S.1 S.2.1 dX5_init_21 (by decide) ?_
  refine gx_newa (atype := .int) (ty := .int) (N' := 20) (a0 := (20, .inl (fun _ => 0))) S hG (by decide +kernel) rfl 0 rfl (fun _ => rfl) (by decide) (by decide) (by decide) (by decide) (by decide) dX5_init_23 (fun H hG => ?_)
  refine W.widen (k := 3) (n := 60) (by decide) (by decide) ?_
  refine gx_putF (C := RX5) (T := TX5) (N := 7) (ty := (.array .int)) (v := .ref (n + 2)) (fs' := [.ref n, .ref (n + 1), .ref (n + 2), .null, .null, .null, .int 0]) S hG (fu_at (by omega) fu_s) i_X5_init_X5 rfl 2 (by decide) tyX5 tyX5_ok nmX5 (by decide +kernel) rfl hin rfl (by decide +kernel) rfl rfl (Nat.le_of_ble_eq_true rfl) rfl dX5_init_25 (fun H locs hG => ?_)
  refine lv_aload_n S.1 S.2.1 dX5_init_28 rfl (lv_at hl 0 rfl) ?_
  refine lv_bipush (v := 20) S.1 S.2.1 dX5_init_29 (by decide) ?_
  refine gx_newa (atype := .int) (ty := .int) (N' := 20) (a0 := (20, .inl (fun _ => 0))) S hG (by decide +kernel) rfl 0 rfl (fun _ => rfl) (by decide) (by decide) (by decide) (by decide) (by decide) dX5_init_31 (fun H hG => ?_)
  refine W.widen (k := 4) (n := 80) (by decide) (by decide) ?_
  refine gx_putF (C := RX5) (T := TX5) (N := 7) (ty := (.array .int)) (v := .ref (n + 3)) (fs' := [.ref n, .ref (n + 1), .ref (n + 2), .ref (n + 3), .null, .null, .int 0]) S hG (fu_at (by omega) fu_s) i_X5_init_X5 rfl 3 (by decide) tyX5 tyX5_ok nmX5 (by decide +kernel) rfl hin rfl (by decide +kernel) rfl rfl (Nat.le_of_ble_eq_true rfl) rfl dX5_init_33 (fun H locs hG => ?_)
  refine lv_aload_n S.1 S.2.1 dX5_init_36 rfl (lv_at hl 0 rfl) ?_
  refine lv_bipush (v := 20) S.1 S.2.1 dX5_init_37 (by decide) ?_
  refine gx_newa (atype := .int) (ty := .int) (N' := 20) (a0 := (20, .inl (fun _ => 0))) S hG (by decide +kernel) rfl 0 rfl (fun _ => rfl) (by decide) (by decide) (by decide) (by decide) (by decide) dX5_init_39 (fun H hG => ?_)
  refine W.widen (k := 5) (n := 100) (by decide) (by decide) ?_
  refine gx_putF (C := RX5) (T := TX5) (N := 7) (ty := (.array .int)) (v := .ref (n + 4)) (fs' := [.ref n, .ref (n + 1), .ref (n + 2), .ref (n + 3), .ref (n + 4), .null, .int 0]) S hG (fu_at (by omega) fu_s) i_X5_init_X5 rfl 4 (by decide) tyX5 tyX5_ok nmX5 (by decide +kernel) rfl hin rfl (by decide +kernel) rfl rfl (Nat.le_of_ble_eq_true rfl) rfl dX5_init_41 (fun H locs hG => ?_)
  refine lv_aload_n S.1 S.2.1 dX5_init_44 rfl (lv_at hl 0 rfl) ?_
  refine lv_bipush (v := 20) S.1 S.2.1 dX5_init_45 (by decide) ?_
  refine gx_newa (atype := .int) (ty := .int) (N' := 20) (a0 := (20, .inl (fun _ => 0))) S hG (by decide +kernel) rfl 0 rfl (fun _ => rfl) (by decide) (by decide) (by decide) (by decide) (by decide) dX5_init_47 (fun H hG => ?_)
  refine W.widen (k := 6) (n := 120) (by decide) (by decide) ?_
  refine gx_putF (C := RX5) (T := TX5) (N := 7) (ty := (.array .int)) (v := .ref (n + 5)) (fs' := [.ref n, .ref (n + 1), .ref (n + 2), .ref (n + 3), .ref (n + 4), .ref (n + 5), .int 0]) S hG (fu_at (by omega) fu_s) i_X5_init_X5 rfl 5 (by decide) tyX5 tyX5_ok nmX5 (by decide +kernel) rfl hin rfl (by decide +kernel) rfl rfl (Nat.le_of_ble_eq_true rfl) rfl dX5_init_49 (fun H locs hG => ?_)
  refine lv_aload_n S.1 S.2.1 dX5_init_52 rfl (lv_at hl 0 rfl) ?_
  refine gx_get (C := RX5) (T := TX5) (N := 7) S hG fu_s i_X5_init_X5 rfl 0 (by decide) (by decide +kernel) rfl dX5_init_53 ?_
  refine lv_iconst (v := 0) S.1 S.2.1 dX5_init_56 (by decide) ?_
  refine lv_bipush (v := 97) S.1 S.2.1 dX5_init_57 (by decide) ?_
  refine gx_cast (f' := upd (fun _ => 0) 0 97) S hG 1 (fu_at (by omega) (fu_at (by omega) (fu_at (by omega) (fu_at (by omega) (fu_at (by omega) (fu_at (by omega) (fu_at (by omega) (fu_at (by omega) (fu_at (by omega) (fu_at (by omega) (fu_at (by omega) fu_s))))))))))) rfl (fin_l (by decide)) dX5_init_59 (rfl) (fun H locs hG => ?_)
  refine lv_aload_n S.1 S.2.1 dX5_init_60 rfl (lv_at hl 0 rfl) ?_
  refine gx_get (C := RX5) (T := TX5) (N := 7) S hG (fu_at (by omega) fu_s) i_X5_init_X5 rfl 3 (by decide) (by decide +kernel) rfl dX5_init_61 ?_
  refine lv_iconst (v := 0) S.1 S.2.1 dX5_init_64 (by decide) ?_
  refine lv_iconst (v := (-1)) S.1 S.2.1 dX5_init_65 (by decide) ?_
  refine gx_iast (f' := upd (fun _ => 0) 0 (-1)) S hG 0 (fu_at (by omega) (fu_at (by omega) (fu_at (by omega) (fu_at (by omega) (fu_at (by omega) (fu_at (by omega) fu_s)))))) rfl (fin_l (by decide)) dX5_init_66 (rfl) (fun H locs hG => ?_)
  refine lv_aload_n S.1 S.2.1 dX5_init_67 rfl (lv_at hl 0 rfl) ?_
  refine lv_iconst (v := 1) S.1 S.2.1 dX5_init_68 (by decide) ?_
  refine gx_put (C := RX5) (T := TX5) (N := 7) (ty := .int) (v := .int 1) (fs' := [.ref n, .ref (n + 1), .ref (n + 2), .ref (n + 3), .ref (n + 4), .ref (n + 5), .int 1]) S hG (fu_at (by omega) (fu_at (by omega) fu_s)) i_X5_init_X5 rfl 6 (by decide) tyX5 tyX5_ok nmX5 (by decide +kernel) rfl (by decide +kernel) rfl rfl (Nat.le_of_ble_eq_true rfl) rfl dX5_init_69 (fun H locs hG => ?_)
  have hG : fG N0 D vwCl (fty cI cC cL cD cII cTr cTm cIt cB) (fen ql) s (fblk (fu F b1 (.inr (7, [.ref n, .ref (n + 1), .ref (n + 2), .ref (n + 3), .ref (n + 4), .ref (n + 5), .int 1]))) n [.inl (cC, 20, .inl (upd (fun _ => 0) 0 97)), .inl (cI, 20, .inl (fun _ => 0)), .inl (cI, 20, .inl (fun _ => 0)), .inl (cI, 20, .inl (upd (fun _ => 0) 0 (-1))), .inl (cI, 20, .inl (fun _ => 0)), .inl (cI, 20, .inl (fun _ => 0))]) (n + 6) H locs := hG.weak (fun a e h => by
    rcases fblk_cases 6 rfl h with ⟨k, rfl, hlt, hk⟩ | ⟨hout, h⟩
    · rcases (show k = 0 ∨ k = 1 ∨ k = 2 ∨ k = 3 ∨ k = 4 ∨ k = 5 by omega) with rfl | rfl | rfl | rfl | rfl | rfl
      · cases (show some (.inl (cC, 20, .inl (upd (fun _ => 0) 0 97))) = some e from hk); exact (fu_at (by omega) (fu_at (by omega) fu_s))
      · cases (show some (.inl (cI, 20, .inl (fun _ => 0))) = some e from hk); exact (fu_at (by omega) (fu_at (by omega) (fu_at (by omega) (fu_at (by omega) (fu_at (by omega) (fu_at (by omega) (fu_at (by omega) (fu_at (by omega) (fu_at (by omega) (fu_at (by omega) (fu_at (by omega) (fu_at (by omega) fu_s))))))))))))
      · cases (show some (.inl (cI, 20, .inl (fun _ => 0))) = some e from hk); exact (fu_at (by omega) (fu_at (by omega) (fu_at (by omega) (fu_at (by omega) (fu_at (by omega) (fu_at (by omega) (fu_at (by omega) (fu_at (by omega) (fu_at (by omega) (fu_at (by omega) fu_s))))))))))
      · cases (show some (.inl (cI, 20, .inl (upd (fun _ => 0) 0 (-1)))) = some e from hk); exact (fu_at (by omega) fu_s)
      · cases (show some (.inl (cI, 20, .inl (fun _ => 0))) = some e from hk); exact (fu_at (by omega) (fu_at (by omega) (fu_at (by omega) (fu_at (by omega) (fu_at (by omega) (fu_at (by omega) fu_s))))))
      · cases (show some (.inl (cI, 20, .inl (fun _ => 0))) = some e from hk); exact (fu_at (by omega) (fu_at (by omega) (fu_at (by omega) (fu_at (by omega) fu_s))))
    · rcases fu_cases h with ⟨rfl, he⟩ | ⟨hne0, h⟩
      · cases he; exact fu_s
      · exact (fu_at (by omega) (fu_at (by omega) (fu_at (by omega) (fu_at (by omega) (fu_at (by omega) (fu_at (by omega) (fu_at (by omega) (fu_at (by omega) (fu_at (by omega) (fu_at (by omega) (fu_at (by omega) (fu_at (by omega) (fu_at (by omega) (fu_at (by omega) (fu_at (by omega) h))))))))))))))))
  exact fx_vret S hr hlocks () hG trivial dX5_init_72
theorem i_X4_init_X4 : ∀ w ∈ u_ws RX4 TX4 4, w ∈ wsX4_init := by decide +kernel
theorem i_X4_init_X5 : ∀ w ∈ u_ws RX5 TX5 7, w ∈ wsX4_init := by decide +kernel
theorem k2_X4_init {n b1 : Nat} (hn : N0 + 0 ≤ n) (hb1 : N0 + 0 ≤ b1) (h0 : F b1 = some (.inr (6, [.null, .int 0, .int 0, .null]))) : Met l yX4_init wsX4_init ({ frames := 2, cells := 8, slots := 207, locals := 32 }) (va_Pc [.ref b1] (fP N0 D vwCl (fty cI cC cL cD cII cTr cTm cIt cB) (fen ql) F n)) (fQv N0 D vwCl (fty cI cC cL cD cII cTr cTm cIt cB) (fun (_ : Unit) => True) (fun _ => (fblk (fu F b1 (.inr (6, [.ref n, .int 0, .int 0, .ref (n + 1)]))) n [.inl (cC, 80, .inl (fun _ => 0)), .inr (7, [.ref (n + 2), .ref (n + 3), .ref (n + 4), .ref (n + 5), .ref (n + 6), .ref (n + 7), .int 1]), .inl (cC, 20, .inl (upd (fun _ => 0) 0 97)), .inl (cI, 20, .inl (fun _ => 0)), .inl (cI, 20, .inl (fun _ => 0)), .inl (cI, 20, .inl (upd (fun _ => 0) 0 (-1))), .inl (cI, 20, .inl (fun _ => 0)), .inl (cI, 20, .inl (fun _ => 0))])) (fun _ => (n + 8))) 8 207 (fA N0) := by
  refine fx_start 1 rfl rfl (Nat.le_of_ble_eq_true rfl) ?_ rfl
  intro p e s m below meth c ls S hr hlocks hin hG hl
  have hl : lv_has ls 1 [(0, .ref b1)] := hl
  have lt_h0 := hG.1.lt h0
  refine lv_aload_n S.1 S.2.1 dX4_init_0 rfl (lv_at hl 0 rfl) ?_
  refine gx_objInit S hG (by decide +kernel) (by decide +kernel) (by decide +kernel) hl.1 dX4_init_1 (Nat.le_of_ble_eq_true rfl) (Nat.le_of_ble_eq_true rfl) ?_
  refine lv_aload_n S.1 S.2.1 dX4_init_4 rfl (lv_at hl 0 rfl) ?_
  refine lv_bipush (v := 80) S.1 S.2.1 dX4_init_5 (by decide) ?_
  refine gx_newa (atype := .char) (ty := .char) (N' := 80) (a0 := (80, .inl (fun _ => 0))) S hG (by decide +kernel) rfl 1 rfl (fun _ => rfl) (by decide) (by decide) (by decide) (by decide) (by decide) dX4_init_7 (fun H hG => ?_)
  refine W.widen (k := 1) (n := 80) (by decide) (by decide) ?_
  refine gx_putF (C := RX4) (T := TX4) (N := 4) (ty := (.array .char)) (v := .ref n) (fs' := [.ref n, .int 0, .int 0, .null]) S hG (fu_at (by omega) h0) i_X4_init_X4 rfl 0 (by decide) tyX4 tyX4_ok nmX4 (by decide +kernel) rfl hin rfl (by decide +kernel) rfl rfl (Nat.le_of_ble_eq_true rfl) rfl dX4_init_9 (fun H locs hG => ?_)
  refine lv_aload_n S.1 S.2.1 dX4_init_12 rfl (lv_at hl 0 rfl) ?_
  refine gx_new (C := RX5) (T := TX5) (N := 7) (ci := 7) (fs := [.null, .null, .null, .null, .null, .null, .int 0]) S hG i_X4_init_X5 tyX5 tyX5_ok rfl (by decide +kernel) (by decide +kernel) (by decide +kernel) (fun j hj => by rcases (show j = 0 ∨ j = 1 ∨ j = 2 ∨ j = 3 ∨ j = 4 ∨ j = 5 ∨ j = 6 by omega) with rfl | rfl | rfl | rfl | rfl | rfl | rfl <;> rfl) (by decide) (by decide) dX4_init_13 (fun H hG => ?_)
  refine W.widen (k := 2) (n := 87) (by decide) (by decide) ?_
  refine lv_dup S.1 S.2.1 dX4_init_16 rfl ?_
  refine fx_cIv (As := []) (rest := [.ref (n + 1), .ref b1]) S hG (k1_X5_init (by omega) (by omega) fu_s) (cwI 0 S.2.2.2.2 gX4_init_X5_init rfl rfl rfl (S.2.2.2.2 (.initialized RX5) (by decide +kernel)) (S.2.2.2.2 (.methodLink RX4 17 yX5_init) (by decide +kernel)) (S.2.2.2.2 (.instanceMethod yX5_init) (by decide +kernel)) rfl (by decide +kernel) ⟨Nat.le_of_ble_eq_true rfl, Nat.le_of_ble_eq_true rfl⟩) rfl hl.1 rfl (Nat.le_of_ble_eq_true rfl) dX4_init_17 ⟨Nat.le_of_ble_eq_true rfl, Nat.le_of_ble_eq_true rfl⟩ (fun _ H locs hp hG => ?_)
  refine W.widen (k := 8) (n := 207) (by decide) (by decide) ?_
  refine gx_putF (C := RX4) (T := TX4) (N := 4) (ty := (.object "TreeDiffer$Tree")) (v := .ref (n + 1)) (fs' := [.ref n, .int 0, .int 0, .ref (n + 1)]) S hG (fblk_sk 6 rfl (by omega) (fu_at (by omega) (fu_at (by omega) fu_s))) i_X4_init_X4 rfl 3 (by decide) tyX4 tyX4_ok nmX4 (by decide +kernel) rfl hin rfl (by decide +kernel) rfl rfl (Nat.le_of_ble_eq_true rfl) rfl dX4_init_20 (fun H locs hG => ?_)
  have hG : fG N0 D vwCl (fty cI cC cL cD cII cTr cTm cIt cB) (fen ql) s (fblk (fu F b1 (.inr (6, [.ref n, .int 0, .int 0, .ref (n + 1)]))) n [.inl (cC, 80, .inl (fun _ => 0)), .inr (7, [.ref (n + 2), .ref (n + 3), .ref (n + 4), .ref (n + 5), .ref (n + 6), .ref (n + 7), .int 1]), .inl (cC, 20, .inl (upd (fun _ => 0) 0 97)), .inl (cI, 20, .inl (fun _ => 0)), .inl (cI, 20, .inl (fun _ => 0)), .inl (cI, 20, .inl (upd (fun _ => 0) 0 (-1))), .inl (cI, 20, .inl (fun _ => 0)), .inl (cI, 20, .inl (fun _ => 0))]) (n + 8) H locs := hG.weak (fun a e h => by
    rcases fblk_cases 8 rfl h with ⟨k, rfl, hlt, hk⟩ | ⟨hout, h⟩
    · rcases (show k = 0 ∨ k = 1 ∨ k = 2 ∨ k = 3 ∨ k = 4 ∨ k = 5 ∨ k = 6 ∨ k = 7 by omega) with rfl | rfl | rfl | rfl | rfl | rfl | rfl | rfl
      · cases (show some (.inl (cC, 80, .inl (fun _ => 0))) = some e from hk); exact (fu_at (by omega) (fblk_sk 6 rfl (by omega) (fu_at (by omega) (fu_at (by omega) (fu_at (by omega) fu_s)))))
      · cases (show some (.inr (7, [.ref (n + 2), .ref (n + 3), .ref (n + 4), .ref (n + 5), .ref (n + 6), .ref (n + 7), .int 1])) = some e from hk); exact (fu_at (by omega) (fblk_sk 6 rfl (by omega) fu_s))
      · cases (show some (.inl (cC, 20, .inl (upd (fun _ => 0) 0 97))) = some e from hk); exact (fu_at (by omega) (fblk_at 0 (by omega) rfl))
      · cases (show some (.inl (cI, 20, .inl (fun _ => 0))) = some e from hk); exact (fu_at (by omega) (fblk_at 1 (by omega) rfl))
      · cases (show some (.inl (cI, 20, .inl (fun _ => 0))) = some e from hk); exact (fu_at (by omega) (fblk_at 2 (by omega) rfl))
      · cases (show some (.inl (cI, 20, .inl (upd (fun _ => 0) 0 (-1)))) = some e from hk); exact (fu_at (by omega) (fblk_at 3 (by omega) rfl))
      · cases (show some (.inl (cI, 20, .inl (fun _ => 0))) = some e from hk); exact (fu_at (by omega) (fblk_at 4 (by omega) rfl))
      · cases (show some (.inl (cI, 20, .inl (fun _ => 0))) = some e from hk); exact (fu_at (by omega) (fblk_at 5 (by omega) rfl))
    · rcases fu_cases h with ⟨rfl, he⟩ | ⟨hne0, h⟩
      · cases he; exact fu_s
      · exact (fu_at (by omega) (fblk_sk 6 rfl (by omega) (fu_at (by omega) (fu_at (by omega) (fu_at (by omega) (fu_at (by omega) h)))))))
  exact fx_vret S hr hlocks () hG trivial dX4_init_23
theorem i_X0_init_X0 : ∀ w ∈ u_ws RX0 TX0 2, w ∈ wsX0_init := by decide +kernel
theorem k3_X0_init {n b1 : Nat} (hn : N0 + 0 ≤ n) (hb1 : N0 + 0 ≤ b1) (h0 : F b1 = some (.inr (2, [.null, .int 0]))) : Met l yX0_init wsX0_init ({ frames := 1, cells := 1, slots := 160, locals := 12 }) (va_Pc [.ref b1] (fP N0 D vwCl (fty cI cC cL cD cII cTr cTm cIt cB) (fen ql) F n)) (fQv N0 D vwCl (fty cI cC cL cD cII cTr cTm cIt cB) (fun (_ : Unit) => True) (fun _ => (fblk (fu F b1 (.inr (2, [.ref n, .int 0]))) n [.inl (cC, 160, .inl (fun _ => 0))])) (fun _ => (n + 1))) 1 160 (fA N0) := by
  refine fx_start 1 rfl rfl (Nat.le_of_ble_eq_true rfl) ?_ rfl
  intro p e s m below meth c ls S hr hlocks hin hG hl
  have hl : lv_has ls 1 [(0, .ref b1)] := hl
  have lt_h0 := hG.1.lt h0
  refine lv_aload_n S.1 S.2.1 dX0_init_0 rfl (lv_at hl 0 rfl) ?_
  refine gx_objInit S hG (by decide +kernel) (by decide +kernel) (by decide +kernel) hl.1 dX0_init_1 (Nat.le_of_ble_eq_true rfl) (Nat.le_of_ble_eq_true rfl) ?_
  refine lv_aload_n S.1 S.2.1 dX0_init_4 rfl (lv_at hl 0 rfl) ?_
  refine lv_sipush (v := 160) S.1 S.2.1 dX0_init_5 (by decide) ?_
  refine gx_newa (atype := .char) (ty := .char) (N' := 160) (a0 := (160, .inl (fun _ => 0))) S hG (by decide +kernel) rfl 1 rfl (fun _ => rfl) (by decide) (by decide) (by decide) (by decide) (by decide) dX0_init_8 (fun H hG => ?_)
  refine W.widen (k := 1) (n := 160) (by decide) (by decide) ?_
  refine gx_putF (C := RX0) (T := TX0) (N := 2) (ty := (.array .char)) (v := .ref n) (fs' := [.ref n, .int 0]) S hG (fu_at (by omega) h0) i_X0_init_X0 rfl 0 (by decide) tyX0 tyX0_ok nmX0 (by decide +kernel) rfl hin rfl (by decide +kernel) rfl rfl (Nat.le_of_ble_eq_true rfl) rfl dX0_init_10 (fun H locs hG => ?_)
  have hG : fG N0 D vwCl (fty cI cC cL cD cII cTr cTm cIt cB) (fen ql) s (fblk (fu F b1 (.inr (2, [.ref n, .int 0]))) n [.inl (cC, 160, .inl (fun _ => 0))]) (n + 1) H locs := hG.weak (fun a e h => by
    rcases fblk_cases 1 rfl h with ⟨k, rfl, hlt, hk⟩ | ⟨hout, h⟩
    · rcases (show k = 0 by omega) with rfl
      · cases (show some (.inl (cC, 160, .inl (fun _ => 0))) = some e from hk); exact (fu_at (by omega) fu_s)
    · rcases fu_cases h with ⟨rfl, he⟩ | ⟨hne0, h⟩
      · cases he; exact fu_s
      · exact (fu_at (by omega) (fu_at (by omega) h)))
  exact fx_vret S hr hlocks () hG trivial dX0_init_13
theorem i_X1_init_X1 : ∀ w ∈ u_ws RX1 TX1 10, w ∈ wsX1_init := by decide +kernel
set_option maxHeartbeats 16000000 in
theorem k4_X1_init {n b1 : Nat} (hn : N0 + 0 ≤ n) (hb1 : N0 + 0 ≤ b1) (h0 : F b1 = some (.inr (3, [.null, .null, .null, .null, .null, .null, .int 0, .int 0, .null, .null]))) : Met l yX1_init wsX1_init ({ frames := 1, cells := 49, slots := 1002, locals := 12 }) (va_Pc [.ref b1] (fP N0 D vwCl (fty cI cC cL cD cII cTr cTm cIt cB) (fen ql) F n)) (fQv N0 D vwCl (fty cI cC cL cD cII cTr cTm cIt cB) (fun (_ : Unit) => True) (fun _ => (fblk (fu F b1 (.inr (3, [.ref n, .ref (n + 21), .ref (n + 43), .ref (n + 44), .ref (n + 45), .ref (n + 46), .int 0, .int 0, .ref (n + 47), .ref (n + 48)]))) n [.inl (cII, 20, .inr (.inr (.inr (.inr (fun j => if j < 20 then some ((n + 1) + j) else none))))), .inl (cI, 20, .inl (fun _ => 0)), .inl (cI, 20, .inl (fun _ => 0)), .inl (cI, 20, .inl (fun _ => 0)), .inl (cI, 20, .inl (fun _ => 0)), .inl (cI, 20, .inl (fun _ => 0)), .inl (cI, 20, .inl (fun _ => 0)), .inl (cI, 20, .inl (fun _ => 0)), .inl (cI, 20, .inl (fun _ => 0)), .inl (cI, 20, .inl (fun _ => 0)), .inl (cI, 20, .inl (fun _ => 0)), .inl (cI, 20, .inl (fun _ => 0)), .inl (cI, 20, .inl (fun _ => 0)), .inl (cI, 20, .inl (fun _ => 0)), .inl (cI, 20, .inl (fun _ => 0)), .inl (cI, 20, .inl (fun _ => 0)), .inl (cI, 20, .inl (fun _ => 0)), .inl (cI, 20, .inl (fun _ => 0)), .inl (cI, 20, .inl (fun _ => 0)), .inl (cI, 20, .inl (fun _ => 0)), .inl (cI, 20, .inl (fun _ => 0)), .inl (cII, 21, .inr (.inr (.inr (.inr (fun j => if j < 21 then some ((n + 22) + j) else none))))), .inl (cI, 21, .inl (fun _ => 0)), .inl (cI, 21, .inl (fun _ => 0)), .inl (cI, 21, .inl (fun _ => 0)), .inl (cI, 21, .inl (fun _ => 0)), .inl (cI, 21, .inl (fun _ => 0)), .inl (cI, 21, .inl (fun _ => 0)), .inl (cI, 21, .inl (fun _ => 0)), .inl (cI, 21, .inl (fun _ => 0)), .inl (cI, 21, .inl (fun _ => 0)), .inl (cI, 21, .inl (fun _ => 0)), .inl (cI, 21, .inl (fun _ => 0)), .inl (cI, 21, .inl (fun _ => 0)), .inl (cI, 21, .inl (fun _ => 0)), .inl (cI, 21, .inl (fun _ => 0)), .inl (cI, 21, .inl (fun _ => 0)), .inl (cI, 21, .inl (fun _ => 0)), .inl (cI, 21, .inl (fun _ => 0)), .inl (cI, 21, .inl (fun _ => 0)), .inl (cI, 21, .inl (fun _ => 0)), .inl (cI, 21, .inl (fun _ => 0)), .inl (cI, 21, .inl (fun _ => 0)), .inl (cI, 20, .inl (fun _ => 0)), .inl (cI, 20, .inl (fun _ => 0)), .inl (cI, 20, .inl (fun _ => 0)), .inl (cI, 20, .inl (fun _ => 0)), .inl (cI, 20, .inl (fun _ => 0)), .inl (cI, 20, .inl (fun _ => 0))])) (fun _ => (n + 49))) 49 1002 (fA N0) := by
  refine fx_start 1 rfl rfl (Nat.le_of_ble_eq_true rfl) ?_ rfl
  intro p e s m below meth c ls S hr hlocks hin hG hl
  have hl : lv_has ls 1 [(0, .ref b1)] := hl
  have lt_h0 := hG.1.lt h0
  refine lv_aload_n S.1 S.2.1 dX1_init_0 rfl (lv_at hl 0 rfl) ?_
  refine gx_objInit S hG (by decide +kernel) (by decide +kernel) (by decide +kernel) hl.1 dX1_init_1 (Nat.le_of_ble_eq_true rfl) (Nat.le_of_ble_eq_true rfl) ?_
  refine lv_aload_n S.1 S.2.1 dX1_init_4 rfl (lv_at hl 0 rfl) ?_
  refine lv_bipush (v := 20) S.1 S.2.1 dX1_init_5 (by decide) ?_
  refine lv_bipush (v := 20) S.1 S.2.1 dX1_init_7 (by decide) ?_
  refine gx_mna (N' := 20) (K' := 20) S hG (by decide +kernel) (by decide +kernel) 0 4 rfl rfl (by decide) (by decide) (by decide) (by decide) (by decide) (by decide) (by decide) (by decide) dX1_init_9 (fun H hG => ?_)
  refine W.widen (k := 21) (n := 420) (by decide) (by decide) ?_
  refine gx_putF (C := RX1) (T := TX1) (N := 10) (ty := (.array (.array .int))) (v := .ref n) (fs' := [.ref n, .null, .null, .null, .null, .null, .int 0, .int 0, .null, .null]) S hG (fblk_sk 20 rfl (by omega) (fu_at (by omega) h0)) i_X1_init_X1 rfl 0 (by decide) tyX1 tyX1_ok nmX1 (by decide +kernel) rfl hin rfl (by decide +kernel) rfl rfl (Nat.le_of_ble_eq_true rfl) rfl dX1_init_13 (fun H locs hG => ?_)
  refine lv_aload_n S.1 S.2.1 dX1_init_16 rfl (lv_at hl 0 rfl) ?_
  refine lv_bipush (v := 21) S.1 S.2.1 dX1_init_17 (by decide) ?_
  refine lv_bipush (v := 21) S.1 S.2.1 dX1_init_19 (by decide) ?_
  refine gx_mna (N' := 21) (K' := 21) S hG (by decide +kernel) (by decide +kernel) 0 4 rfl rfl (by decide) (by decide) (by decide) (by decide) (by decide) (by decide) (by decide) (by decide) dX1_init_21 (fun H hG => ?_)
  refine W.widen (k := 43) (n := 882) (by decide) (by decide) ?_
  refine gx_putF (C := RX1) (T := TX1) (N := 10) (ty := (.array (.array .int))) (v := .ref (n + 21)) (fs' := [.ref n, .ref (n + 21), .null, .null, .null, .null, .int 0, .int 0, .null, .null]) S hG (fblk_sk 21 rfl (by omega) (fu_at (by omega) fu_s)) i_X1_init_X1 rfl 1 (by decide) tyX1 tyX1_ok nmX1 (by decide +kernel) rfl hin rfl (by decide +kernel) rfl rfl (Nat.le_of_ble_eq_true rfl) rfl dX1_init_25 (fun H locs hG => ?_)
  refine lv_aload_n S.1 S.2.1 dX1_init_28 rfl (lv_at hl 0 rfl) ?_
  refine lv_bipush (v := 20) S.1 S.2.1 dX1_init_29 (by decide) ?_
  refine gx_newa (atype := .int) (ty := .int) (N' := 20) (a0 := (20, .inl (fun _ => 0))) S hG (by decide +kernel) rfl 0 rfl (fun _ => rfl) (by decide) (by decide) (by decide) (by decide) (by decide) dX1_init_31 (fun H hG => ?_)
  refine W.widen (k := 44) (n := 902) (by decide) (by decide) ?_
  refine gx_putF (C := RX1) (T := TX1) (N := 10) (ty := (.array .int)) (v := .ref (n + 43)) (fs' := [.ref n, .ref (n + 21), .ref (n + 43), .null, .null, .null, .int 0, .int 0, .null, .null]) S hG (fu_at (by omega) fu_s) i_X1_init_X1 rfl 2 (by decide) tyX1 tyX1_ok nmX1 (by decide +kernel) rfl hin rfl (by decide +kernel) rfl rfl (Nat.le_of_ble_eq_true rfl) rfl dX1_init_33 (fun H locs hG => ?_)
  refine lv_aload_n S.1 S.2.1 dX1_init_36 rfl (lv_at hl 0 rfl) ?_
  refine lv_bipush (v := 20) S.1 S.2.1 dX1_init_37 (by decide) ?_
  refine gx_newa (atype := .int) (ty := .int) (N' := 20) (a0 := (20, .inl (fun _ => 0))) S hG (by decide +kernel) rfl 0 rfl (fun _ => rfl) (by decide) (by decide) (by decide) (by decide) (by decide) dX1_init_39 (fun H hG => ?_)
  refine W.widen (k := 45) (n := 922) (by decide) (by decide) ?_
  refine gx_putF (C := RX1) (T := TX1) (N := 10) (ty := (.array .int)) (v := .ref (n + 44)) (fs' := [.ref n, .ref (n + 21), .ref (n + 43), .ref (n + 44), .null, .null, .int 0, .int 0, .null, .null]) S hG (fu_at (by omega) fu_s) i_X1_init_X1 rfl 3 (by decide) tyX1 tyX1_ok nmX1 (by decide +kernel) rfl hin rfl (by decide +kernel) rfl rfl (Nat.le_of_ble_eq_true rfl) rfl dX1_init_41 (fun H locs hG => ?_)
  refine lv_aload_n S.1 S.2.1 dX1_init_44 rfl (lv_at hl 0 rfl) ?_
  refine lv_bipush (v := 20) S.1 S.2.1 dX1_init_45 (by decide) ?_
  refine gx_newa (atype := .int) (ty := .int) (N' := 20) (a0 := (20, .inl (fun _ => 0))) S hG (by decide +kernel) rfl 0 rfl (fun _ => rfl) (by decide) (by decide) (by decide) (by decide) (by decide) dX1_init_47 (fun H hG => ?_)
  refine W.widen (k := 46) (n := 942) (by decide) (by decide) ?_
  refine gx_putF (C := RX1) (T := TX1) (N := 10) (ty := (.array .int)) (v := .ref (n + 45)) (fs' := [.ref n, .ref (n + 21), .ref (n + 43), .ref (n + 44), .ref (n + 45), .null, .int 0, .int 0, .null, .null]) S hG (fu_at (by omega) fu_s) i_X1_init_X1 rfl 4 (by decide) tyX1 tyX1_ok nmX1 (by decide +kernel) rfl hin rfl (by decide +kernel) rfl rfl (Nat.le_of_ble_eq_true rfl) rfl dX1_init_49 (fun H locs hG => ?_)
  refine lv_aload_n S.1 S.2.1 dX1_init_52 rfl (lv_at hl 0 rfl) ?_
  refine lv_bipush (v := 20) S.1 S.2.1 dX1_init_53 (by decide) ?_
  refine gx_newa (atype := .int) (ty := .int) (N' := 20) (a0 := (20, .inl (fun _ => 0))) S hG (by decide +kernel) rfl 0 rfl (fun _ => rfl) (by decide) (by decide) (by decide) (by decide) (by decide) dX1_init_55 (fun H hG => ?_)
  refine W.widen (k := 47) (n := 962) (by decide) (by decide) ?_
  refine gx_putF (C := RX1) (T := TX1) (N := 10) (ty := (.array .int)) (v := .ref (n + 46)) (fs' := [.ref n, .ref (n + 21), .ref (n + 43), .ref (n + 44), .ref (n + 45), .ref (n + 46), .int 0, .int 0, .null, .null]) S hG (fu_at (by omega) fu_s) i_X1_init_X1 rfl 5 (by decide) tyX1 tyX1_ok nmX1 (by decide +kernel) rfl hin rfl (by decide +kernel) rfl rfl (Nat.le_of_ble_eq_true rfl) rfl dX1_init_57 (fun H locs hG => ?_)
  refine lv_aload_n S.1 S.2.1 dX1_init_60 rfl (lv_at hl 0 rfl) ?_
  refine lv_bipush (v := 20) S.1 S.2.1 dX1_init_61 (by decide) ?_
  refine gx_newa (atype := .int) (ty := .int) (N' := 20) (a0 := (20, .inl (fun _ => 0))) S hG (by decide +kernel) rfl 0 rfl (fun _ => rfl) (by decide) (by decide) (by decide) (by decide) (by decide) dX1_init_63 (fun H hG => ?_)
  refine W.widen (k := 48) (n := 982) (by decide) (by decide) ?_
  refine gx_putF (C := RX1) (T := TX1) (N := 10) (ty := (.array .int)) (v := .ref (n + 47)) (fs' := [.ref n, .ref (n + 21), .ref (n + 43), .ref (n + 44), .ref (n + 45), .ref (n + 46), .int 0, .int 0, .ref (n + 47), .null]) S hG (fu_at (by omega) fu_s) i_X1_init_X1 rfl 8 (by decide) tyX1 tyX1_ok nmX1 (by decide +kernel) rfl hin rfl (by decide +kernel) rfl rfl (Nat.le_of_ble_eq_true rfl) rfl dX1_init_65 (fun H locs hG => ?_)
  refine lv_aload_n S.1 S.2.1 dX1_init_68 rfl (lv_at hl 0 rfl) ?_
  refine lv_bipush (v := 20) S.1 S.2.1 dX1_init_69 (by decide) ?_
  refine gx_newa (atype := .int) (ty := .int) (N' := 20) (a0 := (20, .inl (fun _ => 0))) S hG (by decide +kernel) rfl 0 rfl (fun _ => rfl) (by decide) (by decide) (by decide) (by decide) (by decide) dX1_init_71 (fun H hG => ?_)
  refine W.widen (k := 49) (n := 1002) (by decide) (by decide) ?_
  refine gx_putF (C := RX1) (T := TX1) (N := 10) (ty := (.array .int)) (v := .ref (n + 48)) (fs' := [.ref n, .ref (n + 21), .ref (n + 43), .ref (n + 44), .ref (n + 45), .ref (n + 46), .int 0, .int 0, .ref (n + 47), .ref (n + 48)]) S hG (fu_at (by omega) fu_s) i_X1_init_X1 rfl 9 (by decide) tyX1 tyX1_ok nmX1 (by decide +kernel) rfl hin rfl (by decide +kernel) rfl rfl (Nat.le_of_ble_eq_true rfl) rfl dX1_init_73 (fun H locs hG => ?_)
  have hG : fG N0 D vwCl (fty cI cC cL cD cII cTr cTm cIt cB) (fen ql) s (fblk (fu F b1 (.inr (3, [.ref n, .ref (n + 21), .ref (n + 43), .ref (n + 44), .ref (n + 45), .ref (n + 46), .int 0, .int 0, .ref (n + 47), .ref (n + 48)]))) n [.inl (cII, 20, .inr (.inr (.inr (.inr (fun j => if j < 20 then some ((n + 1) + j) else none))))), .inl (cI, 20, .inl (fun _ => 0)), .inl (cI, 20, .inl (fun _ => 0)), .inl (cI, 20, .inl (fun _ => 0)), .inl (cI, 20, .inl (fun _ => 0)), .inl (cI, 20, .inl (fun _ => 0)), .inl (cI, 20, .inl (fun _ => 0)), .inl (cI, 20, .inl (fun _ => 0)), .inl (cI, 20, .inl (fun _ => 0)), .inl (cI, 20, .inl (fun _ => 0)), .inl (cI, 20, .inl (fun _ => 0)), .inl (cI, 20, .inl (fun _ => 0)), .inl (cI, 20, .inl (fun _ => 0)), .inl (cI, 20, .inl (fun _ => 0)), .inl (cI, 20, .inl (fun _ => 0)), .inl (cI, 20, .inl (fun _ => 0)), .inl (cI, 20, .inl (fun _ => 0)), .inl (cI, 20, .inl (fun _ => 0)), .inl (cI, 20, .inl (fun _ => 0)), .inl (cI, 20, .inl (fun _ => 0)), .inl (cI, 20, .inl (fun _ => 0)), .inl (cII, 21, .inr (.inr (.inr (.inr (fun j => if j < 21 then some ((n + 22) + j) else none))))), .inl (cI, 21, .inl (fun _ => 0)), .inl (cI, 21, .inl (fun _ => 0)), .inl (cI, 21, .inl (fun _ => 0)), .inl (cI, 21, .inl (fun _ => 0)), .inl (cI, 21, .inl (fun _ => 0)), .inl (cI, 21, .inl (fun _ => 0)), .inl (cI, 21, .inl (fun _ => 0)), .inl (cI, 21, .inl (fun _ => 0)), .inl (cI, 21, .inl (fun _ => 0)), .inl (cI, 21, .inl (fun _ => 0)), .inl (cI, 21, .inl (fun _ => 0)), .inl (cI, 21, .inl (fun _ => 0)), .inl (cI, 21, .inl (fun _ => 0)), .inl (cI, 21, .inl (fun _ => 0)), .inl (cI, 21, .inl (fun _ => 0)), .inl (cI, 21, .inl (fun _ => 0)), .inl (cI, 21, .inl (fun _ => 0)), .inl (cI, 21, .inl (fun _ => 0)), .inl (cI, 21, .inl (fun _ => 0)), .inl (cI, 21, .inl (fun _ => 0)), .inl (cI, 21, .inl (fun _ => 0)), .inl (cI, 20, .inl (fun _ => 0)), .inl (cI, 20, .inl (fun _ => 0)), .inl (cI, 20, .inl (fun _ => 0)), .inl (cI, 20, .inl (fun _ => 0)), .inl (cI, 20, .inl (fun _ => 0)), .inl (cI, 20, .inl (fun _ => 0))]) (n + 49) H locs := hG.weak (fun a e h => by
    rcases fblk_cases 49 rfl h with ⟨k, rfl, hlt, hk⟩ | ⟨hout, h⟩
    · rcases (show k = 0 ∨ k = 1 ∨ k = 2 ∨ k = 3 ∨ k = 4 ∨ k = 5 ∨ k = 6 ∨ k = 7 ∨ k = 8 ∨ k = 9 ∨ k = 10 ∨ k = 11 ∨ k = 12 ∨ k = 13 ∨ k = 14 ∨ k = 15 ∨ k = 16 ∨ k = 17 ∨ k = 18 ∨ k = 19 ∨ k = 20 ∨ k = 21 ∨ k = 22 ∨ k = 23 ∨ k = 24 ∨ k = 25 ∨ k = 26 ∨ k = 27 ∨ k = 28 ∨ k = 29 ∨ k = 30 ∨ k = 31 ∨ k = 32 ∨ k = 33 ∨ k = 34 ∨ k = 35 ∨ k = 36 ∨ k = 37 ∨ k = 38 ∨ k = 39 ∨ k = 40 ∨ k = 41 ∨ k = 42 ∨ k = 43 ∨ k = 44 ∨ k = 45 ∨ k = 46 ∨ k = 47 ∨ k = 48 by omega) with rfl | rfl | rfl | rfl | rfl | rfl | rfl | rfl | rfl | rfl | rfl | rfl | rfl | rfl | rfl | rfl | rfl | rfl | rfl | rfl | rfl | rfl | rfl | rfl | rfl | rfl | rfl | rfl | rfl | rfl | rfl | rfl | rfl | rfl | rfl | rfl | rfl | rfl | rfl | rfl | rfl | rfl | rfl | rfl | rfl | rfl | rfl | rfl | rfl
      · cases (show some (.inl (cII, 20, .inr (.inr (.inr (.inr (fun j => if j < 20 then some ((n + 1) + j) else none)))))) = some e from hk); exact (fu_at (by omega) (fu_at (by omega) (fu_at (by omega) (fu_at (by omega) (fu_at (by omega) (fu_at (by omega) (fu_at (by omega) (fu_at (by omega) (fu_at (by omega) (fu_at (by omega) (fu_at (by omega) (fu_at (by omega) (fu_at (by omega) (fblk_sk 21 rfl (by omega) (fu_at (by omega) (fu_at (by omega) (fblk_sk 20 rfl (by omega) fu_s)))))))))))))))))
      · cases (show some (.inl (cI, 20, .inl (fun _ => 0))) = some e from hk); exact (fu_at (by omega) (fu_at (by omega) (fu_at (by omega) (fu_at (by omega) (fu_at (by omega) (fu_at (by omega) (fu_at (by omega) (fu_at (by omega) (fu_at (by omega) (fu_at (by omega) (fu_at (by omega) (fu_at (by omega) (fu_at (by omega) (fblk_sk 21 rfl (by omega) (fu_at (by omega) (fu_at (by omega) (fblk_at 0 (by omega) rfl)))))))))))))))))
      · cases (show some (.inl (cI, 20, .inl (fun _ => 0))) = some e from hk); exact (fu_at (by omega) (fu_at (by omega) (fu_at (by omega) (fu_at (by omega) (fu_at (by omega) (fu_at (by omega) (fu_at (by omega) (fu_at (by omega) (fu_at (by omega) (fu_at (by omega) (fu_at (by omega) (fu_at (by omega) (fu_at (by omega) (fblk_sk 21 rfl (by omega) (fu_at (by omega) (fu_at (by omega) (fblk_at 1 (by omega) rfl)))))))))))))))))
      · cases (show some (.inl (cI, 20, .inl (fun _ => 0))) = some e from hk); exact (fu_at (by omega) (fu_at (by omega) (fu_at (by omega) (fu_at (by omega) (fu_at (by omega) (fu_at (by omega) (fu_at (by omega) (fu_at (by omega) (fu_at (by omega) (fu_at (by omega) (fu_at (by omega) (fu_at (by omega) (fu_at (by omega) (fblk_sk 21 rfl (by omega) (fu_at (by omega) (fu_at (by omega) (fblk_at 2 (by omega) rfl)))))))))))))))))
      · cases (show some (.inl (cI, 20, .inl (fun _ => 0))) = some e from hk); exact (fu_at (by omega) (fu_at (by omega) (fu_at (by omega) (fu_at (by omega) (fu_at (by omega) (fu_at (by omega) (fu_at (by omega) (fu_at (by omega) (fu_at (by omega) (fu_at (by omega) (fu_at (by omega) (fu_at (by omega) (fu_at (by omega) (fblk_sk 21 rfl (by omega) (fu_at (by omega) (fu_at (by omega) (fblk_at 3 (by omega) rfl)))))))))))))))))
      · cases (show some (.inl (cI, 20, .inl (fun _ => 0))) = some e from hk); exact (fu_at (by omega) (fu_at (by omega) (fu_at (by omega) (fu_at (by omega) (fu_at (by omega) (fu_at (by omega) (fu_at (by omega) (fu_at (by omega) (fu_at (by omega) (fu_at (by omega) (fu_at (by omega) (fu_at (by omega) (fu_at (by omega) (fblk_sk 21 rfl (by omega) (fu_at (by omega) (fu_at (by omega) (fblk_at 4 (by omega) rfl)))))))))))))))))
      · cases (show some (.inl (cI, 20, .inl (fun _ => 0))) = some e from hk); exact (fu_at (by omega) (fu_at (by omega) (fu_at (by omega) (fu_at (by omega) (fu_at (by omega) (fu_at (by omega) (fu_at (by omega) (fu_at (by omega) (fu_at (by omega) (fu_at (by omega) (fu_at (by omega) (fu_at (by omega) (fu_at (by omega) (fblk_sk 21 rfl (by omega) (fu_at (by omega) (fu_at (by omega) (fblk_at 5 (by omega) rfl)))))))))))))))))
      · cases (show some (.inl (cI, 20, .inl (fun _ => 0))) = some e from hk); exact (fu_at (by omega) (fu_at (by omega) (fu_at (by omega) (fu_at (by omega) (fu_at (by omega) (fu_at (by omega) (fu_at (by omega) (fu_at (by omega) (fu_at (by omega) (fu_at (by omega) (fu_at (by omega) (fu_at (by omega) (fu_at (by omega) (fblk_sk 21 rfl (by omega) (fu_at (by omega) (fu_at (by omega) (fblk_at 6 (by omega) rfl)))))))))))))))))
      · cases (show some (.inl (cI, 20, .inl (fun _ => 0))) = some e from hk); exact (fu_at (by omega) (fu_at (by omega) (fu_at (by omega) (fu_at (by omega) (fu_at (by omega) (fu_at (by omega) (fu_at (by omega) (fu_at (by omega) (fu_at (by omega) (fu_at (by omega) (fu_at (by omega) (fu_at (by omega) (fu_at (by omega) (fblk_sk 21 rfl (by omega) (fu_at (by omega) (fu_at (by omega) (fblk_at 7 (by omega) rfl)))))))))))))))))
      · cases (show some (.inl (cI, 20, .inl (fun _ => 0))) = some e from hk); exact (fu_at (by omega) (fu_at (by omega) (fu_at (by omega) (fu_at (by omega) (fu_at (by omega) (fu_at (by omega) (fu_at (by omega) (fu_at (by omega) (fu_at (by omega) (fu_at (by omega) (fu_at (by omega) (fu_at (by omega) (fu_at (by omega) (fblk_sk 21 rfl (by omega) (fu_at (by omega) (fu_at (by omega) (fblk_at 8 (by omega) rfl)))))))))))))))))
      · cases (show some (.inl (cI, 20, .inl (fun _ => 0))) = some e from hk); exact (fu_at (by omega) (fu_at (by omega) (fu_at (by omega) (fu_at (by omega) (fu_at (by omega) (fu_at (by omega) (fu_at (by omega) (fu_at (by omega) (fu_at (by omega) (fu_at (by omega) (fu_at (by omega) (fu_at (by omega) (fu_at (by omega) (fblk_sk 21 rfl (by omega) (fu_at (by omega) (fu_at (by omega) (fblk_at 9 (by omega) rfl)))))))))))))))))
      · cases (show some (.inl (cI, 20, .inl (fun _ => 0))) = some e from hk); exact (fu_at (by omega) (fu_at (by omega) (fu_at (by omega) (fu_at (by omega) (fu_at (by omega) (fu_at (by omega) (fu_at (by omega) (fu_at (by omega) (fu_at (by omega) (fu_at (by omega) (fu_at (by omega) (fu_at (by omega) (fu_at (by omega) (fblk_sk 21 rfl (by omega) (fu_at (by omega) (fu_at (by omega) (fblk_at 10 (by omega) rfl)))))))))))))))))
      · cases (show some (.inl (cI, 20, .inl (fun _ => 0))) = some e from hk); exact (fu_at (by omega) (fu_at (by omega) (fu_at (by omega) (fu_at (by omega) (fu_at (by omega) (fu_at (by omega) (fu_at (by omega) (fu_at (by omega) (fu_at (by omega) (fu_at (by omega) (fu_at (by omega) (fu_at (by omega) (fu_at (by omega) (fblk_sk 21 rfl (by omega) (fu_at (by omega) (fu_at (by omega) (fblk_at 11 (by omega) rfl)))))))))))))))))
      · cases (show some (.inl (cI, 20, .inl (fun _ => 0))) = some e from hk); exact (fu_at (by omega) (fu_at (by omega) (fu_at (by omega) (fu_at (by omega) (fu_at (by omega) (fu_at (by omega) (fu_at (by omega) (fu_at (by omega) (fu_at (by omega) (fu_at (by omega) (fu_at (by omega) (fu_at (by omega) (fu_at (by omega) (fblk_sk 21 rfl (by omega) (fu_at (by omega) (fu_at (by omega) (fblk_at 12 (by omega) rfl)))))))))))))))))
      · cases (show some (.inl (cI, 20, .inl (fun _ => 0))) = some e from hk); exact (fu_at (by omega) (fu_at (by omega) (fu_at (by omega) (fu_at (by omega) (fu_at (by omega) (fu_at (by omega) (fu_at (by omega) (fu_at (by omega) (fu_at (by omega) (fu_at (by omega) (fu_at (by omega) (fu_at (by omega) (fu_at (by omega) (fblk_sk 21 rfl (by omega) (fu_at (by omega) (fu_at (by omega) (fblk_at 13 (by omega) rfl)))))))))))))))))
      · cases (show some (.inl (cI, 20, .inl (fun _ => 0))) = some e from hk); exact (fu_at (by omega) (fu_at (by omega) (fu_at (by omega) (fu_at (by omega) (fu_at (by omega) (fu_at (by omega) (fu_at (by omega) (fu_at (by omega) (fu_at (by omega) (fu_at (by omega) (fu_at (by omega) (fu_at (by omega) (fu_at (by omega) (fblk_sk 21 rfl (by omega) (fu_at (by omega) (fu_at (by omega) (fblk_at 14 (by omega) rfl)))))))))))))))))
      · cases (show some (.inl (cI, 20, .inl (fun _ => 0))) = some e from hk); exact (fu_at (by omega) (fu_at (by omega) (fu_at (by omega) (fu_at (by omega) (fu_at (by omega) (fu_at (by omega) (fu_at (by omega) (fu_at (by omega) (fu_at (by omega) (fu_at (by omega) (fu_at (by omega) (fu_at (by omega) (fu_at (by omega) (fblk_sk 21 rfl (by omega) (fu_at (by omega) (fu_at (by omega) (fblk_at 15 (by omega) rfl)))))))))))))))))
      · cases (show some (.inl (cI, 20, .inl (fun _ => 0))) = some e from hk); exact (fu_at (by omega) (fu_at (by omega) (fu_at (by omega) (fu_at (by omega) (fu_at (by omega) (fu_at (by omega) (fu_at (by omega) (fu_at (by omega) (fu_at (by omega) (fu_at (by omega) (fu_at (by omega) (fu_at (by omega) (fu_at (by omega) (fblk_sk 21 rfl (by omega) (fu_at (by omega) (fu_at (by omega) (fblk_at 16 (by omega) rfl)))))))))))))))))
      · cases (show some (.inl (cI, 20, .inl (fun _ => 0))) = some e from hk); exact (fu_at (by omega) (fu_at (by omega) (fu_at (by omega) (fu_at (by omega) (fu_at (by omega) (fu_at (by omega) (fu_at (by omega) (fu_at (by omega) (fu_at (by omega) (fu_at (by omega) (fu_at (by omega) (fu_at (by omega) (fu_at (by omega) (fblk_sk 21 rfl (by omega) (fu_at (by omega) (fu_at (by omega) (fblk_at 17 (by omega) rfl)))))))))))))))))
      · cases (show some (.inl (cI, 20, .inl (fun _ => 0))) = some e from hk); exact (fu_at (by omega) (fu_at (by omega) (fu_at (by omega) (fu_at (by omega) (fu_at (by omega) (fu_at (by omega) (fu_at (by omega) (fu_at (by omega) (fu_at (by omega) (fu_at (by omega) (fu_at (by omega) (fu_at (by omega) (fu_at (by omega) (fblk_sk 21 rfl (by omega) (fu_at (by omega) (fu_at (by omega) (fblk_at 18 (by omega) rfl)))))))))))))))))
      · cases (show some (.inl (cI, 20, .inl (fun _ => 0))) = some e from hk); exact (fu_at (by omega) (fu_at (by omega) (fu_at (by omega) (fu_at (by omega) (fu_at (by omega) (fu_at (by omega) (fu_at (by omega) (fu_at (by omega) (fu_at (by omega) (fu_at (by omega) (fu_at (by omega) (fu_at (by omega) (fu_at (by omega) (fblk_sk 21 rfl (by omega) (fu_at (by omega) (fu_at (by omega) (fblk_at 19 (by omega) rfl)))))))))))))))))
      · cases (show some (.inl (cII, 21, .inr (.inr (.inr (.inr (fun j => if j < 21 then some ((n + 22) + j) else none)))))) = some e from hk); exact (fu_at (by omega) (fu_at (by omega) (fu_at (by omega) (fu_at (by omega) (fu_at (by omega) (fu_at (by omega) (fu_at (by omega) (fu_at (by omega) (fu_at (by omega) (fu_at (by omega) (fu_at (by omega) (fu_at (by omega) (fu_at (by omega) (fblk_sk 21 rfl (by omega) fu_s))))))))))))))
      · cases (show some (.inl (cI, 21, .inl (fun _ => 0))) = some e from hk); exact (fu_at (by omega) (fu_at (by omega) (fu_at (by omega) (fu_at (by omega) (fu_at (by omega) (fu_at (by omega) (fu_at (by omega) (fu_at (by omega) (fu_at (by omega) (fu_at (by omega) (fu_at (by omega) (fu_at (by omega) (fu_at (by omega) (fblk_at 0 (by omega) rfl))))))))))))))
      · cases (show some (.inl (cI, 21, .inl (fun _ => 0))) = some e from hk); exact (fu_at (by omega) (fu_at (by omega) (fu_at (by omega) (fu_at (by omega) (fu_at (by omega) (fu_at (by omega) (fu_at (by omega) (fu_at (by omega) (fu_at (by omega) (fu_at (by omega) (fu_at (by omega) (fu_at (by omega) (fu_at (by omega) (fblk_at 1 (by omega) rfl))))))))))))))
      · cases (show some (.inl (cI, 21, .inl (fun _ => 0))) = some e from hk); exact (fu_at (by omega) (fu_at (by omega) (fu_at (by omega) (fu_at (by omega) (fu_at (by omega) (fu_at (by omega) (fu_at (by omega) (fu_at (by omega) (fu_at (by omega) (fu_at (by omega) (fu_at (by omega) (fu_at (by omega) (fu_at (by omega) (fblk_at 2 (by omega) rfl))))))))))))))
      · cases (show some (.inl (cI, 21, .inl (fun _ => 0))) = some e from hk); exact (fu_at (by omega) (fu_at (by omega) (fu_at (by omega) (fu_at (by omega) (fu_at (by omega) (fu_at (by omega) (fu_at (by omega) (fu_at (by omega) (fu_at (by omega) (fu_at (by omega) (fu_at (by omega) (fu_at (by omega) (fu_at (by omega) (fblk_at 3 (by omega) rfl))))))))))))))
      · cases (show some (.inl (cI, 21, .inl (fun _ => 0))) = some e from hk); exact (fu_at (by omega) (fu_at (by omega) (fu_at (by omega) (fu_at (by omega) (fu_at (by omega) (fu_at (by omega) (fu_at (by omega) (fu_at (by omega) (fu_at (by omega) (fu_at (by omega) (fu_at (by omega) (fu_at (by omega) (fu_at (by omega) (fblk_at 4 (by omega) rfl))))))))))))))
      · cases (show some (.inl (cI, 21, .inl (fun _ => 0))) = some e from hk); exact (fu_at (by omega) (fu_at (by omega) (fu_at (by omega) (fu_at (by omega) (fu_at (by omega) (fu_at (by omega) (fu_at (by omega) (fu_at (by omega) (fu_at (by omega) (fu_at (by omega) (fu_at (by omega) (fu_at (by omega) (fu_at (by omega) (fblk_at 5 (by omega) rfl))))))))))))))
      · cases (show some (.inl (cI, 21, .inl (fun _ => 0))) = some e from hk); exact (fu_at (by omega) (fu_at (by omega) (fu_at (by omega) (fu_at (by omega) (fu_at (by omega) (fu_at (by omega) (fu_at (by omega) (fu_at (by omega) (fu_at (by omega) (fu_at (by omega) (fu_at (by omega) (fu_at (by omega) (fu_at (by omega) (fblk_at 6 (by omega) rfl))))))))))))))
      · cases (show some (.inl (cI, 21, .inl (fun _ => 0))) = some e from hk); exact (fu_at (by omega) (fu_at (by omega) (fu_at (by omega) (fu_at (by omega) (fu_at (by omega) (fu_at (by omega) (fu_at (by omega) (fu_at (by omega) (fu_at (by omega) (fu_at (by omega) (fu_at (by omega) (fu_at (by omega) (fu_at (by omega) (fblk_at 7 (by omega) rfl))))))))))))))
      · cases (show some (.inl (cI, 21, .inl (fun _ => 0))) = some e from hk); exact (fu_at (by omega) (fu_at (by omega) (fu_at (by omega) (fu_at (by omega) (fu_at (by omega) (fu_at (by omega) (fu_at (by omega) (fu_at (by omega) (fu_at (by omega) (fu_at (by omega) (fu_at (by omega) (fu_at (by omega) (fu_at (by omega) (fblk_at 8 (by omega) rfl))))))))))))))
      · cases (show some (.inl (cI, 21, .inl (fun _ => 0))) = some e from hk); exact (fu_at (by omega) (fu_at (by omega) (fu_at (by omega) (fu_at (by omega) (fu_at (by omega) (fu_at (by omega) (fu_at (by omega) (fu_at (by omega) (fu_at (by omega) (fu_at (by omega) (fu_at (by omega) (fu_at (by omega) (fu_at (by omega) (fblk_at 9 (by omega) rfl))))))))))))))
      · cases (show some (.inl (cI, 21, .inl (fun _ => 0))) = some e from hk); exact (fu_at (by omega) (fu_at (by omega) (fu_at (by omega) (fu_at (by omega) (fu_at (by omega) (fu_at (by omega) (fu_at (by omega) (fu_at (by omega) (fu_at (by omega) (fu_at (by omega) (fu_at (by omega) (fu_at (by omega) (fu_at (by omega) (fblk_at 10 (by omega) rfl))))))))))))))
      · cases (show some (.inl (cI, 21, .inl (fun _ => 0))) = some e from hk); exact (fu_at (by omega) (fu_at (by omega) (fu_at (by omega) (fu_at (by omega) (fu_at (by omega) (fu_at (by omega) (fu_at (by omega) (fu_at (by omega) (fu_at (by omega) (fu_at (by omega) (fu_at (by omega) (fu_at (by omega) (fu_at (by omega) (fblk_at 11 (by omega) rfl))))))))))))))
      · cases (show some (.inl (cI, 21, .inl (fun _ => 0))) = some e from hk); exact (fu_at (by omega) (fu_at (by omega) (fu_at (by omega) (fu_at (by omega) (fu_at (by omega) (fu_at (by omega) (fu_at (by omega) (fu_at (by omega) (fu_at (by omega) (fu_at (by omega) (fu_at (by omega) (fu_at (by omega) (fu_at (by omega) (fblk_at 12 (by omega) rfl))))))))))))))
      · cases (show some (.inl (cI, 21, .inl (fun _ => 0))) = some e from hk); exact (fu_at (by omega) (fu_at (by omega) (fu_at (by omega) (fu_at (by omega) (fu_at (by omega) (fu_at (by omega) (fu_at (by omega) (fu_at (by omega) (fu_at (by omega) (fu_at (by omega) (fu_at (by omega) (fu_at (by omega) (fu_at (by omega) (fblk_at 13 (by omega) rfl))))))))))))))
      · cases (show some (.inl (cI, 21, .inl (fun _ => 0))) = some e from hk); exact (fu_at (by omega) (fu_at (by omega) (fu_at (by omega) (fu_at (by omega) (fu_at (by omega) (fu_at (by omega) (fu_at (by omega) (fu_at (by omega) (fu_at (by omega) (fu_at (by omega) (fu_at (by omega) (fu_at (by omega) (fu_at (by omega) (fblk_at 14 (by omega) rfl))))))))))))))
      · cases (show some (.inl (cI, 21, .inl (fun _ => 0))) = some e from hk); exact (fu_at (by omega) (fu_at (by omega) (fu_at (by omega) (fu_at (by omega) (fu_at (by omega) (fu_at (by omega) (fu_at (by omega) (fu_at (by omega) (fu_at (by omega) (fu_at (by omega) (fu_at (by omega) (fu_at (by omega) (fu_at (by omega) (fblk_at 15 (by omega) rfl))))))))))))))
      · cases (show some (.inl (cI, 21, .inl (fun _ => 0))) = some e from hk); exact (fu_at (by omega) (fu_at (by omega) (fu_at (by omega) (fu_at (by omega) (fu_at (by omega) (fu_at (by omega) (fu_at (by omega) (fu_at (by omega) (fu_at (by omega) (fu_at (by omega) (fu_at (by omega) (fu_at (by omega) (fu_at (by omega) (fblk_at 16 (by omega) rfl))))))))))))))
      · cases (show some (.inl (cI, 21, .inl (fun _ => 0))) = some e from hk); exact (fu_at (by omega) (fu_at (by omega) (fu_at (by omega) (fu_at (by omega) (fu_at (by omega) (fu_at (by omega) (fu_at (by omega) (fu_at (by omega) (fu_at (by omega) (fu_at (by omega) (fu_at (by omega) (fu_at (by omega) (fu_at (by omega) (fblk_at 17 (by omega) rfl))))))))))))))
      · cases (show some (.inl (cI, 21, .inl (fun _ => 0))) = some e from hk); exact (fu_at (by omega) (fu_at (by omega) (fu_at (by omega) (fu_at (by omega) (fu_at (by omega) (fu_at (by omega) (fu_at (by omega) (fu_at (by omega) (fu_at (by omega) (fu_at (by omega) (fu_at (by omega) (fu_at (by omega) (fu_at (by omega) (fblk_at 18 (by omega) rfl))))))))))))))
      · cases (show some (.inl (cI, 21, .inl (fun _ => 0))) = some e from hk); exact (fu_at (by omega) (fu_at (by omega) (fu_at (by omega) (fu_at (by omega) (fu_at (by omega) (fu_at (by omega) (fu_at (by omega) (fu_at (by omega) (fu_at (by omega) (fu_at (by omega) (fu_at (by omega) (fu_at (by omega) (fu_at (by omega) (fblk_at 19 (by omega) rfl))))))))))))))
      · cases (show some (.inl (cI, 21, .inl (fun _ => 0))) = some e from hk); exact (fu_at (by omega) (fu_at (by omega) (fu_at (by omega) (fu_at (by omega) (fu_at (by omega) (fu_at (by omega) (fu_at (by omega) (fu_at (by omega) (fu_at (by omega) (fu_at (by omega) (fu_at (by omega) (fu_at (by omega) (fu_at (by omega) (fblk_at 20 (by omega) rfl))))))))))))))
      · cases (show some (.inl (cI, 20, .inl (fun _ => 0))) = some e from hk); exact (fu_at (by omega) (fu_at (by omega) (fu_at (by omega) (fu_at (by omega) (fu_at (by omega) (fu_at (by omega) (fu_at (by omega) (fu_at (by omega) (fu_at (by omega) (fu_at (by omega) (fu_at (by omega) fu_s)))))))))))
      · cases (show some (.inl (cI, 20, .inl (fun _ => 0))) = some e from hk); exact (fu_at (by omega) (fu_at (by omega) (fu_at (by omega) (fu_at (by omega) (fu_at (by omega) (fu_at (by omega) (fu_at (by omega) (fu_at (by omega) (fu_at (by omega) fu_s)))))))))
      · cases (show some (.inl (cI, 20, .inl (fun _ => 0))) = some e from hk); exact (fu_at (by omega) (fu_at (by omega) (fu_at (by omega) (fu_at (by omega) (fu_at (by omega) (fu_at (by omega) (fu_at (by omega) fu_s)))))))
      · cases (show some (.inl (cI, 20, .inl (fun _ => 0))) = some e from hk); exact (fu_at (by omega) (fu_at (by omega) (fu_at (by omega) (fu_at (by omega) (fu_at (by omega) fu_s)))))
      · cases (show some (.inl (cI, 20, .inl (fun _ => 0))) = some e from hk); exact (fu_at (by omega) (fu_at (by omega) (fu_at (by omega) fu_s)))
      · cases (show some (.inl (cI, 20, .inl (fun _ => 0))) = some e from hk); exact (fu_at (by omega) fu_s)
    · rcases fu_cases h with ⟨rfl, he⟩ | ⟨hne0, h⟩
      · cases he; exact fu_s
      · exact (fu_at (by omega) (fu_at (by omega) (fu_at (by omega) (fu_at (by omega) (fu_at (by omega) (fu_at (by omega) (fu_at (by omega) (fu_at (by omega) (fu_at (by omega) (fu_at (by omega) (fu_at (by omega) (fu_at (by omega) (fu_at (by omega) (fblk_sk 21 rfl (by omega) (fu_at (by omega) (fu_at (by omega) (fblk_sk 20 rfl (by omega) (fu_at (by omega) h)))))))))))))))))))
  exact fx_vret S hr hlocks () hG trivial dX1_init_76
theorem i_X6_init_X6 : ∀ w ∈ u_ws RX6 TX6 2, w ∈ wsX6_init := by decide +kernel
theorem k5_X6_init {n b1 : Nat} (hn : N0 + 0 ≤ n) (hb1 : N0 + 0 ≤ b1) (h0 : F b1 = some (.inr (8, [.null, .int 0]))) : Met l yX6_init wsX6_init ({ frames := 1, cells := 1, slots := 7, locals := 12 }) (va_Pc [.ref b1] (fP N0 D vwCl (fty cI cC cL cD cII cTr cTm cIt cB) (fen ql) F n)) (fQv N0 D vwCl (fty cI cC cL cD cII cTr cTm cIt cB) (fun (_ : Unit) => True) (fun _ => (fblk (fu F b1 (.inr (8, [.ref n, .int 0]))) n [.inl (cI, 7, .inl (fun _ => 0))])) (fun _ => (n + 1))) 1 7 (fA N0) := by
  refine fx_start 1 rfl rfl (Nat.le_of_ble_eq_true rfl) ?_ rfl
  intro p e s m below meth c ls S hr hlocks hin hG hl
  have hl : lv_has ls 1 [(0, .ref b1)] := hl
  have lt_h0 := hG.1.lt h0
  refine lv_aload_n S.1 S.2.1 dX6_init_0 rfl (lv_at hl 0 rfl) ?_
  refine gx_objInit S hG (by decide +kernel) (by decide +kernel) (by decide +kernel) hl.1 dX6_init_1 (Nat.le_of_ble_eq_true rfl) (Nat.le_of_ble_eq_true rfl) ?_
  refine lv_aload_n S.1 S.2.1 dX6_init_4 rfl (lv_at hl 0 rfl) ?_
  refine lv_bipush (v := 7) S.1 S.2.1 dX6_init_5 (by decide) ?_
  refine gx_newa (atype := .int) (ty := .int) (N' := 7) (a0 := (7, .inl (fun _ => 0))) S hG (by decide +kernel) rfl 0 rfl (fun _ => rfl) (by decide) (by decide) (by decide) (by decide) (by decide) dX6_init_7 (fun H hG => ?_)
  refine W.widen (k := 1) (n := 7) (by decide) (by decide) ?_
  refine gx_putF (C := RX6) (T := TX6) (N := 2) (ty := (.array .int)) (v := .ref n) (fs' := [.ref n, .int 0]) S hG (fu_at (by omega) h0) i_X6_init_X6 rfl 0 (by decide) tyX6 tyX6_ok nmX6 (by decide +kernel) rfl hin rfl (by decide +kernel) rfl rfl (Nat.le_of_ble_eq_true rfl) rfl dX6_init_9 (fun H locs hG => ?_)
  have hG : fG N0 D vwCl (fty cI cC cL cD cII cTr cTm cIt cB) (fen ql) s (fblk (fu F b1 (.inr (8, [.ref n, .int 0]))) n [.inl (cI, 7, .inl (fun _ => 0))]) (n + 1) H locs := hG.weak (fun a e h => by
    rcases fblk_cases 1 rfl h with ⟨k, rfl, hlt, hk⟩ | ⟨hout, h⟩
    · rcases (show k = 0 by omega) with rfl
      · cases (show some (.inl (cI, 7, .inl (fun _ => 0))) = some e from hk); exact (fu_at (by omega) fu_s)
    · rcases fu_cases h with ⟨rfl, he⟩ | ⟨hne0, h⟩
      · cases he; exact fu_s
      · exact (fu_at (by omega) (fu_at (by omega) h)))
  exact fx_vret S hr hlocks () hG trivial dX6_init_12
theorem i_X3_init_X3 : ∀ w ∈ u_ws RX3 TX3 9, w ∈ wsX3_init := by decide +kernel
theorem i_X3_init_X5 : ∀ w ∈ u_ws RX5 TX5 7, w ∈ wsX3_init := by decide +kernel
theorem k6_X3_init {n b1 : Nat} (hn : N0 + 0 ≤ n) (hb1 : N0 + 0 ≤ b1) (h0 : F b1 = some (.inr (5, [.int 0, .null, .null, .null, .null, .null, .null, .null, .int 0]))) : Met l yX3_init wsX3_init ({ frames := 2, cells := 19, slots := 414, locals := 32 }) (va_Pc [.ref b1] (fP N0 D vwCl (fty cI cC cL cD cII cTr cTm cIt cB) (fen ql) F n)) (fQv N0 D vwCl (fty cI cC cL cD cII cTr cTm cIt cB) (fun (_ : Unit) => True) (fun _ => (fblk (fu F b1 (.inr (5, [.int 0, .ref n, .ref (n + 7), .ref (n + 14), .ref (n + 15), .ref (n + 16), .ref (n + 17), .ref (n + 18), .int 0]))) n [.inr (7, [.ref (n + 1), .ref (n + 2), .ref (n + 3), .ref (n + 4), .ref (n + 5), .ref (n + 6), .int 1]), .inl (cC, 20, .inl (upd (fun _ => 0) 0 97)), .inl (cI, 20, .inl (fun _ => 0)), .inl (cI, 20, .inl (fun _ => 0)), .inl (cI, 20, .inl (upd (fun _ => 0) 0 (-1))), .inl (cI, 20, .inl (fun _ => 0)), .inl (cI, 20, .inl (fun _ => 0)), .inr (7, [.ref (n + 8), .ref (n + 9), .ref (n + 10), .ref (n + 11), .ref (n + 12), .ref (n + 13), .int 1]), .inl (cC, 20, .inl (upd (fun _ => 0) 0 97)), .inl (cI, 20, .inl (fun _ => 0)), .inl (cI, 20, .inl (fun _ => 0)), .inl (cI, 20, .inl (upd (fun _ => 0) 0 (-1))), .inl (cI, 20, .inl (fun _ => 0)), .inl (cI, 20, .inl (fun _ => 0)), .inl (cI, 20, .inl (fun _ => 0)), .inl (cI, 20, .inl (fun _ => 0)), .inl (cC, 40, .inl (fun _ => 0)), .inl (cI, 40, .inl (fun _ => 0)), .inl (cI, 40, .inl (fun _ => 0))])) (fun _ => (n + 19))) 19 414 (fA N0) := by
  refine fx_start 1 rfl rfl (Nat.le_of_ble_eq_true rfl) ?_ rfl
  intro p e s m below meth c ls S hr hlocks hin hG hl
  have hl : lv_has ls 1 [(0, .ref b1)] := hl
  have lt_h0 := hG.1.lt h0
  refine lv_aload_n S.1 S.2.1 dX3_init_0 rfl (lv_at hl 0 rfl) ?_
  refine gx_objInit S hG (by decide +kernel) (by decide +kernel) (by decide +kernel) hl.1 dX3_init_1 (Nat.le_of_ble_eq_true rfl) (Nat.le_of_ble_eq_true rfl) ?_
  refine lv_aload_n S.1 S.2.1 dX3_init_4 rfl (lv_at hl 0 rfl) ?_
  refine gx_new (C := RX5) (T := TX5) (N := 7) (ci := 7) (fs := [.null, .null, .null, .null, .null, .null, .int 0]) S hG i_X3_init_X5 tyX5 tyX5_ok rfl (by decide +kernel) (by decide +kernel) (by decide +kernel) (fun j hj => by rcases (show j = 0 ∨ j = 1 ∨ j = 2 ∨ j = 3 ∨ j = 4 ∨ j = 5 ∨ j = 6 by omega) with rfl | rfl | rfl | rfl | rfl | rfl | rfl <;> rfl) (by decide) (by decide) dX3_init_5 (fun H hG => ?_)
  refine W.widen (k := 1) (n := 7) (by decide) (by decide) ?_
  refine lv_dup S.1 S.2.1 dX3_init_8 rfl ?_
  refine fx_cIv (As := []) (rest := [.ref n, .ref b1]) S hG (k1_X5_init (by omega) (by omega) fu_s) (cwI 0 S.2.2.2.2 gX3_init_X5_init rfl rfl rfl (S.2.2.2.2 (.initialized RX5) (by decide +kernel)) (S.2.2.2.2 (.methodLink RX3 11 yX5_init) (by decide +kernel)) (S.2.2.2.2 (.instanceMethod yX5_init) (by decide +kernel)) rfl (by decide +kernel) ⟨Nat.le_of_ble_eq_true rfl, Nat.le_of_ble_eq_true rfl⟩) rfl hl.1 rfl (Nat.le_of_ble_eq_true rfl) dX3_init_9 ⟨Nat.le_of_ble_eq_true rfl, Nat.le_of_ble_eq_true rfl⟩ (fun _ H locs hp hG => ?_)
  refine W.widen (k := 7) (n := 127) (by decide) (by decide) ?_
  refine gx_putF (C := RX3) (T := TX3) (N := 9) (ty := (.object "TreeDiffer$Tree")) (v := .ref n) (fs' := [.int 0, .ref n, .null, .null, .null, .null, .null, .null, .int 0]) S hG (fblk_sk 6 rfl (by omega) (fu_at (by omega) (fu_at (by omega) h0))) i_X3_init_X3 rfl 1 (by decide) tyX3 tyX3_ok nmX3 (by decide +kernel) rfl hin rfl (by decide +kernel) rfl rfl (Nat.le_of_ble_eq_true rfl) rfl dX3_init_12 (fun H locs hG => ?_)
  refine lv_aload_n S.1 S.2.1 dX3_init_15 rfl (lv_at hl 0 rfl) ?_
  refine gx_new (C := RX5) (T := TX5) (N := 7) (ci := 7) (fs := [.null, .null, .null, .null, .null, .null, .int 0]) S hG i_X3_init_X5 tyX5 tyX5_ok rfl (by decide +kernel) (by decide +kernel) (by decide +kernel) (fun j hj => by rcases (show j = 0 ∨ j = 1 ∨ j = 2 ∨ j = 3 ∨ j = 4 ∨ j = 5 ∨ j = 6 by omega) with rfl | rfl | rfl | rfl | rfl | rfl | rfl <;> rfl) (by decide) (by decide) dX3_init_16 (fun H hG => ?_)
  refine W.widen (k := 8) (n := 134) (by decide) (by decide) ?_
  refine lv_dup S.1 S.2.1 dX3_init_19 rfl ?_
  refine fx_cIv (As := []) (rest := [.ref (n + 7), .ref b1]) S hG (k1_X5_init (by omega) (by omega) fu_s) (cwI 0 S.2.2.2.2 gX3_init_X5_init rfl rfl rfl (S.2.2.2.2 (.initialized RX5) (by decide +kernel)) (S.2.2.2.2 (.methodLink RX3 11 yX5_init) (by decide +kernel)) (S.2.2.2.2 (.instanceMethod yX5_init) (by decide +kernel)) rfl (by decide +kernel) ⟨Nat.le_of_ble_eq_true rfl, Nat.le_of_ble_eq_true rfl⟩) rfl hl.1 rfl (Nat.le_of_ble_eq_true rfl) dX3_init_20 ⟨Nat.le_of_ble_eq_true rfl, Nat.le_of_ble_eq_true rfl⟩ (fun _ H locs hp hG => ?_)
  refine W.widen (k := 14) (n := 254) (by decide) (by decide) ?_
  refine gx_putF (C := RX3) (T := TX3) (N := 9) (ty := (.object "TreeDiffer$Tree")) (v := .ref (n + 7)) (fs' := [.int 0, .ref n, .ref (n + 7), .null, .null, .null, .null, .null, .int 0]) S hG (fblk_sk 6 rfl (by omega) (fu_at (by omega) (fu_at (by omega) fu_s))) i_X3_init_X3 rfl 2 (by decide) tyX3 tyX3_ok nmX3 (by decide +kernel) rfl hin rfl (by decide +kernel) rfl rfl (Nat.le_of_ble_eq_true rfl) rfl dX3_init_23 (fun H locs hG => ?_)
  refine lv_aload_n S.1 S.2.1 dX3_init_26 rfl (lv_at hl 0 rfl) ?_
  refine lv_bipush (v := 20) S.1 S.2.1 dX3_init_27 (by decide) ?_
  refine gx_newa (atype := .int) (ty := .int) (N' := 20) (a0 := (20, .inl (fun _ => 0))) S hG (by decide +kernel) rfl 0 rfl (fun _ => rfl) (by decide) (by decide) (by decide) (by decide) (by decide) dX3_init_29 (fun H hG => ?_)
  refine W.widen (k := 15) (n := 274) (by decide) (by decide) ?_
  refine gx_putF (C := RX3) (T := TX3) (N := 9) (ty := (.array .int)) (v := .ref (n + 14)) (fs' := [.int 0, .ref n, .ref (n + 7), .ref (n + 14), .null, .null, .null, .null, .int 0]) S hG (fu_at (by omega) fu_s) i_X3_init_X3 rfl 3 (by decide) tyX3 tyX3_ok nmX3 (by decide +kernel) rfl hin rfl (by decide +kernel) rfl rfl (Nat.le_of_ble_eq_true rfl) rfl dX3_init_31 (fun H locs hG => ?_)
  refine lv_aload_n S.1 S.2.1 dX3_init_34 rfl (lv_at hl 0 rfl) ?_
  refine lv_bipush (v := 20) S.1 S.2.1 dX3_init_35 (by decide) ?_
  refine gx_newa (atype := .int) (ty := .int) (N' := 20) (a0 := (20, .inl (fun _ => 0))) S hG (by decide +kernel) rfl 0 rfl (fun _ => rfl) (by decide) (by decide) (by decide) (by decide) (by decide) dX3_init_37 (fun H hG => ?_)
  refine W.widen (k := 16) (n := 294) (by decide) (by decide) ?_
  refine gx_putF (C := RX3) (T := TX3) (N := 9) (ty := (.array .int)) (v := .ref (n + 15)) (fs' := [.int 0, .ref n, .ref (n + 7), .ref (n + 14), .ref (n + 15), .null, .null, .null, .int 0]) S hG (fu_at (by omega) fu_s) i_X3_init_X3 rfl 4 (by decide) tyX3 tyX3_ok nmX3 (by decide +kernel) rfl hin rfl (by decide +kernel) rfl rfl (Nat.le_of_ble_eq_true rfl) rfl dX3_init_39 (fun H locs hG => ?_)
  refine lv_aload_n S.1 S.2.1 dX3_init_42 rfl (lv_at hl 0 rfl) ?_
  refine lv_bipush (v := 40) S.1 S.2.1 dX3_init_43 (by decide) ?_
  refine gx_newa (atype := .char) (ty := .char) (N' := 40) (a0 := (40, .inl (fun _ => 0))) S hG (by decide +kernel) rfl 1 rfl (fun _ => rfl) (by decide) (by decide) (by decide) (by decide) (by decide) dX3_init_45 (fun H hG => ?_)
  refine W.widen (k := 17) (n := 334) (by decide) (by decide) ?_
  refine gx_putF (C := RX3) (T := TX3) (N := 9) (ty := (.array .char)) (v := .ref (n + 16)) (fs' := [.int 0, .ref n, .ref (n + 7), .ref (n + 14), .ref (n + 15), .ref (n + 16), .null, .null, .int 0]) S hG (fu_at (by omega) fu_s) i_X3_init_X3 rfl 5 (by decide) tyX3 tyX3_ok nmX3 (by decide +kernel) rfl hin rfl (by decide +kernel) rfl rfl (Nat.le_of_ble_eq_true rfl) rfl dX3_init_47 (fun H locs hG => ?_)
  refine lv_aload_n S.1 S.2.1 dX3_init_50 rfl (lv_at hl 0 rfl) ?_
  refine lv_bipush (v := 40) S.1 S.2.1 dX3_init_51 (by decide) ?_
  refine gx_newa (atype := .int) (ty := .int) (N' := 40) (a0 := (40, .inl (fun _ => 0))) S hG (by decide +kernel) rfl 0 rfl (fun _ => rfl) (by decide) (by decide) (by decide) (by decide) (by decide) dX3_init_53 (fun H hG => ?_)
  refine W.widen (k := 18) (n := 374) (by decide) (by decide) ?_
  refine gx_putF (C := RX3) (T := TX3) (N := 9) (ty := (.array .int)) (v := .ref (n + 17)) (fs' := [.int 0, .ref n, .ref (n + 7), .ref (n + 14), .ref (n + 15), .ref (n + 16), .ref (n + 17), .null, .int 0]) S hG (fu_at (by omega) fu_s) i_X3_init_X3 rfl 6 (by decide) tyX3 tyX3_ok nmX3 (by decide +kernel) rfl hin rfl (by decide +kernel) rfl rfl (Nat.le_of_ble_eq_true rfl) rfl dX3_init_55 (fun H locs hG => ?_)
  refine lv_aload_n S.1 S.2.1 dX3_init_58 rfl (lv_at hl 0 rfl) ?_
  refine lv_bipush (v := 40) S.1 S.2.1 dX3_init_59 (by decide) ?_
  refine gx_newa (atype := .int) (ty := .int) (N' := 40) (a0 := (40, .inl (fun _ => 0))) S hG (by decide +kernel) rfl 0 rfl (fun _ => rfl) (by decide) (by decide) (by decide) (by decide) (by decide) dX3_init_61 (fun H hG => ?_)
  refine W.widen (k := 19) (n := 414) (by decide) (by decide) ?_
  refine gx_putF (C := RX3) (T := TX3) (N := 9) (ty := (.array .int)) (v := .ref (n + 18)) (fs' := [.int 0, .ref n, .ref (n + 7), .ref (n + 14), .ref (n + 15), .ref (n + 16), .ref (n + 17), .ref (n + 18), .int 0]) S hG (fu_at (by omega) fu_s) i_X3_init_X3 rfl 7 (by decide) tyX3 tyX3_ok nmX3 (by decide +kernel) rfl hin rfl (by decide +kernel) rfl rfl (Nat.le_of_ble_eq_true rfl) rfl dX3_init_63 (fun H locs hG => ?_)
  have hG : fG N0 D vwCl (fty cI cC cL cD cII cTr cTm cIt cB) (fen ql) s (fblk (fu F b1 (.inr (5, [.int 0, .ref n, .ref (n + 7), .ref (n + 14), .ref (n + 15), .ref (n + 16), .ref (n + 17), .ref (n + 18), .int 0]))) n [.inr (7, [.ref (n + 1), .ref (n + 2), .ref (n + 3), .ref (n + 4), .ref (n + 5), .ref (n + 6), .int 1]), .inl (cC, 20, .inl (upd (fun _ => 0) 0 97)), .inl (cI, 20, .inl (fun _ => 0)), .inl (cI, 20, .inl (fun _ => 0)), .inl (cI, 20, .inl (upd (fun _ => 0) 0 (-1))), .inl (cI, 20, .inl (fun _ => 0)), .inl (cI, 20, .inl (fun _ => 0)), .inr (7, [.ref (n + 8), .ref (n + 9), .ref (n + 10), .ref (n + 11), .ref (n + 12), .ref (n + 13), .int 1]), .inl (cC, 20, .inl (upd (fun _ => 0) 0 97)), .inl (cI, 20, .inl (fun _ => 0)), .inl (cI, 20, .inl (fun _ => 0)), .inl (cI, 20, .inl (upd (fun _ => 0) 0 (-1))), .inl (cI, 20, .inl (fun _ => 0)), .inl (cI, 20, .inl (fun _ => 0)), .inl (cI, 20, .inl (fun _ => 0)), .inl (cI, 20, .inl (fun _ => 0)), .inl (cC, 40, .inl (fun _ => 0)), .inl (cI, 40, .inl (fun _ => 0)), .inl (cI, 40, .inl (fun _ => 0))]) (n + 19) H locs := hG.weak (fun a e h => by
    rcases fblk_cases 19 rfl h with ⟨k, rfl, hlt, hk⟩ | ⟨hout, h⟩
    · rcases (show k = 0 ∨ k = 1 ∨ k = 2 ∨ k = 3 ∨ k = 4 ∨ k = 5 ∨ k = 6 ∨ k = 7 ∨ k = 8 ∨ k = 9 ∨ k = 10 ∨ k = 11 ∨ k = 12 ∨ k = 13 ∨ k = 14 ∨ k = 15 ∨ k = 16 ∨ k = 17 ∨ k = 18 by omega) with rfl | rfl | rfl | rfl | rfl | rfl | rfl | rfl | rfl | rfl | rfl | rfl | rfl | rfl | rfl | rfl | rfl | rfl | rfl
      · cases (show some (.inr (7, [.ref (n + 1), .ref (n + 2), .ref (n + 3), .ref (n + 4), .ref (n + 5), .ref (n + 6), .int 1])) = some e from hk); exact (fu_at (by omega) (fu_at (by omega) (fu_at (by omega) (fu_at (by omega) (fu_at (by omega) (fu_at (by omega) (fu_at (by omega) (fu_at (by omega) (fu_at (by omega) (fu_at (by omega) (fu_at (by omega) (fblk_sk 6 rfl (by omega) (fu_at (by omega) (fu_at (by omega) (fu_at (by omega) (fblk_sk 6 rfl (by omega) fu_s))))))))))))))))
      · cases (show some (.inl (cC, 20, .inl (upd (fun _ => 0) 0 97))) = some e from hk); exact (fu_at (by omega) (fu_at (by omega) (fu_at (by omega) (fu_at (by omega) (fu_at (by omega) (fu_at (by omega) (fu_at (by omega) (fu_at (by omega) (fu_at (by omega) (fu_at (by omega) (fu_at (by omega) (fblk_sk 6 rfl (by omega) (fu_at (by omega) (fu_at (by omega) (fu_at (by omega) (fblk_at 0 (by omega) rfl))))))))))))))))
      · cases (show some (.inl (cI, 20, .inl (fun _ => 0))) = some e from hk); exact (fu_at (by omega) (fu_at (by omega) (fu_at (by omega) (fu_at (by omega) (fu_at (by omega) (fu_at (by omega) (fu_at (by omega) (fu_at (by omega) (fu_at (by omega) (fu_at (by omega) (fu_at (by omega) (fblk_sk 6 rfl (by omega) (fu_at (by omega) (fu_at (by omega) (fu_at (by omega) (fblk_at 1 (by omega) rfl))))))))))))))))
      · cases (show some (.inl (cI, 20, .inl (fun _ => 0))) = some e from hk); exact (fu_at (by omega) (fu_at (by omega) (fu_at (by omega) (fu_at (by omega) (fu_at (by omega) (fu_at (by omega) (fu_at (by omega) (fu_at (by omega) (fu_at (by omega) (fu_at (by omega) (fu_at (by omega) (fblk_sk 6 rfl (by omega) (fu_at (by omega) (fu_at (by omega) (fu_at (by omega) (fblk_at 2 (by omega) rfl))))))))))))))))
      · cases (show some (.inl (cI, 20, .inl (upd (fun _ => 0) 0 (-1)))) = some e from hk); exact (fu_at (by omega) (fu_at (by omega) (fu_at (by omega) (fu_at (by omega) (fu_at (by omega) (fu_at (by omega) (fu_at (by omega) (fu_at (by omega) (fu_at (by omega) (fu_at (by omega) (fu_at (by omega) (fblk_sk 6 rfl (by omega) (fu_at (by omega) (fu_at (by omega) (fu_at (by omega) (fblk_at 3 (by omega) rfl))))))))))))))))
      · cases (show some (.inl (cI, 20, .inl (fun _ => 0))) = some e from hk); exact (fu_at (by omega) (fu_at (by omega) (fu_at (by omega) (fu_at (by omega) (fu_at (by omega) (fu_at (by omega) (fu_at (by omega) (fu_at (by omega) (fu_at (by omega) (fu_at (by omega) (fu_at (by omega) (fblk_sk 6 rfl (by omega) (fu_at (by omega) (fu_at (by omega) (fu_at (by omega) (fblk_at 4 (by omega) rfl))))))))))))))))
      · cases (show some (.inl (cI, 20, .inl (fun _ => 0))) = some e from hk); exact (fu_at (by omega) (fu_at (by omega) (fu_at (by omega) (fu_at (by omega) (fu_at (by omega) (fu_at (by omega) (fu_at (by omega) (fu_at (by omega) (fu_at (by omega) (fu_at (by omega) (fu_at (by omega) (fblk_sk 6 rfl (by omega) (fu_at (by omega) (fu_at (by omega) (fu_at (by omega) (fblk_at 5 (by omega) rfl))))))))))))))))
      · cases (show some (.inr (7, [.ref (n + 8), .ref (n + 9), .ref (n + 10), .ref (n + 11), .ref (n + 12), .ref (n + 13), .int 1])) = some e from hk); exact (fu_at (by omega) (fu_at (by omega) (fu_at (by omega) (fu_at (by omega) (fu_at (by omega) (fu_at (by omega) (fu_at (by omega) (fu_at (by omega) (fu_at (by omega) (fu_at (by omega) (fu_at (by omega) (fblk_sk 6 rfl (by omega) fu_s))))))))))))
      · cases (show some (.inl (cC, 20, .inl (upd (fun _ => 0) 0 97))) = some e from hk); exact (fu_at (by omega) (fu_at (by omega) (fu_at (by omega) (fu_at (by omega) (fu_at (by omega) (fu_at (by omega) (fu_at (by omega) (fu_at (by omega) (fu_at (by omega) (fu_at (by omega) (fu_at (by omega) (fblk_at 0 (by omega) rfl))))))))))))
      · cases (show some (.inl (cI, 20, .inl (fun _ => 0))) = some e from hk); exact (fu_at (by omega) (fu_at (by omega) (fu_at (by omega) (fu_at (by omega) (fu_at (by omega) (fu_at (by omega) (fu_at (by omega) (fu_at (by omega) (fu_at (by omega) (fu_at (by omega) (fu_at (by omega) (fblk_at 1 (by omega) rfl))))))))))))
      · cases (show some (.inl (cI, 20, .inl (fun _ => 0))) = some e from hk); exact (fu_at (by omega) (fu_at (by omega) (fu_at (by omega) (fu_at (by omega) (fu_at (by omega) (fu_at (by omega) (fu_at (by omega) (fu_at (by omega) (fu_at (by omega) (fu_at (by omega) (fu_at (by omega) (fblk_at 2 (by omega) rfl))))))))))))
      · cases (show some (.inl (cI, 20, .inl (upd (fun _ => 0) 0 (-1)))) = some e from hk); exact (fu_at (by omega) (fu_at (by omega) (fu_at (by omega) (fu_at (by omega) (fu_at (by omega) (fu_at (by omega) (fu_at (by omega) (fu_at (by omega) (fu_at (by omega) (fu_at (by omega) (fu_at (by omega) (fblk_at 3 (by omega) rfl))))))))))))
      · cases (show some (.inl (cI, 20, .inl (fun _ => 0))) = some e from hk); exact (fu_at (by omega) (fu_at (by omega) (fu_at (by omega) (fu_at (by omega) (fu_at (by omega) (fu_at (by omega) (fu_at (by omega) (fu_at (by omega) (fu_at (by omega) (fu_at (by omega) (fu_at (by omega) (fblk_at 4 (by omega) rfl))))))))))))
      · cases (show some (.inl (cI, 20, .inl (fun _ => 0))) = some e from hk); exact (fu_at (by omega) (fu_at (by omega) (fu_at (by omega) (fu_at (by omega) (fu_at (by omega) (fu_at (by omega) (fu_at (by omega) (fu_at (by omega) (fu_at (by omega) (fu_at (by omega) (fu_at (by omega) (fblk_at 5 (by omega) rfl))))))))))))
      · cases (show some (.inl (cI, 20, .inl (fun _ => 0))) = some e from hk); exact (fu_at (by omega) (fu_at (by omega) (fu_at (by omega) (fu_at (by omega) (fu_at (by omega) (fu_at (by omega) (fu_at (by omega) (fu_at (by omega) (fu_at (by omega) fu_s)))))))))
      · cases (show some (.inl (cI, 20, .inl (fun _ => 0))) = some e from hk); exact (fu_at (by omega) (fu_at (by omega) (fu_at (by omega) (fu_at (by omega) (fu_at (by omega) (fu_at (by omega) (fu_at (by omega) fu_s)))))))
      · cases (show some (.inl (cC, 40, .inl (fun _ => 0))) = some e from hk); exact (fu_at (by omega) (fu_at (by omega) (fu_at (by omega) (fu_at (by omega) (fu_at (by omega) fu_s)))))
      · cases (show some (.inl (cI, 40, .inl (fun _ => 0))) = some e from hk); exact (fu_at (by omega) (fu_at (by omega) (fu_at (by omega) fu_s)))
      · cases (show some (.inl (cI, 40, .inl (fun _ => 0))) = some e from hk); exact (fu_at (by omega) fu_s)
    · rcases fu_cases h with ⟨rfl, he⟩ | ⟨hne0, h⟩
      · cases he; exact fu_s
      · exact (fu_at (by omega) (fu_at (by omega) (fu_at (by omega) (fu_at (by omega) (fu_at (by omega) (fu_at (by omega) (fu_at (by omega) (fu_at (by omega) (fu_at (by omega) (fu_at (by omega) (fu_at (by omega) (fblk_sk 6 rfl (by omega) (fu_at (by omega) (fu_at (by omega) (fu_at (by omega) (fblk_sk 6 rfl (by omega) (fu_at (by omega) (fu_at (by omega) h)))))))))))))))))))
  exact fx_vret S hr hlocks () hG trivial dX3_init_66
theorem i_X2_init_X1 : ∀ w ∈ u_ws RX1 TX1 10, w ∈ wsX2_init := by decide +kernel
theorem i_X2_init_X2 : ∀ w ∈ u_ws RX2 TX2 4, w ∈ wsX2_init := by decide +kernel
theorem i_X2_init_X5 : ∀ w ∈ u_ws RX5 TX5 7, w ∈ wsX2_init := by decide +kernel
set_option maxHeartbeats 16000000 in
theorem k7_X2_init {n b1 : Nat} (hn : N0 + 0 ≤ n) (hb1 : N0 + 0 ≤ b1) (h0 : F b1 = some (.inr (4, [.null, .null, .int 0, .int 0]))) : Met l yX2_init wsX2_init ({ frames := 2, cells := 57, slots := 1139, locals := 32 }) (va_Pc [.ref b1] (fP N0 D vwCl (fty cI cC cL cD cII cTr cTm cIt cB) (fen ql) F n)) (fQv N0 D vwCl (fty cI cC cL cD cII cTr cTm cIt cB) (fun (_ : Unit) => True) (fun _ => (fblk (fu F b1 (.inr (4, [.ref n, .ref (n + 50), .int (-1), .int 32]))) n [.inr (3, [.ref (n + 1), .ref (n + 22), .ref (n + 44), .ref (n + 45), .ref (n + 46), .ref (n + 47), .int 0, .int 0, .ref (n + 48), .ref (n + 49)]), .inl (cII, 20, .inr (.inr (.inr (.inr (fun j => if j < 20 then some ((n + 2) + j) else none))))), .inl (cI, 20, .inl (fun _ => 0)), .inl (cI, 20, .inl (fun _ => 0)), .inl (cI, 20, .inl (fun _ => 0)), .inl (cI, 20, .inl (fun _ => 0)), .inl (cI, 20, .inl (fun _ => 0)), .inl (cI, 20, .inl (fun _ => 0)), .inl (cI, 20, .inl (fun _ => 0)), .inl (cI, 20, .inl (fun _ => 0)), .inl (cI, 20, .inl (fun _ => 0)), .inl (cI, 20, .inl (fun _ => 0)), .inl (cI, 20, .inl (fun _ => 0)), .inl (cI, 20, .inl (fun _ => 0)), .inl (cI, 20, .inl (fun _ => 0)), .inl (cI, 20, .inl (fun _ => 0)), .inl (cI, 20, .inl (fun _ => 0)), .inl (cI, 20, .inl (fun _ => 0)), .inl (cI, 20, .inl (fun _ => 0)), .inl (cI, 20, .inl (fun _ => 0)), .inl (cI, 20, .inl (fun _ => 0)), .inl (cI, 20, .inl (fun _ => 0)), .inl (cII, 21, .inr (.inr (.inr (.inr (fun j => if j < 21 then some ((n + 23) + j) else none))))), .inl (cI, 21, .inl (fun _ => 0)), .inl (cI, 21, .inl (fun _ => 0)), .inl (cI, 21, .inl (fun _ => 0)), .inl (cI, 21, .inl (fun _ => 0)), .inl (cI, 21, .inl (fun _ => 0)), .inl (cI, 21, .inl (fun _ => 0)), .inl (cI, 21, .inl (fun _ => 0)), .inl (cI, 21, .inl (fun _ => 0)), .inl (cI, 21, .inl (fun _ => 0)), .inl (cI, 21, .inl (fun _ => 0)), .inl (cI, 21, .inl (fun _ => 0)), .inl (cI, 21, .inl (fun _ => 0)), .inl (cI, 21, .inl (fun _ => 0)), .inl (cI, 21, .inl (fun _ => 0)), .inl (cI, 21, .inl (fun _ => 0)), .inl (cI, 21, .inl (fun _ => 0)), .inl (cI, 21, .inl (fun _ => 0)), .inl (cI, 21, .inl (fun _ => 0)), .inl (cI, 21, .inl (fun _ => 0)), .inl (cI, 21, .inl (fun _ => 0)), .inl (cI, 21, .inl (fun _ => 0)), .inl (cI, 20, .inl (fun _ => 0)), .inl (cI, 20, .inl (fun _ => 0)), .inl (cI, 20, .inl (fun _ => 0)), .inl (cI, 20, .inl (fun _ => 0)), .inl (cI, 20, .inl (fun _ => 0)), .inl (cI, 20, .inl (fun _ => 0)), .inr (7, [.ref (n + 51), .ref (n + 52), .ref (n + 53), .ref (n + 54), .ref (n + 55), .ref (n + 56), .int 1]), .inl (cC, 20, .inl (upd (fun _ => 0) 0 97)), .inl (cI, 20, .inl (fun _ => 0)), .inl (cI, 20, .inl (fun _ => 0)), .inl (cI, 20, .inl (upd (fun _ => 0) 0 (-1))), .inl (cI, 20, .inl (fun _ => 0)), .inl (cI, 20, .inl (fun _ => 0))])) (fun _ => (n + 57))) 57 1139 (fA N0) := by
  refine fx_start 1 rfl rfl (Nat.le_of_ble_eq_true rfl) ?_ rfl
  intro p e s m below meth c ls S hr hlocks hin hG hl
  have hl : lv_has ls 1 [(0, .ref b1)] := hl
  have lt_h0 := hG.1.lt h0
  refine lv_aload_n S.1 S.2.1 dX2_init_0 rfl (lv_at hl 0 rfl) ?_
  refine gx_objInit S hG (by decide +kernel) (by decide +kernel) (by decide +kernel) hl.1 dX2_init_1 (Nat.le_of_ble_eq_true rfl) (Nat.le_of_ble_eq_true rfl) ?_
  refine lv_aload_n S.1 S.2.1 dX2_init_4 rfl (lv_at hl 0 rfl) ?_
  refine gx_new (C := RX1) (T := TX1) (N := 10) (ci := 3) (fs := [.null, .null, .null, .null, .null, .null, .int 0, .int 0, .null, .null]) S hG i_X2_init_X1 tyX1 tyX1_ok rfl (by decide +kernel) (by decide +kernel) (by decide +kernel) (fun j hj => by rcases (show j = 0 ∨ j = 1 ∨ j = 2 ∨ j = 3 ∨ j = 4 ∨ j = 5 ∨ j = 6 ∨ j = 7 ∨ j = 8 ∨ j = 9 by omega) with rfl | rfl | rfl | rfl | rfl | rfl | rfl | rfl | rfl | rfl <;> rfl) (by decide) (by decide) dX2_init_5 (fun H hG => ?_)
  refine W.widen (k := 1) (n := 10) (by decide) (by decide) ?_
  refine lv_dup S.1 S.2.1 dX2_init_8 rfl ?_
  refine fx_cINv (host := "TreeDiffer") (As := []) (rest := [.ref n, .ref b1]) S hG (k4_X1_init (by omega) (by omega) fu_s) ⟨(va_cnB 0 S.2.2.2.2 gX2_init_X1_init_n11 rfl rfl rfl (hG.nest (show _ ∈ fen2.2.2.1 from by decide)) (S.2.2.2.2 (.initialized RX1) (by decide +kernel)) (by decide +kernel) ⟨Nat.le_of_ble_eq_true rfl, Nat.le_of_ble_eq_true rfl⟩), rfl, S.2.2.2.2 (.instanceMethod yX1_init) (by decide +kernel)⟩ rfl hl.1 rfl (Nat.le_of_ble_eq_true rfl) dX2_init_9 ⟨Nat.le_of_ble_eq_true rfl, Nat.le_of_ble_eq_true rfl⟩ (fun _ H locs hp hG => ?_)
  refine W.widen (k := 50) (n := 1012) (by decide) (by decide) ?_
  refine gx_putF (C := RX2) (T := TX2) (N := 4) (ty := (.object "TreeDiffer$Matcher")) (v := .ref n) (fs' := [.ref n, .null, .int 0, .int 0]) S hG (fblk_sk 49 rfl (by omega) (fu_at (by omega) (fu_at (by omega) h0))) i_X2_init_X2 rfl 0 (by decide) tyX2 tyX2_ok nmX2 (by decide +kernel) rfl hin rfl (by decide +kernel) rfl rfl (Nat.le_of_ble_eq_true rfl) rfl dX2_init_12 (fun H locs hG => ?_)
  refine lv_aload_n S.1 S.2.1 dX2_init_15 rfl (lv_at hl 0 rfl) ?_
  refine gx_new (C := RX5) (T := TX5) (N := 7) (ci := 7) (fs := [.null, .null, .null, .null, .null, .null, .int 0]) S hG i_X2_init_X5 tyX5 tyX5_ok rfl (by decide +kernel) (by decide +kernel) (by decide +kernel) (fun j hj => by rcases (show j = 0 ∨ j = 1 ∨ j = 2 ∨ j = 3 ∨ j = 4 ∨ j = 5 ∨ j = 6 by omega) with rfl | rfl | rfl | rfl | rfl | rfl | rfl <;> rfl) (by decide) (by decide) dX2_init_16 (fun H hG => ?_)
  refine W.widen (k := 51) (n := 1019) (by decide) (by decide) ?_
  refine lv_dup S.1 S.2.1 dX2_init_19 rfl ?_
  refine fx_cIv (As := []) (rest := [.ref (n + 50), .ref b1]) S hG (k1_X5_init (by omega) (by omega) fu_s) (cwI 0 S.2.2.2.2 gX2_init_X5_init rfl rfl rfl (S.2.2.2.2 (.initialized RX5) (by decide +kernel)) (S.2.2.2.2 (.methodLink RX2 20 yX5_init) (by decide +kernel)) (S.2.2.2.2 (.instanceMethod yX5_init) (by decide +kernel)) rfl (by decide +kernel) ⟨Nat.le_of_ble_eq_true rfl, Nat.le_of_ble_eq_true rfl⟩) rfl hl.1 rfl (Nat.le_of_ble_eq_true rfl) dX2_init_20 ⟨Nat.le_of_ble_eq_true rfl, Nat.le_of_ble_eq_true rfl⟩ (fun _ H locs hp hG => ?_)
  refine W.widen (k := 57) (n := 1139) (by decide) (by decide) ?_
  refine gx_putF (C := RX2) (T := TX2) (N := 4) (ty := (.object "TreeDiffer$Tree")) (v := .ref (n + 50)) (fs' := [.ref n, .ref (n + 50), .int 0, .int 0]) S hG (fblk_sk 6 rfl (by omega) (fu_at (by omega) (fu_at (by omega) fu_s))) i_X2_init_X2 rfl 1 (by decide) tyX2 tyX2_ok nmX2 (by decide +kernel) rfl hin rfl (by decide +kernel) rfl rfl (Nat.le_of_ble_eq_true rfl) rfl dX2_init_23 (fun H locs hG => ?_)
  refine lv_aload_n S.1 S.2.1 dX2_init_26 rfl (lv_at hl 0 rfl) ?_
  refine lv_iconst (v := (-1)) S.1 S.2.1 dX2_init_27 (by decide) ?_
  refine gx_put (C := RX2) (T := TX2) (N := 4) (ty := .int) (v := .int (-1)) (fs' := [.ref n, .ref (n + 50), .int (-1), .int 0]) S hG fu_s i_X2_init_X2 rfl 2 (by decide) tyX2 tyX2_ok nmX2 (by decide +kernel) rfl (by decide +kernel) rfl rfl (Nat.le_of_ble_eq_true rfl) rfl dX2_init_28 (fun H locs hG => ?_)
  refine lv_aload_n S.1 S.2.1 dX2_init_31 rfl (lv_at hl 0 rfl) ?_
  refine lv_bipush (v := 32) S.1 S.2.1 dX2_init_32 (by decide) ?_
  refine gx_put (C := RX2) (T := TX2) (N := 4) (ty := .char) (v := .int 32) (fs' := [.ref n, .ref (n + 50), .int (-1), .int 32]) S hG fu_s i_X2_init_X2 rfl 3 (by decide) tyX2 tyX2_ok nmX2 (by decide +kernel) rfl (by decide +kernel) rfl (by decide) (Nat.le_of_ble_eq_true rfl) rfl dX2_init_34 (fun H locs hG => ?_)
  have hG : fG N0 D vwCl (fty cI cC cL cD cII cTr cTm cIt cB) (fen ql) s (fblk (fu F b1 (.inr (4, [.ref n, .ref (n + 50), .int (-1), .int 32]))) n [.inr (3, [.ref (n + 1), .ref (n + 22), .ref (n + 44), .ref (n + 45), .ref (n + 46), .ref (n + 47), .int 0, .int 0, .ref (n + 48), .ref (n + 49)]), .inl (cII, 20, .inr (.inr (.inr (.inr (fun j => if j < 20 then some ((n + 2) + j) else none))))), .inl (cI, 20, .inl (fun _ => 0)), .inl (cI, 20, .inl (fun _ => 0)), .inl (cI, 20, .inl (fun _ => 0)), .inl (cI, 20, .inl (fun _ => 0)), .inl (cI, 20, .inl (fun _ => 0)), .inl (cI, 20, .inl (fun _ => 0)), .inl (cI, 20, .inl (fun _ => 0)), .inl (cI, 20, .inl (fun _ => 0)), .inl (cI, 20, .inl (fun _ => 0)), .inl (cI, 20, .inl (fun _ => 0)), .inl (cI, 20, .inl (fun _ => 0)), .inl (cI, 20, .inl (fun _ => 0)), .inl (cI, 20, .inl (fun _ => 0)), .inl (cI, 20, .inl (fun _ => 0)), .inl (cI, 20, .inl (fun _ => 0)), .inl (cI, 20, .inl (fun _ => 0)), .inl (cI, 20, .inl (fun _ => 0)), .inl (cI, 20, .inl (fun _ => 0)), .inl (cI, 20, .inl (fun _ => 0)), .inl (cI, 20, .inl (fun _ => 0)), .inl (cII, 21, .inr (.inr (.inr (.inr (fun j => if j < 21 then some ((n + 23) + j) else none))))), .inl (cI, 21, .inl (fun _ => 0)), .inl (cI, 21, .inl (fun _ => 0)), .inl (cI, 21, .inl (fun _ => 0)), .inl (cI, 21, .inl (fun _ => 0)), .inl (cI, 21, .inl (fun _ => 0)), .inl (cI, 21, .inl (fun _ => 0)), .inl (cI, 21, .inl (fun _ => 0)), .inl (cI, 21, .inl (fun _ => 0)), .inl (cI, 21, .inl (fun _ => 0)), .inl (cI, 21, .inl (fun _ => 0)), .inl (cI, 21, .inl (fun _ => 0)), .inl (cI, 21, .inl (fun _ => 0)), .inl (cI, 21, .inl (fun _ => 0)), .inl (cI, 21, .inl (fun _ => 0)), .inl (cI, 21, .inl (fun _ => 0)), .inl (cI, 21, .inl (fun _ => 0)), .inl (cI, 21, .inl (fun _ => 0)), .inl (cI, 21, .inl (fun _ => 0)), .inl (cI, 21, .inl (fun _ => 0)), .inl (cI, 21, .inl (fun _ => 0)), .inl (cI, 21, .inl (fun _ => 0)), .inl (cI, 20, .inl (fun _ => 0)), .inl (cI, 20, .inl (fun _ => 0)), .inl (cI, 20, .inl (fun _ => 0)), .inl (cI, 20, .inl (fun _ => 0)), .inl (cI, 20, .inl (fun _ => 0)), .inl (cI, 20, .inl (fun _ => 0)), .inr (7, [.ref (n + 51), .ref (n + 52), .ref (n + 53), .ref (n + 54), .ref (n + 55), .ref (n + 56), .int 1]), .inl (cC, 20, .inl (upd (fun _ => 0) 0 97)), .inl (cI, 20, .inl (fun _ => 0)), .inl (cI, 20, .inl (fun _ => 0)), .inl (cI, 20, .inl (upd (fun _ => 0) 0 (-1))), .inl (cI, 20, .inl (fun _ => 0)), .inl (cI, 20, .inl (fun _ => 0))]) (n + 57) H locs := hG.weak (fun a e h => by
    rcases fblk_cases 57 rfl h with ⟨k, rfl, hlt, hk⟩ | ⟨hout, h⟩
    · rcases (show k = 0 ∨ k = 1 ∨ k = 2 ∨ k = 3 ∨ k = 4 ∨ k = 5 ∨ k = 6 ∨ k = 7 ∨ k = 8 ∨ k = 9 ∨ k = 10 ∨ k = 11 ∨ k = 12 ∨ k = 13 ∨ k = 14 ∨ k = 15 ∨ k = 16 ∨ k = 17 ∨ k = 18 ∨ k = 19 ∨ k = 20 ∨ k = 21 ∨ k = 22 ∨ k = 23 ∨ k = 24 ∨ k = 25 ∨ k = 26 ∨ k = 27 ∨ k = 28 ∨ k = 29 ∨ k = 30 ∨ k = 31 ∨ k = 32 ∨ k = 33 ∨ k = 34 ∨ k = 35 ∨ k = 36 ∨ k = 37 ∨ k = 38 ∨ k = 39 ∨ k = 40 ∨ k = 41 ∨ k = 42 ∨ k = 43 ∨ k = 44 ∨ k = 45 ∨ k = 46 ∨ k = 47 ∨ k = 48 ∨ k = 49 ∨ k = 50 ∨ k = 51 ∨ k = 52 ∨ k = 53 ∨ k = 54 ∨ k = 55 ∨ k = 56 by omega) with rfl | rfl | rfl | rfl | rfl | rfl | rfl | rfl | rfl | rfl | rfl | rfl | rfl | rfl | rfl | rfl | rfl | rfl | rfl | rfl | rfl | rfl | rfl | rfl | rfl | rfl | rfl | rfl | rfl | rfl | rfl | rfl | rfl | rfl | rfl | rfl | rfl | rfl | rfl | rfl | rfl | rfl | rfl | rfl | rfl | rfl | rfl | rfl | rfl | rfl | rfl | rfl | rfl | rfl | rfl | rfl | rfl
      · cases (show some (.inr (3, [.ref (n + 1), .ref (n + 22), .ref (n + 44), .ref (n + 45), .ref (n + 46), .ref (n + 47), .int 0, .int 0, .ref (n + 48), .ref (n + 49)])) = some e from hk); exact (fu_at (by omega) (fu_at (by omega) (fu_at (by omega) (fblk_sk 6 rfl (by omega) (fu_at (by omega) (fu_at (by omega) (fu_at (by omega) (fblk_sk 49 rfl (by omega) fu_s))))))))
      · cases (show some (.inl (cII, 20, .inr (.inr (.inr (.inr (fun j => if j < 20 then some ((n + 2) + j) else none)))))) = some e from hk); exact (fu_at (by omega) (fu_at (by omega) (fu_at (by omega) (fblk_sk 6 rfl (by omega) (fu_at (by omega) (fu_at (by omega) (fu_at (by omega) (fblk_at 0 (by omega) rfl))))))))
      · cases (show some (.inl (cI, 20, .inl (fun _ => 0))) = some e from hk); exact (fu_at (by omega) (fu_at (by omega) (fu_at (by omega) (fblk_sk 6 rfl (by omega) (fu_at (by omega) (fu_at (by omega) (fu_at (by omega) (fblk_at 1 (by omega) rfl))))))))
      · cases (show some (.inl (cI, 20, .inl (fun _ => 0))) = some e from hk); exact (fu_at (by omega) (fu_at (by omega) (fu_at (by omega) (fblk_sk 6 rfl (by omega) (fu_at (by omega) (fu_at (by omega) (fu_at (by omega) (fblk_at 2 (by omega) rfl))))))))
      · cases (show some (.inl (cI, 20, .inl (fun _ => 0))) = some e from hk); exact (fu_at (by omega) (fu_at (by omega) (fu_at (by omega) (fblk_sk 6 rfl (by omega) (fu_at (by omega) (fu_at (by omega) (fu_at (by omega) (fblk_at 3 (by omega) rfl))))))))
      · cases (show some (.inl (cI, 20, .inl (fun _ => 0))) = some e from hk); exact (fu_at (by omega) (fu_at (by omega) (fu_at (by omega) (fblk_sk 6 rfl (by omega) (fu_at (by omega) (fu_at (by omega) (fu_at (by omega) (fblk_at 4 (by omega) rfl))))))))
      · cases (show some (.inl (cI, 20, .inl (fun _ => 0))) = some e from hk); exact (fu_at (by omega) (fu_at (by omega) (fu_at (by omega) (fblk_sk 6 rfl (by omega) (fu_at (by omega) (fu_at (by omega) (fu_at (by omega) (fblk_at 5 (by omega) rfl))))))))
      · cases (show some (.inl (cI, 20, .inl (fun _ => 0))) = some e from hk); exact (fu_at (by omega) (fu_at (by omega) (fu_at (by omega) (fblk_sk 6 rfl (by omega) (fu_at (by omega) (fu_at (by omega) (fu_at (by omega) (fblk_at 6 (by omega) rfl))))))))
      · cases (show some (.inl (cI, 20, .inl (fun _ => 0))) = some e from hk); exact (fu_at (by omega) (fu_at (by omega) (fu_at (by omega) (fblk_sk 6 rfl (by omega) (fu_at (by omega) (fu_at (by omega) (fu_at (by omega) (fblk_at 7 (by omega) rfl))))))))
      · cases (show some (.inl (cI, 20, .inl (fun _ => 0))) = some e from hk); exact (fu_at (by omega) (fu_at (by omega) (fu_at (by omega) (fblk_sk 6 rfl (by omega) (fu_at (by omega) (fu_at (by omega) (fu_at (by omega) (fblk_at 8 (by omega) rfl))))))))
      · cases (show some (.inl (cI, 20, .inl (fun _ => 0))) = some e from hk); exact (fu_at (by omega) (fu_at (by omega) (fu_at (by omega) (fblk_sk 6 rfl (by omega) (fu_at (by omega) (fu_at (by omega) (fu_at (by omega) (fblk_at 9 (by omega) rfl))))))))
      · cases (show some (.inl (cI, 20, .inl (fun _ => 0))) = some e from hk); exact (fu_at (by omega) (fu_at (by omega) (fu_at (by omega) (fblk_sk 6 rfl (by omega) (fu_at (by omega) (fu_at (by omega) (fu_at (by omega) (fblk_at 10 (by omega) rfl))))))))
      · cases (show some (.inl (cI, 20, .inl (fun _ => 0))) = some e from hk); exact (fu_at (by omega) (fu_at (by omega) (fu_at (by omega) (fblk_sk 6 rfl (by omega) (fu_at (by omega) (fu_at (by omega) (fu_at (by omega) (fblk_at 11 (by omega) rfl))))))))
      · cases (show some (.inl (cI, 20, .inl (fun _ => 0))) = some e from hk); exact (fu_at (by omega) (fu_at (by omega) (fu_at (by omega) (fblk_sk 6 rfl (by omega) (fu_at (by omega) (fu_at (by omega) (fu_at (by omega) (fblk_at 12 (by omega) rfl))))))))
      · cases (show some (.inl (cI, 20, .inl (fun _ => 0))) = some e from hk); exact (fu_at (by omega) (fu_at (by omega) (fu_at (by omega) (fblk_sk 6 rfl (by omega) (fu_at (by omega) (fu_at (by omega) (fu_at (by omega) (fblk_at 13 (by omega) rfl))))))))
      · cases (show some (.inl (cI, 20, .inl (fun _ => 0))) = some e from hk); exact (fu_at (by omega) (fu_at (by omega) (fu_at (by omega) (fblk_sk 6 rfl (by omega) (fu_at (by omega) (fu_at (by omega) (fu_at (by omega) (fblk_at 14 (by omega) rfl))))))))
      · cases (show some (.inl (cI, 20, .inl (fun _ => 0))) = some e from hk); exact (fu_at (by omega) (fu_at (by omega) (fu_at (by omega) (fblk_sk 6 rfl (by omega) (fu_at (by omega) (fu_at (by omega) (fu_at (by omega) (fblk_at 15 (by omega) rfl))))))))
      · cases (show some (.inl (cI, 20, .inl (fun _ => 0))) = some e from hk); exact (fu_at (by omega) (fu_at (by omega) (fu_at (by omega) (fblk_sk 6 rfl (by omega) (fu_at (by omega) (fu_at (by omega) (fu_at (by omega) (fblk_at 16 (by omega) rfl))))))))
      · cases (show some (.inl (cI, 20, .inl (fun _ => 0))) = some e from hk); exact (fu_at (by omega) (fu_at (by omega) (fu_at (by omega) (fblk_sk 6 rfl (by omega) (fu_at (by omega) (fu_at (by omega) (fu_at (by omega) (fblk_at 17 (by omega) rfl))))))))
      · cases (show some (.inl (cI, 20, .inl (fun _ => 0))) = some e from hk); exact (fu_at (by omega) (fu_at (by omega) (fu_at (by omega) (fblk_sk 6 rfl (by omega) (fu_at (by omega) (fu_at (by omega) (fu_at (by omega) (fblk_at 18 (by omega) rfl))))))))
      · cases (show some (.inl (cI, 20, .inl (fun _ => 0))) = some e from hk); exact (fu_at (by omega) (fu_at (by omega) (fu_at (by omega) (fblk_sk 6 rfl (by omega) (fu_at (by omega) (fu_at (by omega) (fu_at (by omega) (fblk_at 19 (by omega) rfl))))))))
      · cases (show some (.inl (cI, 20, .inl (fun _ => 0))) = some e from hk); exact (fu_at (by omega) (fu_at (by omega) (fu_at (by omega) (fblk_sk 6 rfl (by omega) (fu_at (by omega) (fu_at (by omega) (fu_at (by omega) (fblk_at 20 (by omega) rfl))))))))
      · cases (show some (.inl (cII, 21, .inr (.inr (.inr (.inr (fun j => if j < 21 then some ((n + 23) + j) else none)))))) = some e from hk); exact (fu_at (by omega) (fu_at (by omega) (fu_at (by omega) (fblk_sk 6 rfl (by omega) (fu_at (by omega) (fu_at (by omega) (fu_at (by omega) (fblk_at 21 (by omega) rfl))))))))
      · cases (show some (.inl (cI, 21, .inl (fun _ => 0))) = some e from hk); exact (fu_at (by omega) (fu_at (by omega) (fu_at (by omega) (fblk_sk 6 rfl (by omega) (fu_at (by omega) (fu_at (by omega) (fu_at (by omega) (fblk_at 22 (by omega) rfl))))))))
      · cases (show some (.inl (cI, 21, .inl (fun _ => 0))) = some e from hk); exact (fu_at (by omega) (fu_at (by omega) (fu_at (by omega) (fblk_sk 6 rfl (by omega) (fu_at (by omega) (fu_at (by omega) (fu_at (by omega) (fblk_at 23 (by omega) rfl))))))))
      · cases (show some (.inl (cI, 21, .inl (fun _ => 0))) = some e from hk); exact (fu_at (by omega) (fu_at (by omega) (fu_at (by omega) (fblk_sk 6 rfl (by omega) (fu_at (by omega) (fu_at (by omega) (fu_at (by omega) (fblk_at 24 (by omega) rfl))))))))
      · cases (show some (.inl (cI, 21, .inl (fun _ => 0))) = some e from hk); exact (fu_at (by omega) (fu_at (by omega) (fu_at (by omega) (fblk_sk 6 rfl (by omega) (fu_at (by omega) (fu_at (by omega) (fu_at (by omega) (fblk_at 25 (by omega) rfl))))))))
      · cases (show some (.inl (cI, 21, .inl (fun _ => 0))) = some e from hk); exact (fu_at (by omega) (fu_at (by omega) (fu_at (by omega) (fblk_sk 6 rfl (by omega) (fu_at (by omega) (fu_at (by omega) (fu_at (by omega) (fblk_at 26 (by omega) rfl))))))))
      · cases (show some (.inl (cI, 21, .inl (fun _ => 0))) = some e from hk); exact (fu_at (by omega) (fu_at (by omega) (fu_at (by omega) (fblk_sk 6 rfl (by omega) (fu_at (by omega) (fu_at (by omega) (fu_at (by omega) (fblk_at 27 (by omega) rfl))))))))
      · cases (show some (.inl (cI, 21, .inl (fun _ => 0))) = some e from hk); exact (fu_at (by omega) (fu_at (by omega) (fu_at (by omega) (fblk_sk 6 rfl (by omega) (fu_at (by omega) (fu_at (by omega) (fu_at (by omega) (fblk_at 28 (by omega) rfl))))))))
      · cases (show some (.inl (cI, 21, .inl (fun _ => 0))) = some e from hk); exact (fu_at (by omega) (fu_at (by omega) (fu_at (by omega) (fblk_sk 6 rfl (by omega) (fu_at (by omega) (fu_at (by omega) (fu_at (by omega) (fblk_at 29 (by omega) rfl))))))))
      · cases (show some (.inl (cI, 21, .inl (fun _ => 0))) = some e from hk); exact (fu_at (by omega) (fu_at (by omega) (fu_at (by omega) (fblk_sk 6 rfl (by omega) (fu_at (by omega) (fu_at (by omega) (fu_at (by omega) (fblk_at 30 (by omega) rfl))))))))
      · cases (show some (.inl (cI, 21, .inl (fun _ => 0))) = some e from hk); exact (fu_at (by omega) (fu_at (by omega) (fu_at (by omega) (fblk_sk 6 rfl (by omega) (fu_at (by omega) (fu_at (by omega) (fu_at (by omega) (fblk_at 31 (by omega) rfl))))))))
      · cases (show some (.inl (cI, 21, .inl (fun _ => 0))) = some e from hk); exact (fu_at (by omega) (fu_at (by omega) (fu_at (by omega) (fblk_sk 6 rfl (by omega) (fu_at (by omega) (fu_at (by omega) (fu_at (by omega) (fblk_at 32 (by omega) rfl))))))))
      · cases (show some (.inl (cI, 21, .inl (fun _ => 0))) = some e from hk); exact (fu_at (by omega) (fu_at (by omega) (fu_at (by omega) (fblk_sk 6 rfl (by omega) (fu_at (by omega) (fu_at (by omega) (fu_at (by omega) (fblk_at 33 (by omega) rfl))))))))
      · cases (show some (.inl (cI, 21, .inl (fun _ => 0))) = some e from hk); exact (fu_at (by omega) (fu_at (by omega) (fu_at (by omega) (fblk_sk 6 rfl (by omega) (fu_at (by omega) (fu_at (by omega) (fu_at (by omega) (fblk_at 34 (by omega) rfl))))))))
      · cases (show some (.inl (cI, 21, .inl (fun _ => 0))) = some e from hk); exact (fu_at (by omega) (fu_at (by omega) (fu_at (by omega) (fblk_sk 6 rfl (by omega) (fu_at (by omega) (fu_at (by omega) (fu_at (by omega) (fblk_at 35 (by omega) rfl))))))))
      · cases (show some (.inl (cI, 21, .inl (fun _ => 0))) = some e from hk); exact (fu_at (by omega) (fu_at (by omega) (fu_at (by omega) (fblk_sk 6 rfl (by omega) (fu_at (by omega) (fu_at (by omega) (fu_at (by omega) (fblk_at 36 (by omega) rfl))))))))
      · cases (show some (.inl (cI, 21, .inl (fun _ => 0))) = some e from hk); exact (fu_at (by omega) (fu_at (by omega) (fu_at (by omega) (fblk_sk 6 rfl (by omega) (fu_at (by omega) (fu_at (by omega) (fu_at (by omega) (fblk_at 37 (by omega) rfl))))))))
      · cases (show some (.inl (cI, 21, .inl (fun _ => 0))) = some e from hk); exact (fu_at (by omega) (fu_at (by omega) (fu_at (by omega) (fblk_sk 6 rfl (by omega) (fu_at (by omega) (fu_at (by omega) (fu_at (by omega) (fblk_at 38 (by omega) rfl))))))))
      · cases (show some (.inl (cI, 21, .inl (fun _ => 0))) = some e from hk); exact (fu_at (by omega) (fu_at (by omega) (fu_at (by omega) (fblk_sk 6 rfl (by omega) (fu_at (by omega) (fu_at (by omega) (fu_at (by omega) (fblk_at 39 (by omega) rfl))))))))
      · cases (show some (.inl (cI, 21, .inl (fun _ => 0))) = some e from hk); exact (fu_at (by omega) (fu_at (by omega) (fu_at (by omega) (fblk_sk 6 rfl (by omega) (fu_at (by omega) (fu_at (by omega) (fu_at (by omega) (fblk_at 40 (by omega) rfl))))))))
      · cases (show some (.inl (cI, 21, .inl (fun _ => 0))) = some e from hk); exact (fu_at (by omega) (fu_at (by omega) (fu_at (by omega) (fblk_sk 6 rfl (by omega) (fu_at (by omega) (fu_at (by omega) (fu_at (by omega) (fblk_at 41 (by omega) rfl))))))))
      · cases (show some (.inl (cI, 21, .inl (fun _ => 0))) = some e from hk); exact (fu_at (by omega) (fu_at (by omega) (fu_at (by omega) (fblk_sk 6 rfl (by omega) (fu_at (by omega) (fu_at (by omega) (fu_at (by omega) (fblk_at 42 (by omega) rfl))))))))
      · cases (show some (.inl (cI, 20, .inl (fun _ => 0))) = some e from hk); exact (fu_at (by omega) (fu_at (by omega) (fu_at (by omega) (fblk_sk 6 rfl (by omega) (fu_at (by omega) (fu_at (by omega) (fu_at (by omega) (fblk_at 43 (by omega) rfl))))))))
      · cases (show some (.inl (cI, 20, .inl (fun _ => 0))) = some e from hk); exact (fu_at (by omega) (fu_at (by omega) (fu_at (by omega) (fblk_sk 6 rfl (by omega) (fu_at (by omega) (fu_at (by omega) (fu_at (by omega) (fblk_at 44 (by omega) rfl))))))))
      · cases (show some (.inl (cI, 20, .inl (fun _ => 0))) = some e from hk); exact (fu_at (by omega) (fu_at (by omega) (fu_at (by omega) (fblk_sk 6 rfl (by omega) (fu_at (by omega) (fu_at (by omega) (fu_at (by omega) (fblk_at 45 (by omega) rfl))))))))
      · cases (show some (.inl (cI, 20, .inl (fun _ => 0))) = some e from hk); exact (fu_at (by omega) (fu_at (by omega) (fu_at (by omega) (fblk_sk 6 rfl (by omega) (fu_at (by omega) (fu_at (by omega) (fu_at (by omega) (fblk_at 46 (by omega) rfl))))))))
      · cases (show some (.inl (cI, 20, .inl (fun _ => 0))) = some e from hk); exact (fu_at (by omega) (fu_at (by omega) (fu_at (by omega) (fblk_sk 6 rfl (by omega) (fu_at (by omega) (fu_at (by omega) (fu_at (by omega) (fblk_at 47 (by omega) rfl))))))))
      · cases (show some (.inl (cI, 20, .inl (fun _ => 0))) = some e from hk); exact (fu_at (by omega) (fu_at (by omega) (fu_at (by omega) (fblk_sk 6 rfl (by omega) (fu_at (by omega) (fu_at (by omega) (fu_at (by omega) (fblk_at 48 (by omega) rfl))))))))
      · cases (show some (.inr (7, [.ref (n + 51), .ref (n + 52), .ref (n + 53), .ref (n + 54), .ref (n + 55), .ref (n + 56), .int 1])) = some e from hk); exact (fu_at (by omega) (fu_at (by omega) (fu_at (by omega) (fblk_sk 6 rfl (by omega) fu_s))))
      · cases (show some (.inl (cC, 20, .inl (upd (fun _ => 0) 0 97))) = some e from hk); exact (fu_at (by omega) (fu_at (by omega) (fu_at (by omega) (fblk_at 0 (by omega) rfl))))
      · cases (show some (.inl (cI, 20, .inl (fun _ => 0))) = some e from hk); exact (fu_at (by omega) (fu_at (by omega) (fu_at (by omega) (fblk_at 1 (by omega) rfl))))
      · cases (show some (.inl (cI, 20, .inl (fun _ => 0))) = some e from hk); exact (fu_at (by omega) (fu_at (by omega) (fu_at (by omega) (fblk_at 2 (by omega) rfl))))
      · cases (show some (.inl (cI, 20, .inl (upd (fun _ => 0) 0 (-1)))) = some e from hk); exact (fu_at (by omega) (fu_at (by omega) (fu_at (by omega) (fblk_at 3 (by omega) rfl))))
      · cases (show some (.inl (cI, 20, .inl (fun _ => 0))) = some e from hk); exact (fu_at (by omega) (fu_at (by omega) (fu_at (by omega) (fblk_at 4 (by omega) rfl))))
      · cases (show some (.inl (cI, 20, .inl (fun _ => 0))) = some e from hk); exact (fu_at (by omega) (fu_at (by omega) (fu_at (by omega) (fblk_at 5 (by omega) rfl))))
    · rcases fu_cases h with ⟨rfl, he⟩ | ⟨hne0, h⟩
      · cases he; exact fu_s
      · exact (fu_at (by omega) (fu_at (by omega) (fu_at (by omega) (fblk_sk 6 rfl (by omega) (fu_at (by omega) (fu_at (by omega) (fu_at (by omega) (fblk_sk 49 rfl (by omega) (fu_at (by omega) (fu_at (by omega) h)))))))))))
  exact fx_vret S hr hlocks () hG trivial dX2_init_37
theorem i_X7_init_X0 : ∀ w ∈ u_ws RX0 TX0 2, w ∈ wsX7_init := by decide +kernel
theorem i_X7_init_X1 : ∀ w ∈ u_ws RX1 TX1 10, w ∈ wsX7_init := by decide +kernel
theorem i_X7_init_X2 : ∀ w ∈ u_ws RX2 TX2 4, w ∈ wsX7_init := by decide +kernel
theorem i_X7_init_X3 : ∀ w ∈ u_ws RX3 TX3 9, w ∈ wsX7_init := by decide +kernel
theorem i_X7_init_X4 : ∀ w ∈ u_ws RX4 TX4 4, w ∈ wsX7_init := by decide +kernel
theorem i_X7_init_X5 : ∀ w ∈ u_ws RX5 TX5 7, w ∈ wsX7_init := by decide +kernel
theorem i_X7_init_X6 : ∀ w ∈ u_ws RX6 TX6 2, w ∈ wsX7_init := by decide +kernel
theorem i_X7_init_X7 : ∀ w ∈ u_ws RX7 TX7 10, w ∈ wsX7_init := by decide +kernel
set_option maxHeartbeats 16000000 in
theorem k8_X7_init {n b1 : Nat} (hn : N0 + 0 ≤ n) (hb1 : N0 + 0 ≤ b1) (h0 : F b1 = some (.inr (9, [.null, .null, .null, .null, .null, .null, .null, .int 0, .int 0, .int 0]))) : Met l yX7_init wsX7_init ({ frames := 3, cells := 163, slots := 3344, locals := 52 }) (va_Pc [.ref b1] (fP N0 D vwCl (fty cI cC cL cD cII cTr cTm cIt cB) (fen ql) F n)) (fQv N0 D vwCl (fty cI cC cL cD cII cTr cTm cIt cB) (fun (_ : Unit) => True) (fun _ => (fu (fblk (fu (fu (fu (fblk (fu (fu (fu (fblk (fu (fu (fu (fu (fu (fu (fblk (fu (fu (fu (fblk (fu (fu (fu (fblk (fu (fu (fu (fblk (fu (fu (fu (fblk (fu (fu (fu (fblk (fu (fu (fu (fu F n (.inl (cTr, 3, .inr (.inr (.inr (.inr (fun _ => none))))))) b1 (.inr (9, [.ref n, .null, .null, .null, .null, .null, .null, .int 0, .int 0, .int 0]))) (n + 1) (.inr (6, [.null, .int 0, .int 0, .null]))) (n + 1) (.inr (6, [.ref (n + 2), .int 0, .int 0, .ref (n + 3)]))) (n + 2) [.inl (cC, 80, .inl (fun _ => 0)), .inr (7, [.ref (n + 4), .ref (n + 5), .ref (n + 6), .ref (n + 7), .ref (n + 8), .ref (n + 9), .int 1]), .inl (cC, 20, .inl (upd (fun _ => 0) 0 97)), .inl (cI, 20, .inl (fun _ => 0)), .inl (cI, 20, .inl (fun _ => 0)), .inl (cI, 20, .inl (upd (fun _ => 0) 0 (-1))), .inl (cI, 20, .inl (fun _ => 0)), .inl (cI, 20, .inl (fun _ => 0))]) b1 (.inr (9, [.ref n, .ref (n + 1), .null, .null, .null, .null, .null, .int 0, .int 0, .int 0]))) (n + 10) (.inr (2, [.null, .int 0]))) (n + 10) (.inr (2, [.ref (n + 11), .int 0]))) (n + 11) [.inl (cC, 160, .inl (fun _ => 0))]) b1 (.inr (9, [.ref n, .ref (n + 1), .ref (n + 10), .null, .null, .null, .null, .int 0, .int 0, .int 0]))) (n + 12) (.inr (3, [.null, .null, .null, .null, .null, .null, .int 0, .int 0, .null, .null]))) (n + 12) (.inr (3, [.ref (n + 13), .ref (n + 34), .ref (n + 56), .ref (n + 57), .ref (n + 58), .ref (n + 59), .int 0, .int 0, .ref (n + 60), .ref (n + 61)]))) (n + 13) [.inl (cII, 20, .inr (.inr (.inr (.inr (fun j => if j < 20 then some ((n + 14) + j) else none))))), .inl (cI, 20, .inl (fun _ => 0)), .inl (cI, 20, .inl (fun _ => 0)), .inl (cI, 20, .inl (fun _ => 0)), .inl (cI, 20, .inl (fun _ => 0)), .inl (cI, 20, .inl (fun _ => 0)), .inl (cI, 20, .inl (fun _ => 0)), .inl (cI, 20, .inl (fun _ => 0)), .inl (cI, 20, .inl (fun _ => 0)), .inl (cI, 20, .inl (fun _ => 0)), .inl (cI, 20, .inl (fun _ => 0)), .inl (cI, 20, .inl (fun _ => 0)), .inl (cI, 20, .inl (fun _ => 0)), .inl (cI, 20, .inl (fun _ => 0)), .inl (cI, 20, .inl (fun _ => 0)), .inl (cI, 20, .inl (fun _ => 0)), .inl (cI, 20, .inl (fun _ => 0)), .inl (cI, 20, .inl (fun _ => 0)), .inl (cI, 20, .inl (fun _ => 0)), .inl (cI, 20, .inl (fun _ => 0)), .inl (cI, 20, .inl (fun _ => 0)), .inl (cII, 21, .inr (.inr (.inr (.inr (fun j => if j < 21 then some ((n + 35) + j) else none))))), .inl (cI, 21, .inl (fun _ => 0)), .inl (cI, 21, .inl (fun _ => 0)), .inl (cI, 21, .inl (fun _ => 0)), .inl (cI, 21, .inl (fun _ => 0)), .inl (cI, 21, .inl (fun _ => 0)), .inl (cI, 21, .inl (fun _ => 0)), .inl (cI, 21, .inl (fun _ => 0)), .inl (cI, 21, .inl (fun _ => 0)), .inl (cI, 21, .inl (fun _ => 0)), .inl (cI, 21, .inl (fun _ => 0)), .inl (cI, 21, .inl (fun _ => 0)), .inl (cI, 21, .inl (fun _ => 0)), .inl (cI, 21, .inl (fun _ => 0)), .inl (cI, 21, .inl (fun _ => 0)), .inl (cI, 21, .inl (fun _ => 0)), .inl (cI, 21, .inl (fun _ => 0)), .inl (cI, 21, .inl (fun _ => 0)), .inl (cI, 21, .inl (fun _ => 0)), .inl (cI, 21, .inl (fun _ => 0)), .inl (cI, 21, .inl (fun _ => 0)), .inl (cI, 21, .inl (fun _ => 0)), .inl (cI, 20, .inl (fun _ => 0)), .inl (cI, 20, .inl (fun _ => 0)), .inl (cI, 20, .inl (fun _ => 0)), .inl (cI, 20, .inl (fun _ => 0)), .inl (cI, 20, .inl (fun _ => 0)), .inl (cI, 20, .inl (fun _ => 0))]) b1 (.inr (9, [.ref n, .ref (n + 1), .ref (n + 10), .ref (n + 12), .null, .null, .null, .int 0, .int 0, .int 0]))) (n + 62) (.inr (8, [.null, .int 0]))) (n + 62) (.inr (8, [.ref (n + 63), .int 0]))) (n + 63) [.inl (cI, 7, .inl (fun _ => 0))]) b1 (.inr (9, [.ref n, .ref (n + 1), .ref (n + 10), .ref (n + 12), .ref (n + 62), .null, .null, .int 0, .int 0, .int 0]))) (n + 64) (.inr (5, [.int 0, .null, .null, .null, .null, .null, .null, .null, .int 0]))) (n + 64) (.inr (5, [.int 0, .ref (n + 65), .ref (n + 72), .ref (n + 79), .ref (n + 80), .ref (n + 81), .ref (n + 82), .ref (n + 83), .int 0]))) (n + 65) [.inr (7, [.ref (n + 66), .ref (n + 67), .ref (n + 68), .ref (n + 69), .ref (n + 70), .ref (n + 71), .int 1]), .inl (cC, 20, .inl (upd (fun _ => 0) 0 97)), .inl (cI, 20, .inl (fun _ => 0)), .inl (cI, 20, .inl (fun _ => 0)), .inl (cI, 20, .inl (upd (fun _ => 0) 0 (-1))), .inl (cI, 20, .inl (fun _ => 0)), .inl (cI, 20, .inl (fun _ => 0)), .inr (7, [.ref (n + 73), .ref (n + 74), .ref (n + 75), .ref (n + 76), .ref (n + 77), .ref (n + 78), .int 1]), .inl (cC, 20, .inl (upd (fun _ => 0) 0 97)), .inl (cI, 20, .inl (fun _ => 0)), .inl (cI, 20, .inl (fun _ => 0)), .inl (cI, 20, .inl (upd (fun _ => 0) 0 (-1))), .inl (cI, 20, .inl (fun _ => 0)), .inl (cI, 20, .inl (fun _ => 0)), .inl (cI, 20, .inl (fun _ => 0)), .inl (cI, 20, .inl (fun _ => 0)), .inl (cC, 40, .inl (fun _ => 0)), .inl (cI, 40, .inl (fun _ => 0)), .inl (cI, 40, .inl (fun _ => 0))]) b1 (.inr (9, [.ref n, .ref (n + 1), .ref (n + 10), .ref (n + 12), .ref (n + 62), .ref (n + 64), .null, .int 0, .int 0, .int 0]))) (n + 84) (.inr (4, [.null, .null, .int 0, .int 0]))) (n + 84) (.inr (4, [.ref (n + 85), .ref (n + 135), .int (-1), .int 32]))) (n + 85) [.inr (3, [.ref (n + 86), .ref (n + 107), .ref (n + 129), .ref (n + 130), .ref (n + 131), .ref (n + 132), .int 0, .int 0, .ref (n + 133), .ref (n + 134)]), .inl (cII, 20, .inr (.inr (.inr (.inr (fun j => if j < 20 then some ((n + 87) + j) else none))))), .inl (cI, 20, .inl (fun _ => 0)), .inl (cI, 20, .inl (fun _ => 0)), .inl (cI, 20, .inl (fun _ => 0)), .inl (cI, 20, .inl (fun _ => 0)), .inl (cI, 20, .inl (fun _ => 0)), .inl (cI, 20, .inl (fun _ => 0)), .inl (cI, 20, .inl (fun _ => 0)), .inl (cI, 20, .inl (fun _ => 0)), .inl (cI, 20, .inl (fun _ => 0)), .inl (cI, 20, .inl (fun _ => 0)), .inl (cI, 20, .inl (fun _ => 0)), .inl (cI, 20, .inl (fun _ => 0)), .inl (cI, 20, .inl (fun _ => 0)), .inl (cI, 20, .inl (fun _ => 0)), .inl (cI, 20, .inl (fun _ => 0)), .inl (cI, 20, .inl (fun _ => 0)), .inl (cI, 20, .inl (fun _ => 0)), .inl (cI, 20, .inl (fun _ => 0)), .inl (cI, 20, .inl (fun _ => 0)), .inl (cI, 20, .inl (fun _ => 0)), .inl (cII, 21, .inr (.inr (.inr (.inr (fun j => if j < 21 then some ((n + 108) + j) else none))))), .inl (cI, 21, .inl (fun _ => 0)), .inl (cI, 21, .inl (fun _ => 0)), .inl (cI, 21, .inl (fun _ => 0)), .inl (cI, 21, .inl (fun _ => 0)), .inl (cI, 21, .inl (fun _ => 0)), .inl (cI, 21, .inl (fun _ => 0)), .inl (cI, 21, .inl (fun _ => 0)), .inl (cI, 21, .inl (fun _ => 0)), .inl (cI, 21, .inl (fun _ => 0)), .inl (cI, 21, .inl (fun _ => 0)), .inl (cI, 21, .inl (fun _ => 0)), .inl (cI, 21, .inl (fun _ => 0)), .inl (cI, 21, .inl (fun _ => 0)), .inl (cI, 21, .inl (fun _ => 0)), .inl (cI, 21, .inl (fun _ => 0)), .inl (cI, 21, .inl (fun _ => 0)), .inl (cI, 21, .inl (fun _ => 0)), .inl (cI, 21, .inl (fun _ => 0)), .inl (cI, 21, .inl (fun _ => 0)), .inl (cI, 21, .inl (fun _ => 0)), .inl (cI, 21, .inl (fun _ => 0)), .inl (cI, 20, .inl (fun _ => 0)), .inl (cI, 20, .inl (fun _ => 0)), .inl (cI, 20, .inl (fun _ => 0)), .inl (cI, 20, .inl (fun _ => 0)), .inl (cI, 20, .inl (fun _ => 0)), .inl (cI, 20, .inl (fun _ => 0)), .inr (7, [.ref (n + 136), .ref (n + 137), .ref (n + 138), .ref (n + 139), .ref (n + 140), .ref (n + 141), .int 1]), .inl (cC, 20, .inl (upd (fun _ => 0) 0 97)), .inl (cI, 20, .inl (fun _ => 0)), .inl (cI, 20, .inl (fun _ => 0)), .inl (cI, 20, .inl (upd (fun _ => 0) 0 (-1))), .inl (cI, 20, .inl (fun _ => 0)), .inl (cI, 20, .inl (fun _ => 0))]) b1 (.inr (9, [.ref n, .ref (n + 1), .ref (n + 10), .ref (n + 12), .ref (n + 62), .ref (n + 64), .ref (n + 84), .int 0, .int 0, .int 0]))) b1 (.inr (9, [.ref n, .ref (n + 1), .ref (n + 10), .ref (n + 12), .ref (n + 62), .ref (n + 64), .ref (n + 84), .int (-1), .int 0, .int 0]))) b1 (.inr (9, [.ref n, .ref (n + 1), .ref (n + 10), .ref (n + 12), .ref (n + 62), .ref (n + 64), .ref (n + 84), .int (-1), .int (-1), .int 0]))) b1 (.inr (9, [.ref n, .ref (n + 1), .ref (n + 10), .ref (n + 12), .ref (n + 62), .ref (n + 64), .ref (n + 84), .int (-1), .int (-1), .int 32]))) (n + 142) (.inr (7, [.null, .null, .null, .null, .null, .null, .int 0]))) (n + 142) (.inr (7, [.ref (n + 143), .ref (n + 144), .ref (n + 145), .ref (n + 146), .ref (n + 147), .ref (n + 148), .int 1]))) (n + 143) [.inl (cC, 20, .inl (upd (fun _ => 0) 0 97)), .inl (cI, 20, .inl (fun _ => 0)), .inl (cI, 20, .inl (fun _ => 0)), .inl (cI, 20, .inl (upd (fun _ => 0) 0 (-1))), .inl (cI, 20, .inl (fun _ => 0)), .inl (cI, 20, .inl (fun _ => 0))]) n (.inl (cTr, 3, .inr (.inr (.inr (.inr (va_up (fun _ => none) 0 (some (n + 142))))))))) (n + 149) (.inr (7, [.null, .null, .null, .null, .null, .null, .int 0]))) (n + 149) (.inr (7, [.ref (n + 150), .ref (n + 151), .ref (n + 152), .ref (n + 153), .ref (n + 154), .ref (n + 155), .int 1]))) (n + 150) [.inl (cC, 20, .inl (upd (fun _ => 0) 0 97)), .inl (cI, 20, .inl (fun _ => 0)), .inl (cI, 20, .inl (fun _ => 0)), .inl (cI, 20, .inl (upd (fun _ => 0) 0 (-1))), .inl (cI, 20, .inl (fun _ => 0)), .inl (cI, 20, .inl (fun _ => 0))]) n (.inl (cTr, 3, .inr (.inr (.inr (.inr (va_up (va_up (fun _ => none) 0 (some (n + 142))) 1 (some (n + 149))))))))) (n + 156) (.inr (7, [.null, .null, .null, .null, .null, .null, .int 0]))) (n + 156) (.inr (7, [.ref (n + 157), .ref (n + 158), .ref (n + 159), .ref (n + 160), .ref (n + 161), .ref (n + 162), .int 1]))) (n + 157) [.inl (cC, 20, .inl (upd (fun _ => 0) 0 97)), .inl (cI, 20, .inl (fun _ => 0)), .inl (cI, 20, .inl (fun _ => 0)), .inl (cI, 20, .inl (upd (fun _ => 0) 0 (-1))), .inl (cI, 20, .inl (fun _ => 0)), .inl (cI, 20, .inl (fun _ => 0))]) n (.inl (cTr, 3, .inr (.inr (.inr (.inr (va_up (va_up (va_up (fun _ => none) 0 (some (n + 142))) 1 (some (n + 149))) 2 (some (n + 156)))))))))) (fun _ => (n + 163))) 163 3344 (fA N0) := by
  refine fx_start 2 rfl rfl (Nat.le_of_ble_eq_true rfl) ?_ rfl
  intro p e s m below meth c ls S hr hlocks hin hG hl
  have hl : lv_has ls 2 [(0, .ref b1)] := hl
  have lt_h0 := hG.1.lt h0
  refine lv_aload_n S.1 S.2.1 dX7_init_0 rfl (lv_at hl 0 rfl) ?_
  refine gx_objInit S hG (by decide +kernel) (by decide +kernel) (by decide +kernel) hl.1 dX7_init_1 (Nat.le_of_ble_eq_true rfl) (Nat.le_of_ble_eq_true rfl) ?_
  refine lv_aload_n S.1 S.2.1 dX7_init_4 rfl (lv_at hl 0 rfl) ?_
  refine lv_iconst (v := 3) S.1 S.2.1 dX7_init_5 (by decide) ?_
  refine gx_newq (C := "TreeDiffer$Tree") (N' := 3) S hG (by decide +kernel) (show _ ∈ fen2.1 from by decide) 5 rfl (by decide) (by decide) (by decide) (by decide) (by decide) dX7_init_6 (fun H hG => ?_)
  refine W.widen (k := 1) (n := 3) (by decide) (by decide) ?_
  refine gx_putF (C := RX7) (T := TX7) (N := 10) (ty := (.array (.object "TreeDiffer$Tree"))) (v := .ref n) (fs' := [.ref n, .null, .null, .null, .null, .null, .null, .int 0, .int 0, .int 0]) S hG (fu_at (by omega) h0) i_X7_init_X7 rfl 0 (by decide) tyX7 tyX7_ok nmX7 (by decide +kernel) rfl hin rfl (by decide +kernel) rfl rfl (Nat.le_of_ble_eq_true rfl) rfl dX7_init_9 (fun H locs hG => ?_)
  refine lv_aload_n S.1 S.2.1 dX7_init_12 rfl (lv_at hl 0 rfl) ?_
  refine gx_new (C := RX4) (T := TX4) (N := 4) (ci := 6) (fs := [.null, .int 0, .int 0, .null]) S hG i_X7_init_X4 tyX4 tyX4_ok rfl (by decide +kernel) (by decide +kernel) (by decide +kernel) (fun j hj => by rcases (show j = 0 ∨ j = 1 ∨ j = 2 ∨ j = 3 by omega) with rfl | rfl | rfl | rfl <;> rfl) (by decide) (by decide) dX7_init_13 (fun H hG => ?_)
  refine W.widen (k := 2) (n := 7) (by decide) (by decide) ?_
  refine lv_dup S.1 S.2.1 dX7_init_16 rfl ?_
  refine fx_cINv (host := "TreeDiffer") (As := []) (rest := [.ref (n + 1), .ref b1]) S hG (k2_X4_init (by omega) (by omega) fu_s) ⟨(va_cnB 0 S.2.2.2.2 gX7_init_X4_init_n17 rfl rfl rfl (hG.nest (show _ ∈ fen2.2.2.1 from by decide)) (S.2.2.2.2 (.initialized RX4) (by decide +kernel)) (by decide +kernel) ⟨Nat.le_of_ble_eq_true rfl, Nat.le_of_ble_eq_true rfl⟩), rfl, S.2.2.2.2 (.instanceMethod yX4_init) (by decide +kernel)⟩ rfl hl.1 rfl (Nat.le_of_ble_eq_true rfl) dX7_init_17 ⟨Nat.le_of_ble_eq_true rfl, Nat.le_of_ble_eq_true rfl⟩ (fun _ H locs hp hG => ?_)
  refine W.widen (k := 10) (n := 214) (by decide) (by decide) ?_
  refine gx_putF (C := RX7) (T := TX7) (N := 10) (ty := (.object "TreeDiffer$TextBuffer")) (v := .ref (n + 1)) (fs' := [.ref n, .ref (n + 1), .null, .null, .null, .null, .null, .int 0, .int 0, .int 0]) S hG (fblk_sk 8 rfl (by omega) (fu_at (by omega) (fu_at (by omega) fu_s))) i_X7_init_X7 rfl 1 (by decide) tyX7 tyX7_ok nmX7 (by decide +kernel) rfl hin rfl (by decide +kernel) rfl rfl (Nat.le_of_ble_eq_true rfl) rfl dX7_init_20 (fun H locs hG => ?_)
  refine lv_aload_n S.1 S.2.1 dX7_init_23 rfl (lv_at hl 0 rfl) ?_
  refine gx_new (C := RX0) (T := TX0) (N := 2) (ci := 2) (fs := [.null, .int 0]) S hG i_X7_init_X0 tyX0 tyX0_ok rfl (by decide +kernel) (by decide +kernel) (by decide +kernel) (fun j hj => by rcases (show j = 0 ∨ j = 1 by omega) with rfl | rfl <;> rfl) (by decide) (by decide) dX7_init_24 (fun H hG => ?_)
  refine W.widen (k := 11) (n := 216) (by decide) (by decide) ?_
  refine lv_dup S.1 S.2.1 dX7_init_27 rfl ?_
  refine fx_cINv (host := "TreeDiffer") (As := []) (rest := [.ref (n + 10), .ref b1]) S hG (k3_X0_init (by omega) (by omega) fu_s) ⟨(va_cnB 0 S.2.2.2.2 gX7_init_X0_init_n24 rfl rfl rfl (hG.nest (show _ ∈ fen2.2.2.1 from by decide)) (S.2.2.2.2 (.initialized RX0) (by decide +kernel)) (by decide +kernel) ⟨Nat.le_of_ble_eq_true rfl, Nat.le_of_ble_eq_true rfl⟩), rfl, S.2.2.2.2 (.instanceMethod yX0_init) (by decide +kernel)⟩ rfl hl.1 rfl (Nat.le_of_ble_eq_true rfl) dX7_init_28 ⟨Nat.le_of_ble_eq_true rfl, Nat.le_of_ble_eq_true rfl⟩ (fun _ H locs hp hG => ?_)
  refine W.widen (k := 12) (n := 376) (by decide) (by decide) ?_
  refine gx_putF (C := RX7) (T := TX7) (N := 10) (ty := (.object "TreeDiffer$Line")) (v := .ref (n + 10)) (fs' := [.ref n, .ref (n + 1), .ref (n + 10), .null, .null, .null, .null, .int 0, .int 0, .int 0]) S hG (fblk_sk 1 rfl (by omega) (fu_at (by omega) (fu_at (by omega) fu_s))) i_X7_init_X7 rfl 2 (by decide) tyX7 tyX7_ok nmX7 (by decide +kernel) rfl hin rfl (by decide +kernel) rfl rfl (Nat.le_of_ble_eq_true rfl) rfl dX7_init_31 (fun H locs hG => ?_)
  refine lv_aload_n S.1 S.2.1 dX7_init_34 rfl (lv_at hl 0 rfl) ?_
  refine gx_new (C := RX1) (T := TX1) (N := 10) (ci := 3) (fs := [.null, .null, .null, .null, .null, .null, .int 0, .int 0, .null, .null]) S hG i_X7_init_X1 tyX1 tyX1_ok rfl (by decide +kernel) (by decide +kernel) (by decide +kernel) (fun j hj => by rcases (show j = 0 ∨ j = 1 ∨ j = 2 ∨ j = 3 ∨ j = 4 ∨ j = 5 ∨ j = 6 ∨ j = 7 ∨ j = 8 ∨ j = 9 by omega) with rfl | rfl | rfl | rfl | rfl | rfl | rfl | rfl | rfl | rfl <;> rfl) (by decide) (by decide) dX7_init_35 (fun H hG => ?_)
  refine W.widen (k := 13) (n := 386) (by decide) (by decide) ?_
  refine lv_dup S.1 S.2.1 dX7_init_38 rfl ?_
  refine fx_cINv (host := "TreeDiffer") (As := []) (rest := [.ref (n + 12), .ref b1]) S hG (k4_X1_init (by omega) (by omega) fu_s) ⟨(va_cnB 0 S.2.2.2.2 gX7_init_X1_init_n31 rfl rfl rfl (hG.nest (show _ ∈ fen2.2.2.1 from by decide)) (S.2.2.2.2 (.initialized RX1) (by decide +kernel)) (by decide +kernel) ⟨Nat.le_of_ble_eq_true rfl, Nat.le_of_ble_eq_true rfl⟩), rfl, S.2.2.2.2 (.instanceMethod yX1_init) (by decide +kernel)⟩ rfl hl.1 rfl (Nat.le_of_ble_eq_true rfl) dX7_init_39 ⟨Nat.le_of_ble_eq_true rfl, Nat.le_of_ble_eq_true rfl⟩ (fun _ H locs hp hG => ?_)
  refine W.widen (k := 62) (n := 1388) (by decide) (by decide) ?_
  refine gx_putF (C := RX7) (T := TX7) (N := 10) (ty := (.object "TreeDiffer$Matcher")) (v := .ref (n + 12)) (fs' := [.ref n, .ref (n + 1), .ref (n + 10), .ref (n + 12), .null, .null, .null, .int 0, .int 0, .int 0]) S hG (fblk_sk 49 rfl (by omega) (fu_at (by omega) (fu_at (by omega) fu_s))) i_X7_init_X7 rfl 3 (by decide) tyX7 tyX7_ok nmX7 (by decide +kernel) rfl hin rfl (by decide +kernel) rfl rfl (Nat.le_of_ble_eq_true rfl) rfl dX7_init_42 (fun H locs hG => ?_)
  refine lv_aload_n S.1 S.2.1 dX7_init_45 rfl (lv_at hl 0 rfl) ?_
  refine gx_new (C := RX6) (T := TX6) (N := 2) (ci := 8) (fs := [.null, .int 0]) S hG i_X7_init_X6 tyX6 tyX6_ok rfl (by decide +kernel) (by decide +kernel) (by decide +kernel) (fun j hj => by rcases (show j = 0 ∨ j = 1 by omega) with rfl | rfl <;> rfl) (by decide) (by decide) dX7_init_46 (fun H hG => ?_)
  refine W.widen (k := 63) (n := 1390) (by decide) (by decide) ?_
  refine lv_dup S.1 S.2.1 dX7_init_49 rfl ?_
  refine fx_cINv (host := "TreeDiffer") (As := []) (rest := [.ref (n + 62), .ref b1]) S hG (k5_X6_init (by omega) (by omega) fu_s) ⟨(va_cnB 0 S.2.2.2.2 gX7_init_X6_init_n38 rfl rfl rfl (hG.nest (show _ ∈ fen2.2.2.1 from by decide)) (S.2.2.2.2 (.initialized RX6) (by decide +kernel)) (by decide +kernel) ⟨Nat.le_of_ble_eq_true rfl, Nat.le_of_ble_eq_true rfl⟩), rfl, S.2.2.2.2 (.instanceMethod yX6_init) (by decide +kernel)⟩ rfl hl.1 rfl (Nat.le_of_ble_eq_true rfl) dX7_init_50 ⟨Nat.le_of_ble_eq_true rfl, Nat.le_of_ble_eq_true rfl⟩ (fun _ H locs hp hG => ?_)
  refine W.widen (k := 64) (n := 1397) (by decide) (by decide) ?_
  refine gx_putF (C := RX7) (T := TX7) (N := 10) (ty := (.object "TreeDiffer$Trial")) (v := .ref (n + 62)) (fs' := [.ref n, .ref (n + 1), .ref (n + 10), .ref (n + 12), .ref (n + 62), .null, .null, .int 0, .int 0, .int 0]) S hG (fblk_sk 1 rfl (by omega) (fu_at (by omega) (fu_at (by omega) fu_s))) i_X7_init_X7 rfl 4 (by decide) tyX7 tyX7_ok nmX7 (by decide +kernel) rfl hin rfl (by decide +kernel) rfl rfl (Nat.le_of_ble_eq_true rfl) rfl dX7_init_53 (fun H locs hG => ?_)
  refine lv_aload_n S.1 S.2.1 dX7_init_56 rfl (lv_at hl 0 rfl) ?_
  refine gx_new (C := RX3) (T := TX3) (N := 9) (ci := 5) (fs := [.int 0, .null, .null, .null, .null, .null, .null, .null, .int 0]) S hG i_X7_init_X3 tyX3 tyX3_ok rfl (by decide +kernel) (by decide +kernel) (by decide +kernel) (fun j hj => by rcases (show j = 0 ∨ j = 1 ∨ j = 2 ∨ j = 3 ∨ j = 4 ∨ j = 5 ∨ j = 6 ∨ j = 7 ∨ j = 8 by omega) with rfl | rfl | rfl | rfl | rfl | rfl | rfl | rfl | rfl <;> rfl) (by decide) (by decide) dX7_init_57 (fun H hG => ?_)
  refine W.widen (k := 65) (n := 1406) (by decide) (by decide) ?_
  refine lv_dup S.1 S.2.1 dX7_init_60 rfl ?_
  refine fx_cINv (host := "TreeDiffer") (As := []) (rest := [.ref (n + 64), .ref b1]) S hG (k6_X3_init (by omega) (by omega) fu_s) ⟨(va_cnB 0 S.2.2.2.2 gX7_init_X3_init_n45 rfl rfl rfl (hG.nest (show _ ∈ fen2.2.2.1 from by decide)) (S.2.2.2.2 (.initialized RX3) (by decide +kernel)) (by decide +kernel) ⟨Nat.le_of_ble_eq_true rfl, Nat.le_of_ble_eq_true rfl⟩), rfl, S.2.2.2.2 (.instanceMethod yX3_init) (by decide +kernel)⟩ rfl hl.1 rfl (Nat.le_of_ble_eq_true rfl) dX7_init_61 ⟨Nat.le_of_ble_eq_true rfl, Nat.le_of_ble_eq_true rfl⟩ (fun _ H locs hp hG => ?_)
  refine W.widen (k := 84) (n := 1820) (by decide) (by decide) ?_
  refine gx_putF (C := RX7) (T := TX7) (N := 10) (ty := (.object "TreeDiffer$Script")) (v := .ref (n + 64)) (fs' := [.ref n, .ref (n + 1), .ref (n + 10), .ref (n + 12), .ref (n + 62), .ref (n + 64), .null, .int 0, .int 0, .int 0]) S hG (fblk_sk 19 rfl (by omega) (fu_at (by omega) (fu_at (by omega) fu_s))) i_X7_init_X7 rfl 5 (by decide) tyX7 tyX7_ok nmX7 (by decide +kernel) rfl hin rfl (by decide +kernel) rfl rfl (Nat.le_of_ble_eq_true rfl) rfl dX7_init_64 (fun H locs hG => ?_)
  refine lv_aload_n S.1 S.2.1 dX7_init_67 rfl (lv_at hl 0 rfl) ?_
  refine gx_new (C := RX2) (T := TX2) (N := 4) (ci := 4) (fs := [.null, .null, .int 0, .int 0]) S hG i_X7_init_X2 tyX2 tyX2_ok rfl (by decide +kernel) (by decide +kernel) (by decide +kernel) (fun j hj => by rcases (show j = 0 ∨ j = 1 ∨ j = 2 ∨ j = 3 by omega) with rfl | rfl | rfl | rfl <;> rfl) (by decide) (by decide) dX7_init_68 (fun H hG => ?_)
  refine W.widen (k := 85) (n := 1824) (by decide) (by decide) ?_
  refine lv_dup S.1 S.2.1 dX7_init_71 rfl ?_
  refine fx_cINv (host := "TreeDiffer") (As := []) (rest := [.ref (n + 84), .ref b1]) S hG (k7_X2_init (by omega) (by omega) fu_s) ⟨(va_cnB 0 S.2.2.2.2 gX7_init_X2_init_n52 rfl rfl rfl (hG.nest (show _ ∈ fen2.2.2.1 from by decide)) (S.2.2.2.2 (.initialized RX2) (by decide +kernel)) (by decide +kernel) ⟨Nat.le_of_ble_eq_true rfl, Nat.le_of_ble_eq_true rfl⟩), rfl, S.2.2.2.2 (.instanceMethod yX2_init) (by decide +kernel)⟩ rfl hl.1 rfl (Nat.le_of_ble_eq_true rfl) dX7_init_72 ⟨Nat.le_of_ble_eq_true rfl, Nat.le_of_ble_eq_true rfl⟩ (fun _ H locs hp hG => ?_)
  refine W.widen (k := 142) (n := 2963) (by decide) (by decide) ?_
  refine gx_putF (C := RX7) (T := TX7) (N := 10) (ty := (.object "TreeDiffer$Patcher")) (v := .ref (n + 84)) (fs' := [.ref n, .ref (n + 1), .ref (n + 10), .ref (n + 12), .ref (n + 62), .ref (n + 64), .ref (n + 84), .int 0, .int 0, .int 0]) S hG (fblk_sk 57 rfl (by omega) (fu_at (by omega) (fu_at (by omega) fu_s))) i_X7_init_X7 rfl 6 (by decide) tyX7 tyX7_ok nmX7 (by decide +kernel) rfl hin rfl (by decide +kernel) rfl rfl (Nat.le_of_ble_eq_true rfl) rfl dX7_init_75 (fun H locs hG => ?_)
  refine lv_aload_n S.1 S.2.1 dX7_init_78 rfl (lv_at hl 0 rfl) ?_
  refine lv_iconst (v := (-1)) S.1 S.2.1 dX7_init_79 (by decide) ?_
  refine gx_put (C := RX7) (T := TX7) (N := 10) (ty := .int) (v := .int (-1)) (fs' := [.ref n, .ref (n + 1), .ref (n + 10), .ref (n + 12), .ref (n + 62), .ref (n + 64), .ref (n + 84), .int (-1), .int 0, .int 0]) S hG fu_s i_X7_init_X7 rfl 7 (by decide) tyX7 tyX7_ok nmX7 (by decide +kernel) rfl (by decide +kernel) rfl rfl (Nat.le_of_ble_eq_true rfl) rfl dX7_init_80 (fun H locs hG => ?_)
  refine lv_aload_n S.1 S.2.1 dX7_init_83 rfl (lv_at hl 0 rfl) ?_
  refine lv_iconst (v := (-1)) S.1 S.2.1 dX7_init_84 (by decide) ?_
  refine gx_put (C := RX7) (T := TX7) (N := 10) (ty := .int) (v := .int (-1)) (fs' := [.ref n, .ref (n + 1), .ref (n + 10), .ref (n + 12), .ref (n + 62), .ref (n + 64), .ref (n + 84), .int (-1), .int (-1), .int 0]) S hG fu_s i_X7_init_X7 rfl 8 (by decide) tyX7 tyX7_ok nmX7 (by decide +kernel) rfl (by decide +kernel) rfl rfl (Nat.le_of_ble_eq_true rfl) rfl dX7_init_85 (fun H locs hG => ?_)
  refine lv_aload_n S.1 S.2.1 dX7_init_88 rfl (lv_at hl 0 rfl) ?_
  refine lv_bipush (v := 32) S.1 S.2.1 dX7_init_89 (by decide) ?_
  refine gx_put (C := RX7) (T := TX7) (N := 10) (ty := .char) (v := .int 32) (fs' := [.ref n, .ref (n + 1), .ref (n + 10), .ref (n + 12), .ref (n + 62), .ref (n + 64), .ref (n + 84), .int (-1), .int (-1), .int 32]) S hG fu_s i_X7_init_X7 rfl 9 (by decide) tyX7 tyX7_ok nmX7 (by decide +kernel) rfl (by decide +kernel) rfl (by decide) (Nat.le_of_ble_eq_true rfl) rfl dX7_init_91 (fun H locs hG => ?_)
  refine lv_iconst (v := 0) S.1 S.2.1 dX7_init_94 (by decide) ?_
  refine lv_istore_n (lv' := [(1, .int 0), (0, .ref b1)]) S.1 S.2.1 dX7_init_95 rfl hl (by decide) rfl (fun ls hl => ?_)
  refine lv_iload_n S.1 S.2.1 dX7_init_96 rfl (lv_at hl 0 rfl) ?_
  refine lv_iconst (v := 3) S.1 S.2.1 dX7_init_97 (by decide) ?_
  refine lv_icmp_ge (tgt := 120) S.1 S.2.1 dX7_init_98 (by decide) (fun c => absurd c (by decide)) (fun _ => ?_)
  refine lv_aload_n S.1 S.2.1 dX7_init_101 rfl (lv_at hl 1 rfl) ?_
  refine gx_get (C := RX7) (T := TX7) (N := 10) S hG fu_s i_X7_init_X7 rfl 0 (by decide) (by decide +kernel) rfl dX7_init_102 ?_
  refine lv_iload_n S.1 S.2.1 dX7_init_105 rfl (lv_at hl 0 rfl) ?_
  refine gx_new (C := RX5) (T := TX5) (N := 7) (ci := 7) (fs := [.null, .null, .null, .null, .null, .null, .int 0]) S hG i_X7_init_X5 tyX5 tyX5_ok rfl (by decide +kernel) (by decide +kernel) (by decide +kernel) (fun j hj => by rcases (show j = 0 ∨ j = 1 ∨ j = 2 ∨ j = 3 ∨ j = 4 ∨ j = 5 ∨ j = 6 by omega) with rfl | rfl | rfl | rfl | rfl | rfl | rfl <;> rfl) (by decide) (by decide) dX7_init_106 (fun H hG => ?_)
  refine W.widen (k := 143) (n := 2970) (by decide) (by decide) ?_
  refine lv_dup S.1 S.2.1 dX7_init_109 rfl ?_
  refine fx_cIv (As := []) (rest := [.ref (n + 142), .int 0, .ref n]) S hG (k1_X5_init (by omega) (by omega) fu_s) (cwI 0 S.2.2.2.2 gX7_init_X5_init rfl rfl rfl (S.2.2.2.2 (.initialized RX5) (by decide +kernel)) (S.2.2.2.2 (.methodLink RX7 68 yX5_init) (by decide +kernel)) (S.2.2.2.2 (.instanceMethod yX5_init) (by decide +kernel)) rfl (by decide +kernel) ⟨Nat.le_of_ble_eq_true rfl, Nat.le_of_ble_eq_true rfl⟩) rfl hl.1 rfl (Nat.le_of_ble_eq_true rfl) dX7_init_110 ⟨Nat.le_of_ble_eq_true rfl, Nat.le_of_ble_eq_true rfl⟩ (fun _ H locs hp hG => ?_)
  refine W.widen (k := 149) (n := 3090) (by decide) (by decide) ?_
  refine gx_astq (r := (RX5, TX5, 7)) (f' := va_up (fun _ => none) 0 (some (n + 142))) S hG 5 7 (fblk_sk 6 rfl (by omega) (fu_at (by omega) (fu_at (by omega) (fu_at (by omega) (fu_at (by omega) (fu_at (by omega) (fu_at (by omega) (fblk_sk 57 rfl (by omega) (fu_at (by omega) (fu_at (by omega) (fu_at (by omega) (fblk_sk 19 rfl (by omega) (fu_at (by omega) (fu_at (by omega) (fu_at (by omega) (fblk_sk 1 rfl (by omega) (fu_at (by omega) (fu_at (by omega) (fu_at (by omega) (fblk_sk 49 rfl (by omega) (fu_at (by omega) (fu_at (by omega) (fu_at (by omega) (fblk_sk 1 rfl (by omega) (fu_at (by omega) (fu_at (by omega) (fu_at (by omega) (fblk_sk 8 rfl (by omega) (fu_at (by omega) (fu_at (by omega) (fu_at (by omega) fu_s))))))))))))))))))))))))))))))) rfl (fblk_sk 6 rfl (by omega) fu_s) rfl (fin_l (by decide)) dX7_init_113 (rfl) (fun H locs hG => ?_)
  refine lv_iinc (v := 1) (lv' := [(1, .int 1), (0, .ref b1)]) S.1 S.2.1 dX7_init_114 hl (k := 0) rfl (by decide) (by decide) rfl (fun ls hl => ?_)
  refine lv_goto (tgt := 96) S.1 S.2.1 dX7_init_117 (by decide) ?_
  refine lv_iload_n S.1 S.2.1 dX7_init_96 rfl (lv_at hl 0 rfl) ?_
  refine lv_iconst (v := 3) S.1 S.2.1 dX7_init_97 (by decide) ?_
  refine lv_icmp_ge (tgt := 120) S.1 S.2.1 dX7_init_98 (by decide) (fun c => absurd c (by decide)) (fun _ => ?_)
  refine lv_aload_n S.1 S.2.1 dX7_init_101 rfl (lv_at hl 1 rfl) ?_
  refine gx_get (C := RX7) (T := TX7) (N := 10) S hG (fu_at (by omega) (fblk_sk 6 rfl (by omega) (fu_at (by omega) (fu_at (by omega) fu_s)))) i_X7_init_X7 rfl 0 (by decide) (by decide +kernel) rfl dX7_init_102 ?_
  refine lv_iload_n S.1 S.2.1 dX7_init_105 rfl (lv_at hl 0 rfl) ?_
  refine gx_new (C := RX5) (T := TX5) (N := 7) (ci := 7) (fs := [.null, .null, .null, .null, .null, .null, .int 0]) S hG i_X7_init_X5 tyX5 tyX5_ok rfl (by decide +kernel) (by decide +kernel) (by decide +kernel) (fun j hj => by rcases (show j = 0 ∨ j = 1 ∨ j = 2 ∨ j = 3 ∨ j = 4 ∨ j = 5 ∨ j = 6 by omega) with rfl | rfl | rfl | rfl | rfl | rfl | rfl <;> rfl) (by decide) (by decide) dX7_init_106 (fun H hG => ?_)
  refine W.widen (k := 150) (n := 3097) (by decide) (by decide) ?_
  refine lv_dup S.1 S.2.1 dX7_init_109 rfl ?_
  refine fx_cIv (As := []) (rest := [.ref (n + 149), .int 1, .ref n]) S hG (k1_X5_init (by omega) (by omega) fu_s) (cwI 0 S.2.2.2.2 gX7_init_X5_init rfl rfl rfl (S.2.2.2.2 (.initialized RX5) (by decide +kernel)) (S.2.2.2.2 (.methodLink RX7 68 yX5_init) (by decide +kernel)) (S.2.2.2.2 (.instanceMethod yX5_init) (by decide +kernel)) rfl (by decide +kernel) ⟨Nat.le_of_ble_eq_true rfl, Nat.le_of_ble_eq_true rfl⟩) rfl hl.1 rfl (Nat.le_of_ble_eq_true rfl) dX7_init_110 ⟨Nat.le_of_ble_eq_true rfl, Nat.le_of_ble_eq_true rfl⟩ (fun _ H locs hp hG => ?_)
  refine W.widen (k := 156) (n := 3217) (by decide) (by decide) ?_
  refine gx_astq (r := (RX5, TX5, 7)) (f' := va_up (va_up (fun _ => none) 0 (some (n + 142))) 1 (some (n + 149))) S hG 5 7 (fblk_sk 6 rfl (by omega) (fu_at (by omega) (fu_at (by omega) fu_s))) rfl (fblk_sk 6 rfl (by omega) fu_s) rfl (fin_l (by decide)) dX7_init_113 (rfl) (fun H locs hG => ?_)
  refine lv_iinc (v := 2) (lv' := [(1, .int 2), (0, .ref b1)]) S.1 S.2.1 dX7_init_114 hl (k := 0) rfl (by decide) (by decide) rfl (fun ls hl => ?_)
  refine lv_goto (tgt := 96) S.1 S.2.1 dX7_init_117 (by decide) ?_
  refine lv_iload_n S.1 S.2.1 dX7_init_96 rfl (lv_at hl 0 rfl) ?_
  refine lv_iconst (v := 3) S.1 S.2.1 dX7_init_97 (by decide) ?_
  refine lv_icmp_ge (tgt := 120) S.1 S.2.1 dX7_init_98 (by decide) (fun c => absurd c (by decide)) (fun _ => ?_)
  refine lv_aload_n S.1 S.2.1 dX7_init_101 rfl (lv_at hl 1 rfl) ?_
  refine gx_get (C := RX7) (T := TX7) (N := 10) S hG (fu_at (by omega) (fblk_sk 6 rfl (by omega) (fu_at (by omega) (fu_at (by omega) (fu_at (by omega) (fblk_sk 6 rfl (by omega) (fu_at (by omega) (fu_at (by omega) fu_s)))))))) i_X7_init_X7 rfl 0 (by decide) (by decide +kernel) rfl dX7_init_102 ?_
  refine lv_iload_n S.1 S.2.1 dX7_init_105 rfl (lv_at hl 0 rfl) ?_
  refine gx_new (C := RX5) (T := TX5) (N := 7) (ci := 7) (fs := [.null, .null, .null, .null, .null, .null, .int 0]) S hG i_X7_init_X5 tyX5 tyX5_ok rfl (by decide +kernel) (by decide +kernel) (by decide +kernel) (fun j hj => by rcases (show j = 0 ∨ j = 1 ∨ j = 2 ∨ j = 3 ∨ j = 4 ∨ j = 5 ∨ j = 6 by omega) with rfl | rfl | rfl | rfl | rfl | rfl | rfl <;> rfl) (by decide) (by decide) dX7_init_106 (fun H hG => ?_)
  refine W.widen (k := 157) (n := 3224) (by decide) (by decide) ?_
  refine lv_dup S.1 S.2.1 dX7_init_109 rfl ?_
  refine fx_cIv (As := []) (rest := [.ref (n + 156), .int 2, .ref n]) S hG (k1_X5_init (by omega) (by omega) fu_s) (cwI 0 S.2.2.2.2 gX7_init_X5_init rfl rfl rfl (S.2.2.2.2 (.initialized RX5) (by decide +kernel)) (S.2.2.2.2 (.methodLink RX7 68 yX5_init) (by decide +kernel)) (S.2.2.2.2 (.instanceMethod yX5_init) (by decide +kernel)) rfl (by decide +kernel) ⟨Nat.le_of_ble_eq_true rfl, Nat.le_of_ble_eq_true rfl⟩) rfl hl.1 rfl (Nat.le_of_ble_eq_true rfl) dX7_init_110 ⟨Nat.le_of_ble_eq_true rfl, Nat.le_of_ble_eq_true rfl⟩ (fun _ H locs hp hG => ?_)
  refine W.widen (k := 163) (n := 3344) (by decide) (by decide) ?_
  refine gx_astq (r := (RX5, TX5, 7)) (f' := va_up (va_up (va_up (fun _ => none) 0 (some (n + 142))) 1 (some (n + 149))) 2 (some (n + 156))) S hG 5 7 (fblk_sk 6 rfl (by omega) (fu_at (by omega) (fu_at (by omega) fu_s))) rfl (fblk_sk 6 rfl (by omega) fu_s) rfl (fin_l (by decide)) dX7_init_113 (rfl) (fun H locs hG => ?_)
  refine lv_iinc (v := 3) (lv' := [(1, .int 3), (0, .ref b1)]) S.1 S.2.1 dX7_init_114 hl (k := 0) rfl (by decide) (by decide) rfl (fun ls hl => ?_)
  refine lv_goto (tgt := 96) S.1 S.2.1 dX7_init_117 (by decide) ?_
  refine lv_iload_n S.1 S.2.1 dX7_init_96 rfl (lv_at hl 0 rfl) ?_
  refine lv_iconst (v := 3) S.1 S.2.1 dX7_init_97 (by decide) ?_
  refine lv_icmp_ge (tgt := 120) S.1 S.2.1 dX7_init_98 (by decide) (fun _ => ?_) (fun c => absurd (by decide) c)
  exact fx_vret S hr hlocks () hG trivial dX7_init_120
theorem i_X9_init_X9 : ∀ w ∈ u_ws RX9 TX9 5, w ∈ wsX9_init := by decide +kernel
theorem k9_X9_init {n b1 : Nat} (hn : N0 + 0 ≤ n) (hb1 : N0 + 0 ≤ b1) (h0 : F b1 = some (.inr (11, [.null, .null, .null, .null, .int 0]))) : Met l yX9_init wsX9_init ({ frames := 1, cells := 4, slots := 80, locals := 12 }) (va_Pc [.ref b1] (fP N0 D vwCl (fty cI cC cL cD cII cTr cTm cIt cB) (fen ql) F n)) (fQv N0 D vwCl (fty cI cC cL cD cII cTr cTm cIt cB) (fun (_ : Unit) => True) (fun _ => (fblk (fu F b1 (.inr (11, [.ref n, .ref (n + 1), .ref (n + 2), .ref (n + 3), .int 0]))) n [.inl (cI, 20, .inl (fun _ => 0)), .inl (cI, 20, .inl (fun _ => 0)), .inl (cI, 20, .inl (fun _ => 0)), .inl (cI, 20, .inl (fun _ => 0))])) (fun _ => (n + 4))) 4 80 (fA N0) := by
  refine fx_start 1 rfl rfl (Nat.le_of_ble_eq_true rfl) ?_ rfl
  intro p e s m below meth c ls S hr hlocks hin hG hl
  have hl : lv_has ls 1 [(0, .ref b1)] := hl
  have lt_h0 := hG.1.lt h0
  refine lv_aload_n S.1 S.2.1 dX9_init_0 rfl (lv_at hl 0 rfl) ?_
  refine gx_objInit S hG (by decide +kernel) (by decide +kernel) (by decide +kernel) hl.1 dX9_init_1 (Nat.le_of_ble_eq_true rfl) (Nat.le_of_ble_eq_true rfl) ?_
  refine lv_aload_n S.1 S.2.1 dX9_init_4 rfl (lv_at hl 0 rfl) ?_
  refine lv_bipush (v := 20) S.1 S.2.1 dX9_init_5 (by decide) ?_
  refine gx_newa (atype := .int) (ty := .int) (N' := 20) (a0 := (20, .inl (fun _ => 0))) S hG (by decide +kernel) rfl 0 rfl (fun _ => rfl) (by decide) (by decide) (by decide) (by decide) (by decide) dX9_init_7 (fun H hG => ?_)
  refine W.widen (k := 1) (n := 20) (by decide) (by decide) ?_
  refine gx_putF (C := RX9) (T := TX9) (N := 5) (ty := (.array .int)) (v := .ref n) (fs' := [.ref n, .null, .null, .null, .int 0]) S hG (fu_at (by omega) h0) i_X9_init_X9 rfl 0 (by decide) tyX9 tyX9_ok nmX9 (by decide +kernel) rfl hin rfl (by decide +kernel) rfl rfl (Nat.le_of_ble_eq_true rfl) rfl dX9_init_9 (fun H locs hG => ?_)
  refine lv_aload_n S.1 S.2.1 dX9_init_12 rfl (lv_at hl 0 rfl) ?_
  refine lv_bipush (v := 20) S.1 S.2.1 dX9_init_13 (by decide) ?_
  refine gx_newa (atype := .int) (ty := .int) (N' := 20) (a0 := (20, .inl (fun _ => 0))) S hG (by decide +kernel) rfl 0 rfl (fun _ => rfl) (by decide) (by decide) (by decide) (by decide) (by decide) dX9_init_15 (fun H hG => ?_)
  refine W.widen (k := 2) (n := 40) (by decide) (by decide) ?_
  refine gx_putF (C := RX9) (T := TX9) (N := 5) (ty := (.array .int)) (v := .ref (n + 1)) (fs' := [.ref n, .ref (n + 1), .null, .null, .int 0]) S hG (fu_at (by omega) fu_s) i_X9_init_X9 rfl 1 (by decide) tyX9 tyX9_ok nmX9 (by decide +kernel) rfl hin rfl (by decide +kernel) rfl rfl (Nat.le_of_ble_eq_true rfl) rfl dX9_init_17 (fun H locs hG => ?_)
  refine lv_aload_n S.1 S.2.1 dX9_init_20 rfl (lv_at hl 0 rfl) ?_
  refine lv_bipush (v := 20) S.1 S.2.1 dX9_init_21 (by decide) ?_
  refine gx_newa (atype := .int) (ty := .int) (N' := 20) (a0 := (20, .inl (fun _ => 0))) S hG (by decide +kernel) rfl 0 rfl (fun _ => rfl) (by decide) (by decide) (by decide) (by decide) (by decide) dX9_init_23 (fun H hG => ?_)
  refine W.widen (k := 3) (n := 60) (by decide) (by decide) ?_
  refine gx_putF (C := RX9) (T := TX9) (N := 5) (ty := (.array .int)) (v := .ref (n + 2)) (fs' := [.ref n, .ref (n + 1), .ref (n + 2), .null, .int 0]) S hG (fu_at (by omega) fu_s) i_X9_init_X9 rfl 2 (by decide) tyX9 tyX9_ok nmX9 (by decide +kernel) rfl hin rfl (by decide +kernel) rfl rfl (Nat.le_of_ble_eq_true rfl) rfl dX9_init_25 (fun H locs hG => ?_)
  refine lv_aload_n S.1 S.2.1 dX9_init_28 rfl (lv_at hl 0 rfl) ?_
  refine lv_bipush (v := 20) S.1 S.2.1 dX9_init_29 (by decide) ?_
  refine gx_newa (atype := .int) (ty := .int) (N' := 20) (a0 := (20, .inl (fun _ => 0))) S hG (by decide +kernel) rfl 0 rfl (fun _ => rfl) (by decide) (by decide) (by decide) (by decide) (by decide) dX9_init_31 (fun H hG => ?_)
  refine W.widen (k := 4) (n := 80) (by decide) (by decide) ?_
  refine gx_putF (C := RX9) (T := TX9) (N := 5) (ty := (.array .int)) (v := .ref (n + 3)) (fs' := [.ref n, .ref (n + 1), .ref (n + 2), .ref (n + 3), .int 0]) S hG (fu_at (by omega) fu_s) i_X9_init_X9 rfl 3 (by decide) tyX9 tyX9_ok nmX9 (by decide +kernel) rfl hin rfl (by decide +kernel) rfl rfl (Nat.le_of_ble_eq_true rfl) rfl dX9_init_33 (fun H locs hG => ?_)
  have hG : fG N0 D vwCl (fty cI cC cL cD cII cTr cTm cIt cB) (fen ql) s (fblk (fu F b1 (.inr (11, [.ref n, .ref (n + 1), .ref (n + 2), .ref (n + 3), .int 0]))) n [.inl (cI, 20, .inl (fun _ => 0)), .inl (cI, 20, .inl (fun _ => 0)), .inl (cI, 20, .inl (fun _ => 0)), .inl (cI, 20, .inl (fun _ => 0))]) (n + 4) H locs := hG.weak (fun a e h => by
    rcases fblk_cases 4 rfl h with ⟨k, rfl, hlt, hk⟩ | ⟨hout, h⟩
    · rcases (show k = 0 ∨ k = 1 ∨ k = 2 ∨ k = 3 by omega) with rfl | rfl | rfl | rfl
      · cases (show some (.inl (cI, 20, .inl (fun _ => 0))) = some e from hk); exact (fu_at (by omega) (fu_at (by omega) (fu_at (by omega) (fu_at (by omega) (fu_at (by omega) (fu_at (by omega) (fu_at (by omega) fu_s)))))))
      · cases (show some (.inl (cI, 20, .inl (fun _ => 0))) = some e from hk); exact (fu_at (by omega) (fu_at (by omega) (fu_at (by omega) (fu_at (by omega) (fu_at (by omega) fu_s)))))
      · cases (show some (.inl (cI, 20, .inl (fun _ => 0))) = some e from hk); exact (fu_at (by omega) (fu_at (by omega) (fu_at (by omega) fu_s)))
      · cases (show some (.inl (cI, 20, .inl (fun _ => 0))) = some e from hk); exact (fu_at (by omega) fu_s)
    · rcases fu_cases h with ⟨rfl, he⟩ | ⟨hne0, h⟩
      · cases he; exact fu_s
      · exact (fu_at (by omega) (fu_at (by omega) (fu_at (by omega) (fu_at (by omega) (fu_at (by omega) (fu_at (by omega) (fu_at (by omega) (fu_at (by omega) h)))))))))
  exact fx_vret S hr hlocks () hG trivial dX9_init_36
theorem i_X9_sets_X9 : ∀ w ∈ u_ws RX9 TX9 5, w ∈ wsX9_sets := by decide +kernel
theorem k10_X9_sets {n b2 : Nat} (hn : N0 + 0 ≤ n) (hb2 : N0 + 0 ≤ b2) (h0 : F b2 = some (.inr (11, [.ref (b2 + 1), .ref (b2 + 2), .ref (b2 + 3), .ref (b2 + 4), .int 0]))) (h1 : F (b2 + 1) = some (.inl (cI, 20, .inl (fun _ => 0)))) (h2 : F (b2 + 2) = some (.inl (cI, 20, .inl (fun _ => 0)))) (h3 : F (b2 + 3) = some (.inl (cI, 20, .inl (fun _ => 0)))) (h4 : F (b2 + 4) = some (.inl (cI, 20, .inl (fun _ => 0)))) : Met l yX9_sets wsX9_sets ({ frames := 0, cells := 0, slots := 0, locals := 0 }) (va_Pc [.ref b2, .int 0, .int 97, .int 0, .int 0, .int (-1)] (fP N0 D vwCl (fty cI cC cL cD cII cTr cTm cIt cB) (fen ql) F n)) (fQv N0 D vwCl (fty cI cC cL cD cII cTr cTm cIt cB) (fun (_ : Unit) => True) (fun _ => (fu (fu (fu (fu F (b2 + 1) (.inl (cI, 20, .inl (upd (fun _ => 0) 0 97)))) (b2 + 2) (.inl (cI, 20, .inl (upd (fun _ => 0) 0 0)))) (b2 + 3) (.inl (cI, 20, .inl (upd (fun _ => 0) 0 0)))) (b2 + 4) (.inl (cI, 20, .inl (upd (fun _ => 0) 0 (-1)))))) (fun _ => n)) 0 0 (fA N0) := by
  refine fx_start 6 rfl rfl (Nat.le_of_ble_eq_true rfl) ?_ rfl
  intro p e s m below meth c ls S hr hlocks hin hG hl
  have hl : lv_has ls 6 [(0, .ref b2), (1, .int 0), (2, .int 97), (3, .int 0), (4, .int 0), (5, .int (-1))] := hl
  have lt_h0 := hG.1.lt h0
  have lt_h1 := hG.1.lt h1
  have lt_h2 := hG.1.lt h2
  have lt_h3 := hG.1.lt h3
  have lt_h4 := hG.1.lt h4
  refine lv_aload_n S.1 S.2.1 dX9_sets_0 rfl (lv_at hl 0 rfl) ?_
  refine gx_get (C := RX9) (T := TX9) (N := 5) S hG h0 i_X9_sets_X9 rfl 0 (by decide) (by decide +kernel) rfl dX9_sets_1 ?_
  refine lv_iload_n S.1 S.2.1 dX9_sets_4 rfl (lv_at hl 1 rfl) ?_
  refine lv_iload_n S.1 S.2.1 dX9_sets_5 rfl (lv_at hl 2 rfl) ?_
  refine gx_iast (f' := upd (fun _ => 0) 0 97) S hG 0 h1 rfl (fin_l (by decide)) dX9_sets_6 (rfl) (fun H locs hG => ?_)
  refine lv_aload_n S.1 S.2.1 dX9_sets_7 rfl (lv_at hl 0 rfl) ?_
  refine gx_get (C := RX9) (T := TX9) (N := 5) S hG (fu_at (by omega) h0) i_X9_sets_X9 rfl 1 (by decide) (by decide +kernel) rfl dX9_sets_8 ?_
  refine lv_iload_n S.1 S.2.1 dX9_sets_11 rfl (lv_at hl 1 rfl) ?_
  refine lv_iload_n S.1 S.2.1 dX9_sets_12 rfl (lv_at hl 3 rfl) ?_
  refine gx_iast (f' := upd (fun _ => 0) 0 0) S hG 0 (fu_at (by omega) h2) rfl (fin_l (by decide)) dX9_sets_13 (rfl) (fun H locs hG => ?_)
  refine lv_aload_n S.1 S.2.1 dX9_sets_14 rfl (lv_at hl 0 rfl) ?_
  refine gx_get (C := RX9) (T := TX9) (N := 5) S hG (fu_at (by omega) (fu_at (by omega) h0)) i_X9_sets_X9 rfl 2 (by decide) (by decide +kernel) rfl dX9_sets_15 ?_
  refine lv_iload_n S.1 S.2.1 dX9_sets_18 rfl (lv_at hl 1 rfl) ?_
  refine lv_iload S.1 S.2.1 dX9_sets_19 (lv_at hl 4 rfl) ?_
  refine gx_iast (f' := upd (fun _ => 0) 0 0) S hG 0 (fu_at (by omega) (fu_at (by omega) h3)) rfl (fin_l (by decide)) dX9_sets_21 (rfl) (fun H locs hG => ?_)
  refine lv_aload_n S.1 S.2.1 dX9_sets_22 rfl (lv_at hl 0 rfl) ?_
  refine gx_get (C := RX9) (T := TX9) (N := 5) S hG (fu_at (by omega) (fu_at (by omega) (fu_at (by omega) h0))) i_X9_sets_X9 rfl 3 (by decide) (by decide +kernel) rfl dX9_sets_23 ?_
  refine lv_iload_n S.1 S.2.1 dX9_sets_26 rfl (lv_at hl 1 rfl) ?_
  refine lv_iload S.1 S.2.1 dX9_sets_27 (lv_at hl 5 rfl) ?_
  refine gx_iast (f' := upd (fun _ => 0) 0 (-1)) S hG 0 (fu_at (by omega) (fu_at (by omega) (fu_at (by omega) h4))) rfl (fin_l (by decide)) dX9_sets_29 (rfl) (fun H locs hG => ?_)
  exact fx_vret S hr hlocks () hG trivial dX9_sets_30
theorem i_X9_adds_X9 : ∀ w ∈ u_ws RX9 TX9 5, w ∈ wsX9_adds := by decide +kernel
theorem k11_X9_adds {n b1 : Nat} (hn : N0 + 0 ≤ n) (hb1 : N0 + 0 ≤ b1) (h0 : F b1 = some (.inr (11, [.ref (b1 + 1), .ref (b1 + 2), .ref (b1 + 3), .ref (b1 + 4), .int 0]))) (h1 : F (b1 + 1) = some (.inl (cI, 20, .inl (fun _ => 0)))) (h2 : F (b1 + 2) = some (.inl (cI, 20, .inl (fun _ => 0)))) (h3 : F (b1 + 3) = some (.inl (cI, 20, .inl (fun _ => 0)))) (h4 : F (b1 + 4) = some (.inl (cI, 20, .inl (fun _ => 0)))) : Met l yX9_adds wsX9_adds ({ frames := 1, cells := 0, slots := 0, locals := 25 }) (va_Pc [.ref b1, .int 97, .int 0, .int 0, .int (-1)] (fP N0 D vwCl (fty cI cC cL cD cII cTr cTm cIt cB) (fen ql) F n)) (fQv N0 D vwCl (fty cI cC cL cD cII cTr cTm cIt cB) (fun (_ : Unit) => True) (fun _ => (fu (fu (fu (fu (fu F (b1 + 1) (.inl (cI, 20, .inl (upd (fun _ => 0) 0 97)))) (b1 + 2) (.inl (cI, 20, .inl (upd (fun _ => 0) 0 0)))) (b1 + 3) (.inl (cI, 20, .inl (upd (fun _ => 0) 0 0)))) (b1 + 4) (.inl (cI, 20, .inl (upd (fun _ => 0) 0 (-1))))) b1 (.inr (11, [.ref (b1 + 1), .ref (b1 + 2), .ref (b1 + 3), .ref (b1 + 4), .int 1])))) (fun _ => n)) 0 0 (fA N0) := by
  refine fx_start 5 rfl rfl (Nat.le_of_ble_eq_true rfl) ?_ rfl
  intro p e s m below meth c ls S hr hlocks hin hG hl
  have hl : lv_has ls 5 [(0, .ref b1), (1, .int 97), (2, .int 0), (3, .int 0), (4, .int (-1))] := hl
  have lt_h0 := hG.1.lt h0
  have lt_h1 := hG.1.lt h1
  have lt_h2 := hG.1.lt h2
  have lt_h3 := hG.1.lt h3
  have lt_h4 := hG.1.lt h4
  refine lv_aload_n S.1 S.2.1 dX9_adds_0 rfl (lv_at hl 0 rfl) ?_
  refine lv_aload_n S.1 S.2.1 dX9_adds_1 rfl (lv_at hl 0 rfl) ?_
  refine gx_get (C := RX9) (T := TX9) (N := 5) S hG h0 i_X9_adds_X9 rfl 4 (by decide) (by decide +kernel) rfl dX9_adds_2 ?_
  refine lv_iload_n S.1 S.2.1 dX9_adds_5 rfl (lv_at hl 1 rfl) ?_
  refine lv_iload_n S.1 S.2.1 dX9_adds_6 rfl (lv_at hl 2 rfl) ?_
  refine lv_iload_n S.1 S.2.1 dX9_adds_7 rfl (lv_at hl 3 rfl) ?_
  refine lv_iload S.1 S.2.1 dX9_adds_8 (lv_at hl 4 rfl) ?_
  refine fx_cVv (As := [.int 0, .int 97, .int 0, .int 0, .int (-1)]) (rest := []) S hG (k10_X9_sets (by omega) (by omega) h0 h1 h2 h3 h4) h0 rfl (cwV 5 S.2.2.2.2 gX9_adds_X9_sets rfl rfl rfl (by decide +kernel) ⟨Nat.le_of_ble_eq_true rfl, Nat.le_of_ble_eq_true rfl⟩) rfl hl.1 rfl (Nat.le_of_ble_eq_true rfl) dX9_adds_10 ⟨Nat.le_of_ble_eq_true rfl, Nat.le_of_ble_eq_true rfl⟩ (fun _ H locs hp hG => ?_)
  refine lv_aload_n S.1 S.2.1 dX9_adds_13 rfl (lv_at hl 0 rfl) ?_
  refine lv_dup S.1 S.2.1 dX9_adds_14 rfl ?_
  refine gx_get (C := RX9) (T := TX9) (N := 5) S hG (fu_at (by omega) (fu_at (by omega) (fu_at (by omega) (fu_at (by omega) h0)))) i_X9_adds_X9 rfl 4 (by decide) (by decide +kernel) rfl dX9_adds_15 ?_
  refine lv_iconst (v := 1) S.1 S.2.1 dX9_adds_18 (by decide) ?_
  refine lv_iadd S.1 S.2.1 dX9_adds_19 ?_
  refine fx_topi (y := 1) (by decide) ?_
  refine gx_put (C := RX9) (T := TX9) (N := 5) (ty := .int) (v := .int 1) (fs' := [.ref (b1 + 1), .ref (b1 + 2), .ref (b1 + 3), .ref (b1 + 4), .int 1]) S hG (fu_at (by omega) (fu_at (by omega) (fu_at (by omega) (fu_at (by omega) h0)))) i_X9_adds_X9 rfl 4 (by decide) tyX9 tyX9_ok nmX9 (by decide +kernel) rfl (by decide +kernel) rfl rfl (Nat.le_of_ble_eq_true rfl) rfl dX9_adds_20 (fun H locs hG => ?_)
  exact fx_vret S hr hlocks () hG trivial dX9_adds_23
theorem i_X10_init_X10 : ∀ w ∈ u_ws RX10 TX10 31, w ∈ wsX10_init := by decide +kernel
theorem i_X10_init_X9 : ∀ w ∈ u_ws RX9 TX9 5, w ∈ wsX10_init := by decide +kernel
set_option maxHeartbeats 16000000 in
theorem k12_X10_init {n b1 : Nat} (hn : N0 + 0 ≤ n) (hb1 : N0 + 0 ≤ b1) (h0 : F b1 = some (.inr (12, [.null, .int 0, .null, .int 0, .int 0, .int 0, .int 0, .null, .null, .null, .null, .null, .null, .null, .null, .int 0, .null, .null, .null, .null, .null, .null, .null, .int 0, .int 0, .null, .null, .int 0, .int 0, .int 0, .int 0]))) : Met l yX10_init wsX10_init ({ frames := 2, cells := 64, slots := 1593, locals := 49 }) (va_Pc [.ref b1] (fP N0 D vwCl (fty cI cC cL cD cII cTr cTm cIt cB) (fen ql) F n)) (fQv N0 D vwCl (fty cI cC cL cD cII cTr cTm cIt cB) (fun (_ : Unit) => True) (fun _ => (fu (fu (fu (fu (fu (fu (fu (fu (fu (fu (fu (fu (fu (fu (fu (fu (fu (fu (fu (fu (fu (fu (fu (fu (fu (fu (fu (fu (fu (fblk (fu (fu (fu (fblk (fu (fu (fu (fu (fu (fu (fu (fu (fu (fu (fu (fu (fu (fblk (fu (fu (fblk (fu (fu (fu (fu (fu (fu (fu (fu (fblk (fu (fu (fu (fblk (fu (fu (fu (fblk (fu (fu (fu F n (.inl (cTm, 3, .inr (.inr (.inr (.inr (fun _ => none))))))) (n + 1) (.inr (11, [.null, .null, .null, .null, .int 0]))) (n + 1) (.inr (11, [.ref (n + 2), .ref (n + 3), .ref (n + 4), .ref (n + 5), .int 0]))) (n + 2) [.inl (cI, 20, .inl (fun _ => 0)), .inl (cI, 20, .inl (fun _ => 0)), .inl (cI, 20, .inl (fun _ => 0)), .inl (cI, 20, .inl (fun _ => 0))]) n (.inl (cTm, 3, .inr (.inr (.inr (.inr (va_up (fun _ => none) 0 (some (n + 1))))))))) (n + 6) (.inr (11, [.null, .null, .null, .null, .int 0]))) (n + 6) (.inr (11, [.ref (n + 7), .ref (n + 8), .ref (n + 9), .ref (n + 10), .int 0]))) (n + 7) [.inl (cI, 20, .inl (fun _ => 0)), .inl (cI, 20, .inl (fun _ => 0)), .inl (cI, 20, .inl (fun _ => 0)), .inl (cI, 20, .inl (fun _ => 0))]) n (.inl (cTm, 3, .inr (.inr (.inr (.inr (va_up (va_up (fun _ => none) 0 (some (n + 1))) 1 (some (n + 6))))))))) (n + 11) (.inr (11, [.null, .null, .null, .null, .int 0]))) (n + 11) (.inr (11, [.ref (n + 12), .ref (n + 13), .ref (n + 14), .ref (n + 15), .int 0]))) (n + 12) [.inl (cI, 20, .inl (fun _ => 0)), .inl (cI, 20, .inl (fun _ => 0)), .inl (cI, 20, .inl (fun _ => 0)), .inl (cI, 20, .inl (fun _ => 0))]) n (.inl (cTm, 3, .inr (.inr (.inr (.inr (va_up (va_up (va_up (fun _ => none) 0 (some (n + 1))) 1 (some (n + 6))) 2 (some (n + 11))))))))) b1 (.inr (12, [.ref n, .int 0, .null, .int 0, .int 0, .int 0, .int 0, .null, .null, .null, .null, .null, .null, .null, .null, .int 0, .null, .null, .null, .null, .null, .null, .null, .int 0, .int 0, .null, .null, .int 0, .int 0, .int 0, .int 0]))) (n + 16) (.inl (cC, 80, .inl (fun _ => 0)))) b1 (.inr (12, [.ref n, .int 0, .ref (n + 16), .int 0, .int 0, .int 0, .int 0, .null, .null, .null, .null, .null, .null, .null, .null, .int 0, .null, .null, .null, .null, .null, .null, .null, .int 0, .int 0, .null, .null, .int 0, .int 0, .int 0, .int 0]))) b1 (.inr (12, [.ref n, .int 0, .ref (n + 16), .int 0, .int 0, .int 0, .int (-1), .null, .null, .null, .null, .null, .null, .null, .null, .int 0, .null, .null, .null, .null, .null, .null, .null, .int 0, .int 0, .null, .null, .int 0, .int 0, .int 0, .int 0]))) b1 (.inr (12, [.ref n, .int 0, .ref (n + 16), .int 0, .int 0, .int 0, .int (-1), .ref (ql 24), .null, .null, .null, .null, .null, .null, .null, .int 0, .null, .null, .null, .null, .null, .null, .null, .int 0, .int 0, .null, .null, .int 0, .int 0, .int 0, .int 0]))) (n + 17) (.inr (11, [.null, .null, .null, .null, .int 0]))) (n + 17) (.inr (11, [.ref (n + 18), .ref (n + 19), .ref (n + 20), .ref (n + 21), .int 0]))) (n + 18) [.inl (cI, 20, .inl (fun _ => 0)), .inl (cI, 20, .inl (fun _ => 0)), .inl (cI, 20, .inl (fun _ => 0)), .inl (cI, 20, .inl (fun _ => 0))]) b1 (.inr (12, [.ref n, .int 0, .ref (n + 16), .int 0, .int 0, .int 0, .int (-1), .ref (ql 24), .ref (n + 17), .null, .null, .null, .null, .null, .null, .int 0, .null, .null, .null, .null, .null, .null, .null, .int 0, .int 0, .null, .null, .int 0, .int 0, .int 0, .int 0]))) (n + 22) (.inl (cII, 20, .inr (.inr (.inr (.inr (fun j => if j < 20 then some ((n + 23) + j) else none))))))) (n + 23) [.inl (cI, 20, .inl (fun _ => 0)), .inl (cI, 20, .inl (fun _ => 0)), .inl (cI, 20, .inl (fun _ => 0)), .inl (cI, 20, .inl (fun _ => 0)), .inl (cI, 20, .inl (fun _ => 0)), .inl (cI, 20, .inl (fun _ => 0)), .inl (cI, 20, .inl (fun _ => 0)), .inl (cI, 20, .inl (fun _ => 0)), .inl (cI, 20, .inl (fun _ => 0)), .inl (cI, 20, .inl (fun _ => 0)), .inl (cI, 20, .inl (fun _ => 0)), .inl (cI, 20, .inl (fun _ => 0)), .inl (cI, 20, .inl (fun _ => 0)), .inl (cI, 20, .inl (fun _ => 0)), .inl (cI, 20, .inl (fun _ => 0)), .inl (cI, 20, .inl (fun _ => 0)), .inl (cI, 20, .inl (fun _ => 0)), .inl (cI, 20, .inl (fun _ => 0)), .inl (cI, 20, .inl (fun _ => 0)), .inl (cI, 20, .inl (fun _ => 0))]) b1 (.inr (12, [.ref n, .int 0, .ref (n + 16), .int 0, .int 0, .int 0, .int (-1), .ref (ql 24), .ref (n + 17), .ref (n + 22), .null, .null, .null, .null, .null, .int 0, .null, .null, .null, .null, .null, .null, .null, .int 0, .int 0, .null, .null, .int 0, .int 0, .int 0, .int 0]))) (n + 43) (.inl (cC, 80, .inl (fun _ => 0)))) b1 (.inr (12, [.ref n, .int 0, .ref (n + 16), .int 0, .int 0, .int 0, .int (-1), .ref (ql 24), .ref (n + 17), .ref (n + 22), .ref (n + 43), .null, .null, .null, .null, .int 0, .null, .null, .null, .null, .null, .null, .null, .int 0, .int 0, .null, .null, .int 0, .int 0, .int 0, .int 0]))) (n + 44) (.inl (cI, 80, .inl (fun _ => 0)))) b1 (.inr (12, [.ref n, .int 0, .ref (n + 16), .int 0, .int 0, .int 0, .int (-1), .ref (ql 24), .ref (n + 17), .ref (n + 22), .ref (n + 43), .ref (n + 44), .null, .null, .null, .int 0, .null, .null, .null, .null, .null, .null, .null, .int 0, .int 0, .null, .null, .int 0, .int 0, .int 0, .int 0]))) (n + 45) (.inl (cI, 80, .inl (fun _ => 0)))) b1 (.inr (12, [.ref n, .int 0, .ref (n + 16), .int 0, .int 0, .int 0, .int (-1), .ref (ql 24), .ref (n + 17), .ref (n + 22), .ref (n + 43), .ref (n + 44), .ref (n + 45), .null, .null, .int 0, .null, .null, .null, .null, .null, .null, .null, .int 0, .int 0, .null, .null, .int 0, .int 0, .int 0, .int 0]))) (n + 46) (.inl (cI, 20, .inl (fun _ => 0)))) b1 (.inr (12, [.ref n, .int 0, .ref (n + 16), .int 0, .int 0, .int 0, .int (-1), .ref (ql 24), .ref (n + 17), .ref (n + 22), .ref (n + 43), .ref (n + 44), .ref (n + 45), .ref (n + 46), .null, .int 0, .null, .null, .null, .null, .null, .null, .null, .int 0, .int 0, .null, .null, .int 0, .int 0, .int 0, .int 0]))) (n + 47) (.inl (cI, 20, .inl (fun _ => 0)))) b1 (.inr (12, [.ref n, .int 0, .ref (n + 16), .int 0, .int 0, .int 0, .int (-1), .ref (ql 24), .ref (n + 17), .ref (n + 22), .ref (n + 43), .ref (n + 44), .ref (n + 45), .ref (n + 46), .ref (n + 47), .int 0, .null, .null, .null, .null, .null, .null, .null, .int 0, .int 0, .null, .null, .int 0, .int 0, .int 0, .int 0]))) (n + 48) (.inr (11, [.null, .null, .null, .null, .int 0]))) (n + 48) (.inr (11, [.ref (n + 49), .ref (n + 50), .ref (n + 51), .ref (n + 52), .int 0]))) (n + 49) [.inl (cI, 20, .inl (fun _ => 0)), .inl (cI, 20, .inl (fun _ => 0)), .inl (cI, 20, .inl (fun _ => 0)), .inl (cI, 20, .inl (fun _ => 0))]) b1 (.inr (12, [.ref n, .int 0, .ref (n + 16), .int 0, .int 0, .int 0, .int (-1), .ref (ql 24), .ref (n + 17), .ref (n + 22), .ref (n + 43), .ref (n + 44), .ref (n + 45), .ref (n + 46), .ref (n + 47), .int 0, .ref (n + 48), .null, .null, .null, .null, .null, .null, .int 0, .int 0, .null, .null, .int 0, .int 0, .int 0, .int 0]))) (n + 53) (.inr (11, [.null, .null, .null, .null, .int 0]))) (n + 53) (.inr (11, [.ref (n + 54), .ref (n + 55), .ref (n + 56), .ref (n + 57), .int 0]))) (n + 54) [.inl (cI, 20, .inl (fun _ => 0)), .inl (cI, 20, .inl (fun _ => 0)), .inl (cI, 20, .inl (fun _ => 0)), .inl (cI, 20, .inl (fun _ => 0))]) b1 (.inr (12, [.ref n, .int 0, .ref (n + 16), .int 0, .int 0, .int 0, .int (-1), .ref (ql 24), .ref (n + 17), .ref (n + 22), .ref (n + 43), .ref (n + 44), .ref (n + 45), .ref (n + 46), .ref (n + 47), .int 0, .ref (n + 48), .ref (n + 53), .null, .null, .null, .null, .null, .int 0, .int 0, .null, .null, .int 0, .int 0, .int 0, .int 0]))) (n + 58) (.inl (cC, 80, .inl (fun _ => 0)))) b1 (.inr (12, [.ref n, .int 0, .ref (n + 16), .int 0, .int 0, .int 0, .int (-1), .ref (ql 24), .ref (n + 17), .ref (n + 22), .ref (n + 43), .ref (n + 44), .ref (n + 45), .ref (n + 46), .ref (n + 47), .int 0, .ref (n + 48), .ref (n + 53), .ref (n + 58), .null, .null, .null, .null, .int 0, .int 0, .null, .null, .int 0, .int 0, .int 0, .int 0]))) (n + 59) (.inl (cI, 80, .inl (fun _ => 0)))) b1 (.inr (12, [.ref n, .int 0, .ref (n + 16), .int 0, .int 0, .int 0, .int (-1), .ref (ql 24), .ref (n + 17), .ref (n + 22), .ref (n + 43), .ref (n + 44), .ref (n + 45), .ref (n + 46), .ref (n + 47), .int 0, .ref (n + 48), .ref (n + 53), .ref (n + 58), .ref (n + 59), .null, .null, .null, .int 0, .int 0, .null, .null, .int 0, .int 0, .int 0, .int 0]))) (n + 60) (.inl (cI, 80, .inl (fun _ => 0)))) b1 (.inr (12, [.ref n, .int 0, .ref (n + 16), .int 0, .int 0, .int 0, .int (-1), .ref (ql 24), .ref (n + 17), .ref (n + 22), .ref (n + 43), .ref (n + 44), .ref (n + 45), .ref (n + 46), .ref (n + 47), .int 0, .ref (n + 48), .ref (n + 53), .ref (n + 58), .ref (n + 59), .ref (n + 60), .null, .null, .int 0, .int 0, .null, .null, .int 0, .int 0, .int 0, .int 0]))) (n + 61) (.inl (cI, 20, .inl (fun _ => 0)))) b1 (.inr (12, [.ref n, .int 0, .ref (n + 16), .int 0, .int 0, .int 0, .int (-1), .ref (ql 24), .ref (n + 17), .ref (n + 22), .ref (n + 43), .ref (n + 44), .ref (n + 45), .ref (n + 46), .ref (n + 47), .int 0, .ref (n + 48), .ref (n + 53), .ref (n + 58), .ref (n + 59), .ref (n + 60), .ref (n + 61), .null, .int 0, .int 0, .null, .null, .int 0, .int 0, .int 0, .int 0]))) (n + 62) (.inl (cI, 20, .inl (fun _ => 0)))) b1 (.inr (12, [.ref n, .int 0, .ref (n + 16), .int 0, .int 0, .int 0, .int (-1), .ref (ql 24), .ref (n + 17), .ref (n + 22), .ref (n + 43), .ref (n + 44), .ref (n + 45), .ref (n + 46), .ref (n + 47), .int 0, .ref (n + 48), .ref (n + 53), .ref (n + 58), .ref (n + 59), .ref (n + 60), .ref (n + 61), .ref (n + 62), .int 0, .int 0, .null, .null, .int 0, .int 0, .int 0, .int 0]))) (n + 63) (.inl (cIt, 20, .inr (.inr (.inr (.inr (fun _ => none))))))) b1 (.inr (12, [.ref n, .int 0, .ref (n + 16), .int 0, .int 0, .int 0, .int (-1), .ref (ql 24), .ref (n + 17), .ref (n + 22), .ref (n + 43), .ref (n + 44), .ref (n + 45), .ref (n + 46), .ref (n + 47), .int 0, .ref (n + 48), .ref (n + 53), .ref (n + 58), .ref (n + 59), .ref (n + 60), .ref (n + 61), .ref (n + 62), .int 0, .int 0, .ref (n + 63), .null, .int 0, .int 0, .int 0, .int 0]))) b1 (.inr (12, [.ref n, .int 0, .ref (n + 16), .int 0, .int 0, .int 0, .int (-1), .ref (ql 24), .ref (n + 17), .ref (n + 22), .ref (n + 43), .ref (n + 44), .ref (n + 45), .ref (n + 46), .ref (n + 47), .int 0, .ref (n + 48), .ref (n + 53), .ref (n + 58), .ref (n + 59), .ref (n + 60), .ref (n + 61), .ref (n + 62), .int 0, .int 0, .ref (n + 63), .null, .int (-1), .int 0, .int 0, .int 0]))) (n + 2) (.inl (cI, 20, .inl (upd (fun _ => 0) 0 97)))) (n + 3) (.inl (cI, 20, .inl (upd (fun _ => 0) 0 0)))) (n + 4) (.inl (cI, 20, .inl (upd (fun _ => 0) 0 0)))) (n + 5) (.inl (cI, 20, .inl (upd (fun _ => 0) 0 (-1))))) (n + 1) (.inr (11, [.ref (n + 2), .ref (n + 3), .ref (n + 4), .ref (n + 5), .int 1]))) (n + 7) (.inl (cI, 20, .inl (upd (fun _ => 0) 0 97)))) (n + 8) (.inl (cI, 20, .inl (upd (fun _ => 0) 0 0)))) (n + 9) (.inl (cI, 20, .inl (upd (fun _ => 0) 0 0)))) (n + 10) (.inl (cI, 20, .inl (upd (fun _ => 0) 0 (-1))))) (n + 6) (.inr (11, [.ref (n + 7), .ref (n + 8), .ref (n + 9), .ref (n + 10), .int 1]))) (n + 12) (.inl (cI, 20, .inl (upd (fun _ => 0) 0 97)))) (n + 13) (.inl (cI, 20, .inl (upd (fun _ => 0) 0 0)))) (n + 14) (.inl (cI, 20, .inl (upd (fun _ => 0) 0 0)))) (n + 15) (.inl (cI, 20, .inl (upd (fun _ => 0) 0 (-1))))) (n + 11) (.inr (11, [.ref (n + 12), .ref (n + 13), .ref (n + 14), .ref (n + 15), .int 1])))) (fun _ => (n + 64))) 64 1593 (fA N0) := by
  refine fx_start 5 rfl rfl (Nat.le_of_ble_eq_true rfl) ?_ rfl
  intro p e s m below meth c ls S hr hlocks hin hG hl
  have hl : lv_has ls 5 [(0, .ref b1)] := hl
  have lt_h0 := hG.1.lt h0
  refine lv_aload_n S.1 S.2.1 dX10_init_0 rfl (lv_at hl 0 rfl) ?_
  refine gx_objInit S hG (by decide +kernel) (by decide +kernel) (by decide +kernel) hl.1 dX10_init_1 (Nat.le_of_ble_eq_true rfl) (Nat.le_of_ble_eq_true rfl) ?_
  refine lv_aload_n S.1 S.2.1 dX10_init_4 rfl (lv_at hl 0 rfl) ?_
  refine lv_iconst (v := 3) S.1 S.2.1 dX10_init_5 (by decide) ?_
  refine gx_newq (C := "TreeDifferModel$Tree") (N' := 3) S hG (by decide +kernel) (show _ ∈ fen2.1 from by decide) 6 rfl (by decide) (by decide) (by decide) (by decide) (by decide) dX10_init_6 (fun H hG => ?_)
  refine W.widen (k := 1) (n := 3) (by decide) (by decide) ?_
  refine lv_dup S.1 S.2.1 dX10_init_9 rfl ?_
  refine lv_iconst (v := 0) S.1 S.2.1 dX10_init_10 (by decide) ?_
  refine gx_new (C := RX9) (T := TX9) (N := 5) (ci := 11) (fs := [.null, .null, .null, .null, .int 0]) S hG i_X10_init_X9 tyX9 tyX9_ok rfl (by decide +kernel) (by decide +kernel) (by decide +kernel) (fun j hj => by rcases (show j = 0 ∨ j = 1 ∨ j = 2 ∨ j = 3 ∨ j = 4 by omega) with rfl | rfl | rfl | rfl | rfl <;> rfl) (by decide) (by decide) dX10_init_11 (fun H hG => ?_)
  refine W.widen (k := 2) (n := 8) (by decide) (by decide) ?_
  refine lv_dup S.1 S.2.1 dX10_init_14 rfl ?_
  refine fx_cINv (host := "TreeDifferModel") (As := []) (rest := [.ref (n + 1), .int 0, .ref n, .ref n, .ref b1]) S hG (k9_X9_init (by omega) (by omega) fu_s) ⟨(va_cnB 0 S.2.2.2.2 gX10_init_X9_init_n26 rfl rfl rfl (hG.nest (show _ ∈ fen2.2.2.1 from by decide)) (S.2.2.2.2 (.initialized RX9) (by decide +kernel)) (by decide +kernel) ⟨Nat.le_of_ble_eq_true rfl, Nat.le_of_ble_eq_true rfl⟩), rfl, S.2.2.2.2 (.instanceMethod yX9_init) (by decide +kernel)⟩ rfl hl.1 rfl (Nat.le_of_ble_eq_true rfl) dX10_init_15 ⟨Nat.le_of_ble_eq_true rfl, Nat.le_of_ble_eq_true rfl⟩ (fun _ H locs hp hG => ?_)
  refine W.widen (k := 6) (n := 88) (by decide) (by decide) ?_
  refine gx_astq (r := (RX9, TX9, 5)) (f' := va_up (fun _ => none) 0 (some (n + 1))) S hG 6 11 (fblk_sk 4 rfl (by omega) (fu_at (by omega) (fu_at (by omega) fu_s))) rfl (fblk_sk 4 rfl (by omega) fu_s) rfl (fin_l (by decide)) dX10_init_18 (rfl) (fun H locs hG => ?_)
  refine lv_dup S.1 S.2.1 dX10_init_19 rfl ?_
  refine lv_iconst (v := 1) S.1 S.2.1 dX10_init_20 (by decide) ?_
  refine gx_new (C := RX9) (T := TX9) (N := 5) (ci := 11) (fs := [.null, .null, .null, .null, .int 0]) S hG i_X10_init_X9 tyX9 tyX9_ok rfl (by decide +kernel) (by decide +kernel) (by decide +kernel) (fun j hj => by rcases (show j = 0 ∨ j = 1 ∨ j = 2 ∨ j = 3 ∨ j = 4 by omega) with rfl | rfl | rfl | rfl | rfl <;> rfl) (by decide) (by decide) dX10_init_21 (fun H hG => ?_)
  refine W.widen (k := 7) (n := 93) (by decide) (by decide) ?_
  refine lv_dup S.1 S.2.1 dX10_init_24 rfl ?_
  refine fx_cINv (host := "TreeDifferModel") (As := []) (rest := [.ref (n + 6), .int 1, .ref n, .ref n, .ref b1]) S hG (k9_X9_init (by omega) (by omega) fu_s) ⟨(va_cnB 0 S.2.2.2.2 gX10_init_X9_init_n26 rfl rfl rfl (hG.nest (show _ ∈ fen2.2.2.1 from by decide)) (S.2.2.2.2 (.initialized RX9) (by decide +kernel)) (by decide +kernel) ⟨Nat.le_of_ble_eq_true rfl, Nat.le_of_ble_eq_true rfl⟩), rfl, S.2.2.2.2 (.instanceMethod yX9_init) (by decide +kernel)⟩ rfl hl.1 rfl (Nat.le_of_ble_eq_true rfl) dX10_init_25 ⟨Nat.le_of_ble_eq_true rfl, Nat.le_of_ble_eq_true rfl⟩ (fun _ H locs hp hG => ?_)
  refine W.widen (k := 11) (n := 173) (by decide) (by decide) ?_
  refine gx_astq (r := (RX9, TX9, 5)) (f' := va_up (va_up (fun _ => none) 0 (some (n + 1))) 1 (some (n + 6))) S hG 6 11 (fblk_sk 4 rfl (by omega) (fu_at (by omega) (fu_at (by omega) fu_s))) rfl (fblk_sk 4 rfl (by omega) fu_s) rfl (fin_l (by decide)) dX10_init_28 (rfl) (fun H locs hG => ?_)
  refine lv_dup S.1 S.2.1 dX10_init_29 rfl ?_
  refine lv_iconst (v := 2) S.1 S.2.1 dX10_init_30 (by decide) ?_
  refine gx_new (C := RX9) (T := TX9) (N := 5) (ci := 11) (fs := [.null, .null, .null, .null, .int 0]) S hG i_X10_init_X9 tyX9 tyX9_ok rfl (by decide +kernel) (by decide +kernel) (by decide +kernel) (fun j hj => by rcases (show j = 0 ∨ j = 1 ∨ j = 2 ∨ j = 3 ∨ j = 4 by omega) with rfl | rfl | rfl | rfl | rfl <;> rfl) (by decide) (by decide) dX10_init_31 (fun H hG => ?_)
  refine W.widen (k := 12) (n := 178) (by decide) (by decide) ?_
  refine lv_dup S.1 S.2.1 dX10_init_34 rfl ?_
  refine fx_cINv (host := "TreeDifferModel") (As := []) (rest := [.ref (n + 11), .int 2, .ref n, .ref n, .ref b1]) S hG (k9_X9_init (by omega) (by omega) fu_s) ⟨(va_cnB 0 S.2.2.2.2 gX10_init_X9_init_n26 rfl rfl rfl (hG.nest (show _ ∈ fen2.2.2.1 from by decide)) (S.2.2.2.2 (.initialized RX9) (by decide +kernel)) (by decide +kernel) ⟨Nat.le_of_ble_eq_true rfl, Nat.le_of_ble_eq_true rfl⟩), rfl, S.2.2.2.2 (.instanceMethod yX9_init) (by decide +kernel)⟩ rfl hl.1 rfl (Nat.le_of_ble_eq_true rfl) dX10_init_35 ⟨Nat.le_of_ble_eq_true rfl, Nat.le_of_ble_eq_true rfl⟩ (fun _ H locs hp hG => ?_)
  refine W.widen (k := 16) (n := 258) (by decide) (by decide) ?_
  refine gx_astq (r := (RX9, TX9, 5)) (f' := va_up (va_up (va_up (fun _ => none) 0 (some (n + 1))) 1 (some (n + 6))) 2 (some (n + 11))) S hG 6 11 (fblk_sk 4 rfl (by omega) (fu_at (by omega) (fu_at (by omega) fu_s))) rfl (fblk_sk 4 rfl (by omega) fu_s) rfl (fin_l (by decide)) dX10_init_38 (rfl) (fun H locs hG => ?_)
  refine gx_putF (C := RX10) (T := TX10) (N := 31) (ty := (.array (.object "TreeDifferModel$Tree"))) (v := .ref n) (fs' := [.ref n, .int 0, .null, .int 0, .int 0, .int 0, .int 0, .null, .null, .null, .null, .null, .null, .null, .null, .int 0, .null, .null, .null, .null, .null, .null, .null, .int 0, .int 0, .null, .null, .int 0, .int 0, .int 0, .int 0]) S hG (fu_at (by omega) (fblk_sk 4 rfl (by omega) (fu_at (by omega) (fu_at (by omega) (fu_at (by omega) (fblk_sk 4 rfl (by omega) (fu_at (by omega) (fu_at (by omega) (fu_at (by omega) (fblk_sk 4 rfl (by omega) (fu_at (by omega) (fu_at (by omega) (fu_at (by omega) h0))))))))))))) i_X10_init_X10 rfl 0 (by decide) tyX10 tyX10_ok nmX10 (by decide +kernel) rfl hin rfl (by decide +kernel) rfl rfl (Nat.le_of_ble_eq_true rfl) rfl dX10_init_39 (fun H locs hG => ?_)
  refine lv_aload_n S.1 S.2.1 dX10_init_42 rfl (lv_at hl 0 rfl) ?_
  refine lv_bipush (v := 80) S.1 S.2.1 dX10_init_43 (by decide) ?_
  refine gx_newa (atype := .char) (ty := .char) (N' := 80) (a0 := (80, .inl (fun _ => 0))) S hG (by decide +kernel) rfl 1 rfl (fun _ => rfl) (by decide) (by decide) (by decide) (by decide) (by decide) dX10_init_45 (fun H hG => ?_)
  refine W.widen (k := 17) (n := 338) (by decide) (by decide) ?_
  refine gx_putF (C := RX10) (T := TX10) (N := 31) (ty := (.array .char)) (v := .ref (n + 16)) (fs' := [.ref n, .int 0, .ref (n + 16), .int 0, .int 0, .int 0, .int 0, .null, .null, .null, .null, .null, .null, .null, .null, .int 0, .null, .null, .null, .null, .null, .null, .null, .int 0, .int 0, .null, .null, .int 0, .int 0, .int 0, .int 0]) S hG (fu_at (by omega) fu_s) i_X10_init_X10 rfl 2 (by decide) tyX10 tyX10_ok nmX10 (by decide +kernel) rfl hin rfl (by decide +kernel) rfl rfl (Nat.le_of_ble_eq_true rfl) rfl dX10_init_47 (fun H locs hG => ?_)
  refine lv_aload_n S.1 S.2.1 dX10_init_50 rfl (lv_at hl 0 rfl) ?_
  refine lv_iconst (v := (-1)) S.1 S.2.1 dX10_init_51 (by decide) ?_
  refine gx_put (C := RX10) (T := TX10) (N := 31) (ty := .int) (v := .int (-1)) (fs' := [.ref n, .int 0, .ref (n + 16), .int 0, .int 0, .int 0, .int (-1), .null, .null, .null, .null, .null, .null, .null, .null, .int 0, .null, .null, .null, .null, .null, .null, .null, .int 0, .int 0, .null, .null, .int 0, .int 0, .int 0, .int 0]) S hG fu_s i_X10_init_X10 rfl 6 (by decide) tyX10 tyX10_ok nmX10 (by decide +kernel) rfl (by decide +kernel) rfl rfl (Nat.le_of_ble_eq_true rfl) rfl dX10_init_52 (fun H locs hG => ?_)
  refine lv_aload_n S.1 S.2.1 dX10_init_55 rfl (lv_at hl 0 rfl) ?_
  refine gx_ldcS (tx := "") S hG (ql 24) (List.mem_of_getElem? (i := 24) rfl) dX10_init_56 (fun hsa_4 => ?_)
  refine gx_put (C := RX10) (T := TX10) (N := 31) (ty := (.object "java/lang/String")) (v := .ref (ql 24)) (fs' := [.ref n, .int 0, .ref (n + 16), .int 0, .int 0, .int 0, .int (-1), .ref (ql 24), .null, .null, .null, .null, .null, .null, .null, .int 0, .null, .null, .null, .null, .null, .null, .null, .int 0, .int 0, .null, .null, .int 0, .int 0, .int 0, .int 0]) S hG fu_s i_X10_init_X10 rfl 7 (by decide) tyX10 tyX10_ok nmX10 (by decide +kernel) rfl (by decide +kernel) rfl rfl (Nat.le_of_ble_eq_true rfl) rfl dX10_init_58 (fun H locs hG => ?_)
  refine lv_aload_n S.1 S.2.1 dX10_init_61 rfl (lv_at hl 0 rfl) ?_
  refine gx_new (C := RX9) (T := TX9) (N := 5) (ci := 11) (fs := [.null, .null, .null, .null, .int 0]) S hG i_X10_init_X9 tyX9 tyX9_ok rfl (by decide +kernel) (by decide +kernel) (by decide +kernel) (fun j hj => by rcases (show j = 0 ∨ j = 1 ∨ j = 2 ∨ j = 3 ∨ j = 4 by omega) with rfl | rfl | rfl | rfl | rfl <;> rfl) (by decide) (by decide) dX10_init_62 (fun H hG => ?_)
  refine W.widen (k := 18) (n := 343) (by decide) (by decide) ?_
  refine lv_dup S.1 S.2.1 dX10_init_65 rfl ?_
  refine fx_cINv (host := "TreeDifferModel") (As := []) (rest := [.ref (n + 17), .ref b1]) S hG (k9_X9_init (by omega) (by omega) fu_s) ⟨(va_cnB 0 S.2.2.2.2 gX10_init_X9_init_n26 rfl rfl rfl (hG.nest (show _ ∈ fen2.2.2.1 from by decide)) (S.2.2.2.2 (.initialized RX9) (by decide +kernel)) (by decide +kernel) ⟨Nat.le_of_ble_eq_true rfl, Nat.le_of_ble_eq_true rfl⟩), rfl, S.2.2.2.2 (.instanceMethod yX9_init) (by decide +kernel)⟩ rfl hl.1 rfl (Nat.le_of_ble_eq_true rfl) dX10_init_66 ⟨Nat.le_of_ble_eq_true rfl, Nat.le_of_ble_eq_true rfl⟩ (fun _ H locs hp hG => ?_)
  refine W.widen (k := 22) (n := 423) (by decide) (by decide) ?_
  refine gx_putF (C := RX10) (T := TX10) (N := 31) (ty := (.object "TreeDifferModel$Tree")) (v := .ref (n + 17)) (fs' := [.ref n, .int 0, .ref (n + 16), .int 0, .int 0, .int 0, .int (-1), .ref (ql 24), .ref (n + 17), .null, .null, .null, .null, .null, .null, .int 0, .null, .null, .null, .null, .null, .null, .null, .int 0, .int 0, .null, .null, .int 0, .int 0, .int 0, .int 0]) S hG (fblk_sk 4 rfl (by omega) (fu_at (by omega) (fu_at (by omega) fu_s))) i_X10_init_X10 rfl 8 (by decide) tyX10 tyX10_ok nmX10 (by decide +kernel) rfl hin rfl (by decide +kernel) rfl rfl (Nat.le_of_ble_eq_true rfl) rfl dX10_init_69 (fun H locs hG => ?_)
  refine lv_aload_n S.1 S.2.1 dX10_init_72 rfl (lv_at hl 0 rfl) ?_
  refine lv_bipush (v := 20) S.1 S.2.1 dX10_init_73 (by decide) ?_
  refine lv_bipush (v := 20) S.1 S.2.1 dX10_init_75 (by decide) ?_
  refine gx_mna (N' := 20) (K' := 20) S hG (by decide +kernel) (by decide +kernel) 0 4 rfl rfl (by decide) (by decide) (by decide) (by decide) (by decide) (by decide) (by decide) (by decide) dX10_init_77 (fun H hG => ?_)
  refine W.widen (k := 43) (n := 843) (by decide) (by decide) ?_
  refine gx_putF (C := RX10) (T := TX10) (N := 31) (ty := (.array (.array .int))) (v := .ref (n + 22)) (fs' := [.ref n, .int 0, .ref (n + 16), .int 0, .int 0, .int 0, .int (-1), .ref (ql 24), .ref (n + 17), .ref (n + 22), .null, .null, .null, .null, .null, .int 0, .null, .null, .null, .null, .null, .null, .null, .int 0, .int 0, .null, .null, .int 0, .int 0, .int 0, .int 0]) S hG (fblk_sk 20 rfl (by omega) (fu_at (by omega) fu_s)) i_X10_init_X10 rfl 9 (by decide) tyX10 tyX10_ok nmX10 (by decide +kernel) rfl hin rfl (by decide +kernel) rfl rfl (Nat.le_of_ble_eq_true rfl) rfl dX10_init_81 (fun H locs hG => ?_)
  refine lv_aload_n S.1 S.2.1 dX10_init_84 rfl (lv_at hl 0 rfl) ?_
  refine lv_bipush (v := 80) S.1 S.2.1 dX10_init_85 (by decide) ?_
  refine gx_newa (atype := .char) (ty := .char) (N' := 80) (a0 := (80, .inl (fun _ => 0))) S hG (by decide +kernel) rfl 1 rfl (fun _ => rfl) (by decide) (by decide) (by decide) (by decide) (by decide) dX10_init_87 (fun H hG => ?_)
  refine W.widen (k := 44) (n := 923) (by decide) (by decide) ?_
  refine gx_putF (C := RX10) (T := TX10) (N := 31) (ty := (.array .char)) (v := .ref (n + 43)) (fs' := [.ref n, .int 0, .ref (n + 16), .int 0, .int 0, .int 0, .int (-1), .ref (ql 24), .ref (n + 17), .ref (n + 22), .ref (n + 43), .null, .null, .null, .null, .int 0, .null, .null, .null, .null, .null, .null, .null, .int 0, .int 0, .null, .null, .int 0, .int 0, .int 0, .int 0]) S hG (fu_at (by omega) fu_s) i_X10_init_X10 rfl 10 (by decide) tyX10 tyX10_ok nmX10 (by decide +kernel) rfl hin rfl (by decide +kernel) rfl rfl (Nat.le_of_ble_eq_true rfl) rfl dX10_init_89 (fun H locs hG => ?_)
  refine lv_aload_n S.1 S.2.1 dX10_init_92 rfl (lv_at hl 0 rfl) ?_
  refine lv_bipush (v := 80) S.1 S.2.1 dX10_init_93 (by decide) ?_
  refine gx_newa (atype := .int) (ty := .int) (N' := 80) (a0 := (80, .inl (fun _ => 0))) S hG (by decide +kernel) rfl 0 rfl (fun _ => rfl) (by decide) (by decide) (by decide) (by decide) (by decide) dX10_init_95 (fun H hG => ?_)
  refine W.widen (k := 45) (n := 1003) (by decide) (by decide) ?_
  refine gx_putF (C := RX10) (T := TX10) (N := 31) (ty := (.array .int)) (v := .ref (n + 44)) (fs' := [.ref n, .int 0, .ref (n + 16), .int 0, .int 0, .int 0, .int (-1), .ref (ql 24), .ref (n + 17), .ref (n + 22), .ref (n + 43), .ref (n + 44), .null, .null, .null, .int 0, .null, .null, .null, .null, .null, .null, .null, .int 0, .int 0, .null, .null, .int 0, .int 0, .int 0, .int 0]) S hG (fu_at (by omega) fu_s) i_X10_init_X10 rfl 11 (by decide) tyX10 tyX10_ok nmX10 (by decide +kernel) rfl hin rfl (by decide +kernel) rfl rfl (Nat.le_of_ble_eq_true rfl) rfl dX10_init_97 (fun H locs hG => ?_)
  refine lv_aload_n S.1 S.2.1 dX10_init_100 rfl (lv_at hl 0 rfl) ?_
  refine lv_bipush (v := 80) S.1 S.2.1 dX10_init_101 (by decide) ?_
  refine gx_newa (atype := .int) (ty := .int) (N' := 80) (a0 := (80, .inl (fun _ => 0))) S hG (by decide +kernel) rfl 0 rfl (fun _ => rfl) (by decide) (by decide) (by decide) (by decide) (by decide) dX10_init_103 (fun H hG => ?_)
  refine W.widen (k := 46) (n := 1083) (by decide) (by decide) ?_
  refine gx_putF (C := RX10) (T := TX10) (N := 31) (ty := (.array .int)) (v := .ref (n + 45)) (fs' := [.ref n, .int 0, .ref (n + 16), .int 0, .int 0, .int 0, .int (-1), .ref (ql 24), .ref (n + 17), .ref (n + 22), .ref (n + 43), .ref (n + 44), .ref (n + 45), .null, .null, .int 0, .null, .null, .null, .null, .null, .null, .null, .int 0, .int 0, .null, .null, .int 0, .int 0, .int 0, .int 0]) S hG (fu_at (by omega) fu_s) i_X10_init_X10 rfl 12 (by decide) tyX10 tyX10_ok nmX10 (by decide +kernel) rfl hin rfl (by decide +kernel) rfl rfl (Nat.le_of_ble_eq_true rfl) rfl dX10_init_105 (fun H locs hG => ?_)
  refine lv_aload_n S.1 S.2.1 dX10_init_108 rfl (lv_at hl 0 rfl) ?_
  refine lv_bipush (v := 20) S.1 S.2.1 dX10_init_109 (by decide) ?_
  refine gx_newa (atype := .int) (ty := .int) (N' := 20) (a0 := (20, .inl (fun _ => 0))) S hG (by decide +kernel) rfl 0 rfl (fun _ => rfl) (by decide) (by decide) (by decide) (by decide) (by decide) dX10_init_111 (fun H hG => ?_)
  refine W.widen (k := 47) (n := 1103) (by decide) (by decide) ?_
  refine gx_putF (C := RX10) (T := TX10) (N := 31) (ty := (.array .int)) (v := .ref (n + 46)) (fs' := [.ref n, .int 0, .ref (n + 16), .int 0, .int 0, .int 0, .int (-1), .ref (ql 24), .ref (n + 17), .ref (n + 22), .ref (n + 43), .ref (n + 44), .ref (n + 45), .ref (n + 46), .null, .int 0, .null, .null, .null, .null, .null, .null, .null, .int 0, .int 0, .null, .null, .int 0, .int 0, .int 0, .int 0]) S hG (fu_at (by omega) fu_s) i_X10_init_X10 rfl 13 (by decide) tyX10 tyX10_ok nmX10 (by decide +kernel) rfl hin rfl (by decide +kernel) rfl rfl (Nat.le_of_ble_eq_true rfl) rfl dX10_init_113 (fun H locs hG => ?_)
  refine lv_aload_n S.1 S.2.1 dX10_init_116 rfl (lv_at hl 0 rfl) ?_
  refine lv_bipush (v := 20) S.1 S.2.1 dX10_init_117 (by decide) ?_
  refine gx_newa (atype := .int) (ty := .int) (N' := 20) (a0 := (20, .inl (fun _ => 0))) S hG (by decide +kernel) rfl 0 rfl (fun _ => rfl) (by decide) (by decide) (by decide) (by decide) (by decide) dX10_init_119 (fun H hG => ?_)
  refine W.widen (k := 48) (n := 1123) (by decide) (by decide) ?_
  refine gx_putF (C := RX10) (T := TX10) (N := 31) (ty := (.array .int)) (v := .ref (n + 47)) (fs' := [.ref n, .int 0, .ref (n + 16), .int 0, .int 0, .int 0, .int (-1), .ref (ql 24), .ref (n + 17), .ref (n + 22), .ref (n + 43), .ref (n + 44), .ref (n + 45), .ref (n + 46), .ref (n + 47), .int 0, .null, .null, .null, .null, .null, .null, .null, .int 0, .int 0, .null, .null, .int 0, .int 0, .int 0, .int 0]) S hG (fu_at (by omega) fu_s) i_X10_init_X10 rfl 14 (by decide) tyX10 tyX10_ok nmX10 (by decide +kernel) rfl hin rfl (by decide +kernel) rfl rfl (Nat.le_of_ble_eq_true rfl) rfl dX10_init_121 (fun H locs hG => ?_)
  refine lv_aload_n S.1 S.2.1 dX10_init_124 rfl (lv_at hl 0 rfl) ?_
  refine gx_new (C := RX9) (T := TX9) (N := 5) (ci := 11) (fs := [.null, .null, .null, .null, .int 0]) S hG i_X10_init_X9 tyX9 tyX9_ok rfl (by decide +kernel) (by decide +kernel) (by decide +kernel) (fun j hj => by rcases (show j = 0 ∨ j = 1 ∨ j = 2 ∨ j = 3 ∨ j = 4 by omega) with rfl | rfl | rfl | rfl | rfl <;> rfl) (by decide) (by decide) dX10_init_125 (fun H hG => ?_)
  refine W.widen (k := 49) (n := 1128) (by decide) (by decide) ?_
  refine lv_dup S.1 S.2.1 dX10_init_128 rfl ?_
  refine fx_cINv (host := "TreeDifferModel") (As := []) (rest := [.ref (n + 48), .ref b1]) S hG (k9_X9_init (by omega) (by omega) fu_s) ⟨(va_cnB 0 S.2.2.2.2 gX10_init_X9_init_n26 rfl rfl rfl (hG.nest (show _ ∈ fen2.2.2.1 from by decide)) (S.2.2.2.2 (.initialized RX9) (by decide +kernel)) (by decide +kernel) ⟨Nat.le_of_ble_eq_true rfl, Nat.le_of_ble_eq_true rfl⟩), rfl, S.2.2.2.2 (.instanceMethod yX9_init) (by decide +kernel)⟩ rfl hl.1 rfl (Nat.le_of_ble_eq_true rfl) dX10_init_129 ⟨Nat.le_of_ble_eq_true rfl, Nat.le_of_ble_eq_true rfl⟩ (fun _ H locs hp hG => ?_)
  refine W.widen (k := 53) (n := 1208) (by decide) (by decide) ?_
  refine gx_putF (C := RX10) (T := TX10) (N := 31) (ty := (.object "TreeDifferModel$Tree")) (v := .ref (n + 48)) (fs' := [.ref n, .int 0, .ref (n + 16), .int 0, .int 0, .int 0, .int (-1), .ref (ql 24), .ref (n + 17), .ref (n + 22), .ref (n + 43), .ref (n + 44), .ref (n + 45), .ref (n + 46), .ref (n + 47), .int 0, .ref (n + 48), .null, .null, .null, .null, .null, .null, .int 0, .int 0, .null, .null, .int 0, .int 0, .int 0, .int 0]) S hG (fblk_sk 4 rfl (by omega) (fu_at (by omega) (fu_at (by omega) fu_s))) i_X10_init_X10 rfl 16 (by decide) tyX10 tyX10_ok nmX10 (by decide +kernel) rfl hin rfl (by decide +kernel) rfl rfl (Nat.le_of_ble_eq_true rfl) rfl dX10_init_132 (fun H locs hG => ?_)
  refine lv_aload_n S.1 S.2.1 dX10_init_135 rfl (lv_at hl 0 rfl) ?_
  refine gx_new (C := RX9) (T := TX9) (N := 5) (ci := 11) (fs := [.null, .null, .null, .null, .int 0]) S hG i_X10_init_X9 tyX9 tyX9_ok rfl (by decide +kernel) (by decide +kernel) (by decide +kernel) (fun j hj => by rcases (show j = 0 ∨ j = 1 ∨ j = 2 ∨ j = 3 ∨ j = 4 by omega) with rfl | rfl | rfl | rfl | rfl <;> rfl) (by decide) (by decide) dX10_init_136 (fun H hG => ?_)
  refine W.widen (k := 54) (n := 1213) (by decide) (by decide) ?_
  refine lv_dup S.1 S.2.1 dX10_init_139 rfl ?_
  refine fx_cINv (host := "TreeDifferModel") (As := []) (rest := [.ref (n + 53), .ref b1]) S hG (k9_X9_init (by omega) (by omega) fu_s) ⟨(va_cnB 0 S.2.2.2.2 gX10_init_X9_init_n26 rfl rfl rfl (hG.nest (show _ ∈ fen2.2.2.1 from by decide)) (S.2.2.2.2 (.initialized RX9) (by decide +kernel)) (by decide +kernel) ⟨Nat.le_of_ble_eq_true rfl, Nat.le_of_ble_eq_true rfl⟩), rfl, S.2.2.2.2 (.instanceMethod yX9_init) (by decide +kernel)⟩ rfl hl.1 rfl (Nat.le_of_ble_eq_true rfl) dX10_init_140 ⟨Nat.le_of_ble_eq_true rfl, Nat.le_of_ble_eq_true rfl⟩ (fun _ H locs hp hG => ?_)
  refine W.widen (k := 58) (n := 1293) (by decide) (by decide) ?_
  refine gx_putF (C := RX10) (T := TX10) (N := 31) (ty := (.object "TreeDifferModel$Tree")) (v := .ref (n + 53)) (fs' := [.ref n, .int 0, .ref (n + 16), .int 0, .int 0, .int 0, .int (-1), .ref (ql 24), .ref (n + 17), .ref (n + 22), .ref (n + 43), .ref (n + 44), .ref (n + 45), .ref (n + 46), .ref (n + 47), .int 0, .ref (n + 48), .ref (n + 53), .null, .null, .null, .null, .null, .int 0, .int 0, .null, .null, .int 0, .int 0, .int 0, .int 0]) S hG (fblk_sk 4 rfl (by omega) (fu_at (by omega) (fu_at (by omega) fu_s))) i_X10_init_X10 rfl 17 (by decide) tyX10 tyX10_ok nmX10 (by decide +kernel) rfl hin rfl (by decide +kernel) rfl rfl (Nat.le_of_ble_eq_true rfl) rfl dX10_init_143 (fun H locs hG => ?_)
  refine lv_aload_n S.1 S.2.1 dX10_init_146 rfl (lv_at hl 0 rfl) ?_
  refine lv_bipush (v := 80) S.1 S.2.1 dX10_init_147 (by decide) ?_
  refine gx_newa (atype := .char) (ty := .char) (N' := 80) (a0 := (80, .inl (fun _ => 0))) S hG (by decide +kernel) rfl 1 rfl (fun _ => rfl) (by decide) (by decide) (by decide) (by decide) (by decide) dX10_init_149 (fun H hG => ?_)
  refine W.widen (k := 59) (n := 1373) (by decide) (by decide) ?_
  refine gx_putF (C := RX10) (T := TX10) (N := 31) (ty := (.array .char)) (v := .ref (n + 58)) (fs' := [.ref n, .int 0, .ref (n + 16), .int 0, .int 0, .int 0, .int (-1), .ref (ql 24), .ref (n + 17), .ref (n + 22), .ref (n + 43), .ref (n + 44), .ref (n + 45), .ref (n + 46), .ref (n + 47), .int 0, .ref (n + 48), .ref (n + 53), .ref (n + 58), .null, .null, .null, .null, .int 0, .int 0, .null, .null, .int 0, .int 0, .int 0, .int 0]) S hG (fu_at (by omega) fu_s) i_X10_init_X10 rfl 18 (by decide) tyX10 tyX10_ok nmX10 (by decide +kernel) rfl hin rfl (by decide +kernel) rfl rfl (Nat.le_of_ble_eq_true rfl) rfl dX10_init_151 (fun H locs hG => ?_)
  refine lv_aload_n S.1 S.2.1 dX10_init_154 rfl (lv_at hl 0 rfl) ?_
  refine lv_bipush (v := 80) S.1 S.2.1 dX10_init_155 (by decide) ?_
  refine gx_newa (atype := .int) (ty := .int) (N' := 80) (a0 := (80, .inl (fun _ => 0))) S hG (by decide +kernel) rfl 0 rfl (fun _ => rfl) (by decide) (by decide) (by decide) (by decide) (by decide) dX10_init_157 (fun H hG => ?_)
  refine W.widen (k := 60) (n := 1453) (by decide) (by decide) ?_
  refine gx_putF (C := RX10) (T := TX10) (N := 31) (ty := (.array .int)) (v := .ref (n + 59)) (fs' := [.ref n, .int 0, .ref (n + 16), .int 0, .int 0, .int 0, .int (-1), .ref (ql 24), .ref (n + 17), .ref (n + 22), .ref (n + 43), .ref (n + 44), .ref (n + 45), .ref (n + 46), .ref (n + 47), .int 0, .ref (n + 48), .ref (n + 53), .ref (n + 58), .ref (n + 59), .null, .null, .null, .int 0, .int 0, .null, .null, .int 0, .int 0, .int 0, .int 0]) S hG (fu_at (by omega) fu_s) i_X10_init_X10 rfl 19 (by decide) tyX10 tyX10_ok nmX10 (by decide +kernel) rfl hin rfl (by decide +kernel) rfl rfl (Nat.le_of_ble_eq_true rfl) rfl dX10_init_159 (fun H locs hG => ?_)
  refine lv_aload_n S.1 S.2.1 dX10_init_162 rfl (lv_at hl 0 rfl) ?_
  refine lv_bipush (v := 80) S.1 S.2.1 dX10_init_163 (by decide) ?_
  refine gx_newa (atype := .int) (ty := .int) (N' := 80) (a0 := (80, .inl (fun _ => 0))) S hG (by decide +kernel) rfl 0 rfl (fun _ => rfl) (by decide) (by decide) (by decide) (by decide) (by decide) dX10_init_165 (fun H hG => ?_)
  refine W.widen (k := 61) (n := 1533) (by decide) (by decide) ?_
  refine gx_putF (C := RX10) (T := TX10) (N := 31) (ty := (.array .int)) (v := .ref (n + 60)) (fs' := [.ref n, .int 0, .ref (n + 16), .int 0, .int 0, .int 0, .int (-1), .ref (ql 24), .ref (n + 17), .ref (n + 22), .ref (n + 43), .ref (n + 44), .ref (n + 45), .ref (n + 46), .ref (n + 47), .int 0, .ref (n + 48), .ref (n + 53), .ref (n + 58), .ref (n + 59), .ref (n + 60), .null, .null, .int 0, .int 0, .null, .null, .int 0, .int 0, .int 0, .int 0]) S hG (fu_at (by omega) fu_s) i_X10_init_X10 rfl 20 (by decide) tyX10 tyX10_ok nmX10 (by decide +kernel) rfl hin rfl (by decide +kernel) rfl rfl (Nat.le_of_ble_eq_true rfl) rfl dX10_init_167 (fun H locs hG => ?_)
  refine lv_aload_n S.1 S.2.1 dX10_init_170 rfl (lv_at hl 0 rfl) ?_
  refine lv_bipush (v := 20) S.1 S.2.1 dX10_init_171 (by decide) ?_
  refine gx_newa (atype := .int) (ty := .int) (N' := 20) (a0 := (20, .inl (fun _ => 0))) S hG (by decide +kernel) rfl 0 rfl (fun _ => rfl) (by decide) (by decide) (by decide) (by decide) (by decide) dX10_init_173 (fun H hG => ?_)
  refine W.widen (k := 62) (n := 1553) (by decide) (by decide) ?_
  refine gx_putF (C := RX10) (T := TX10) (N := 31) (ty := (.array .int)) (v := .ref (n + 61)) (fs' := [.ref n, .int 0, .ref (n + 16), .int 0, .int 0, .int 0, .int (-1), .ref (ql 24), .ref (n + 17), .ref (n + 22), .ref (n + 43), .ref (n + 44), .ref (n + 45), .ref (n + 46), .ref (n + 47), .int 0, .ref (n + 48), .ref (n + 53), .ref (n + 58), .ref (n + 59), .ref (n + 60), .ref (n + 61), .null, .int 0, .int 0, .null, .null, .int 0, .int 0, .int 0, .int 0]) S hG (fu_at (by omega) fu_s) i_X10_init_X10 rfl 21 (by decide) tyX10 tyX10_ok nmX10 (by decide +kernel) rfl hin rfl (by decide +kernel) rfl rfl (Nat.le_of_ble_eq_true rfl) rfl dX10_init_175 (fun H locs hG => ?_)
  refine lv_aload_n S.1 S.2.1 dX10_init_178 rfl (lv_at hl 0 rfl) ?_
  refine lv_bipush (v := 20) S.1 S.2.1 dX10_init_179 (by decide) ?_
  refine gx_newa (atype := .int) (ty := .int) (N' := 20) (a0 := (20, .inl (fun _ => 0))) S hG (by decide +kernel) rfl 0 rfl (fun _ => rfl) (by decide) (by decide) (by decide) (by decide) (by decide) dX10_init_181 (fun H hG => ?_)
  refine W.widen (k := 63) (n := 1573) (by decide) (by decide) ?_
  refine gx_putF (C := RX10) (T := TX10) (N := 31) (ty := (.array .int)) (v := .ref (n + 62)) (fs' := [.ref n, .int 0, .ref (n + 16), .int 0, .int 0, .int 0, .int (-1), .ref (ql 24), .ref (n + 17), .ref (n + 22), .ref (n + 43), .ref (n + 44), .ref (n + 45), .ref (n + 46), .ref (n + 47), .int 0, .ref (n + 48), .ref (n + 53), .ref (n + 58), .ref (n + 59), .ref (n + 60), .ref (n + 61), .ref (n + 62), .int 0, .int 0, .null, .null, .int 0, .int 0, .int 0, .int 0]) S hG (fu_at (by omega) fu_s) i_X10_init_X10 rfl 22 (by decide) tyX10 tyX10_ok nmX10 (by decide +kernel) rfl hin rfl (by decide +kernel) rfl rfl (Nat.le_of_ble_eq_true rfl) rfl dX10_init_183 (fun H locs hG => ?_)
  refine lv_aload_n S.1 S.2.1 dX10_init_186 rfl (lv_at hl 0 rfl) ?_
  refine lv_bipush (v := 20) S.1 S.2.1 dX10_init_187 (by decide) ?_
  refine gx_newq (C := "TreeDifferModel$Item") (N' := 20) S hG (by decide +kernel) (show _ ∈ fen2.1 from by decide) 7 rfl (by decide) (by decide) (by decide) (by decide) (by decide) dX10_init_189 (fun H hG => ?_)
  refine W.widen (k := 64) (n := 1593) (by decide) (by decide) ?_
  refine gx_putF (C := RX10) (T := TX10) (N := 31) (ty := (.array (.object "TreeDifferModel$Item"))) (v := .ref (n + 63)) (fs' := [.ref n, .int 0, .ref (n + 16), .int 0, .int 0, .int 0, .int (-1), .ref (ql 24), .ref (n + 17), .ref (n + 22), .ref (n + 43), .ref (n + 44), .ref (n + 45), .ref (n + 46), .ref (n + 47), .int 0, .ref (n + 48), .ref (n + 53), .ref (n + 58), .ref (n + 59), .ref (n + 60), .ref (n + 61), .ref (n + 62), .int 0, .int 0, .ref (n + 63), .null, .int 0, .int 0, .int 0, .int 0]) S hG (fu_at (by omega) fu_s) i_X10_init_X10 rfl 25 (by decide) tyX10 tyX10_ok nmX10 (by decide +kernel) rfl hin rfl (by decide +kernel) rfl rfl (Nat.le_of_ble_eq_true rfl) rfl dX10_init_192 (fun H locs hG => ?_)
  refine lv_aload_n S.1 S.2.1 dX10_init_195 rfl (lv_at hl 0 rfl) ?_
  refine lv_iconst (v := (-1)) S.1 S.2.1 dX10_init_196 (by decide) ?_
  refine gx_put (C := RX10) (T := TX10) (N := 31) (ty := .int) (v := .int (-1)) (fs' := [.ref n, .int 0, .ref (n + 16), .int 0, .int 0, .int 0, .int (-1), .ref (ql 24), .ref (n + 17), .ref (n + 22), .ref (n + 43), .ref (n + 44), .ref (n + 45), .ref (n + 46), .ref (n + 47), .int 0, .ref (n + 48), .ref (n + 53), .ref (n + 58), .ref (n + 59), .ref (n + 60), .ref (n + 61), .ref (n + 62), .int 0, .int 0, .ref (n + 63), .null, .int (-1), .int 0, .int 0, .int 0]) S hG fu_s i_X10_init_X10 rfl 27 (by decide) tyX10 tyX10_ok nmX10 (by decide +kernel) rfl (by decide +kernel) rfl rfl (Nat.le_of_ble_eq_true rfl) rfl dX10_init_197 (fun H locs hG => ?_)
  refine lv_aload_n S.1 S.2.1 dX10_init_200 rfl (lv_at hl 0 rfl) ?_
  refine gx_get (C := RX10) (T := TX10) (N := 31) S hG fu_s i_X10_init_X10 rfl 0 (by decide) (by decide +kernel) rfl dX10_init_201 ?_
  refine lv_astore_n (lv' := [(1, .ref n), (0, .ref b1)]) S.1 S.2.1 dX10_init_204 rfl hl (by decide) rfl (fun ls hl => ?_)
  refine lv_aload_n S.1 S.2.1 dX10_init_205 rfl (lv_at hl 0 rfl) ?_
  refine gx_alen (v := 3) S hG 6 (fu_at (by omega) (fu_at (by omega) (fu_at (by omega) (fu_at (by omega) (fu_at (by omega) (fu_at (by omega) (fu_at (by omega) (fu_at (by omega) (fu_at (by omega) (fu_at (by omega) (fu_at (by omega) (fu_at (by omega) (fu_at (by omega) (fu_at (by omega) (fblk_sk 4 rfl (by omega) (fu_at (by omega) (fu_at (by omega) (fu_at (by omega) (fblk_sk 4 rfl (by omega) (fu_at (by omega) (fu_at (by omega) (fu_at (by omega) (fu_at (by omega) (fu_at (by omega) (fu_at (by omega) (fu_at (by omega) (fu_at (by omega) (fu_at (by omega) (fu_at (by omega) (fu_at (by omega) (fu_at (by omega) (fu_at (by omega) (fblk_sk 20 rfl (by omega) (fu_at (by omega) (fu_at (by omega) (fblk_sk 4 rfl (by omega) (fu_at (by omega) (fu_at (by omega) (fu_at (by omega) (fu_at (by omega) (fu_at (by omega) (fu_at (by omega) (fu_at (by omega) fu_s))))))))))))))))))))))))))))))))))))))))))) rfl (rfl) dX10_init_206 ?_
  refine lv_istore_n (lv' := [(2, .int 3), (1, .ref n), (0, .ref b1)]) S.1 S.2.1 dX10_init_207 rfl hl (by decide) rfl (fun ls hl => ?_)
  refine lv_iconst (v := 0) S.1 S.2.1 dX10_init_208 (by decide) ?_
  refine lv_istore_n (lv' := [(3, .int 0), (2, .int 3), (1, .ref n), (0, .ref b1)]) S.1 S.2.1 dX10_init_209 rfl hl (by decide) rfl (fun ls hl => ?_)
  refine lv_iload_n S.1 S.2.1 dX10_init_210 rfl (lv_at hl 0 rfl) ?_
  refine lv_iload_n S.1 S.2.1 dX10_init_211 rfl (lv_at hl 1 rfl) ?_
  refine lv_icmp_ge (tgt := 236) S.1 S.2.1 dX10_init_212 (by decide) (fun c => absurd c (by decide)) (fun _ => ?_)
  refine lv_aload_n S.1 S.2.1 dX10_init_215 rfl (lv_at hl 2 rfl) ?_
  refine lv_iload_n S.1 S.2.1 dX10_init_216 rfl (lv_at hl 0 rfl) ?_
  refine gx_aldq (x := (n + 1)) S hG 6 rfl (fu_at (by omega) (fu_at (by omega) (fu_at (by omega) (fu_at (by omega) (fu_at (by omega) (fu_at (by omega) (fu_at (by omega) (fu_at (by omega) (fu_at (by omega) (fu_at (by omega) (fu_at (by omega) (fu_at (by omega) (fu_at (by omega) (fu_at (by omega) (fblk_sk 4 rfl (by omega) (fu_at (by omega) (fu_at (by omega) (fu_at (by omega) (fblk_sk 4 rfl (by omega) (fu_at (by omega) (fu_at (by omega) (fu_at (by omega) (fu_at (by omega) (fu_at (by omega) (fu_at (by omega) (fu_at (by omega) (fu_at (by omega) (fu_at (by omega) (fu_at (by omega) (fu_at (by omega) (fu_at (by omega) (fu_at (by omega) (fblk_sk 20 rfl (by omega) (fu_at (by omega) (fu_at (by omega) (fblk_sk 4 rfl (by omega) (fu_at (by omega) (fu_at (by omega) (fu_at (by omega) (fu_at (by omega) (fu_at (by omega) (fu_at (by omega) (fu_at (by omega) fu_s))))))))))))))))))))))))))))))))))))))))))) rfl (fin_l (by decide)) (rfl) dX10_init_217 ?_
  refine lv_astore (lv' := [(4, .ref (n + 1)), (3, .int 0), (2, .int 3), (1, .ref n), (0, .ref b1)]) S.1 S.2.1 dX10_init_218 hl (by decide) rfl (fun ls hl => ?_)
  refine lv_aload S.1 S.2.1 dX10_init_220 (lv_at hl 0 rfl) ?_
  refine lv_bipush (v := 97) S.1 S.2.1 dX10_init_222 (by decide) ?_
  refine lv_iconst (v := 0) S.1 S.2.1 dX10_init_224 (by decide) ?_
  refine lv_iconst (v := 0) S.1 S.2.1 dX10_init_225 (by decide) ?_
  refine lv_iconst (v := (-1)) S.1 S.2.1 dX10_init_226 (by decide) ?_
  refine fx_cVNv (host := "TreeDifferModel") (As := [.int 97, .int 0, .int 0, .int (-1)]) (rest := []) S hG (k11_X9_adds (by omega) (by omega) (fu_at (by omega) (fu_at (by omega) (fu_at (by omega) (fu_at (by omega) (fu_at (by omega) (fu_at (by omega) (fu_at (by omega) (fu_at (by omega) (fu_at (by omega) (fu_at (by omega) (fu_at (by omega) (fu_at (by omega) (fu_at (by omega) (fu_at (by omega) (fblk_sk 4 rfl (by omega) (fu_at (by omega) (fu_at (by omega) (fu_at (by omega) (fblk_sk 4 rfl (by omega) (fu_at (by omega) (fu_at (by omega) (fu_at (by omega) (fu_at (by omega) (fu_at (by omega) (fu_at (by omega) (fu_at (by omega) (fu_at (by omega) (fu_at (by omega) (fu_at (by omega) (fu_at (by omega) (fu_at (by omega) (fu_at (by omega) (fblk_sk 20 rfl (by omega) (fu_at (by omega) (fu_at (by omega) (fblk_sk 4 rfl (by omega) (fu_at (by omega) (fu_at (by omega) (fu_at (by omega) (fu_at (by omega) (fu_at (by omega) (fu_at (by omega) (fu_at (by omega) (fu_at (by omega) (fblk_sk 4 rfl (by omega) (fu_at (by omega) (fu_at (by omega) (fu_at (by omega) (fblk_sk 4 rfl (by omega) (fu_at (by omega) (fu_at (by omega) (fu_at (by omega) (fblk_sk 4 rfl (by omega) fu_s))))))))))))))))))))))))))))))))))))))))))))))))))))) (fu_at (by omega) (fu_at (by omega) (fu_at (by omega) (fu_at (by omega) (fu_at (by omega) (fu_at (by omega) (fu_at (by omega) (fu_at (by omega) (fu_at (by omega) (fu_at (by omega) (fu_at (by omega) (fu_at (by omega) (fu_at (by omega) (fu_at (by omega) (fblk_sk 4 rfl (by omega) (fu_at (by omega) (fu_at (by omega) (fu_at (by omega) (fblk_sk 4 rfl (by omega) (fu_at (by omega) (fu_at (by omega) (fu_at (by omega) (fu_at (by omega) (fu_at (by omega) (fu_at (by omega) (fu_at (by omega) (fu_at (by omega) (fu_at (by omega) (fu_at (by omega) (fu_at (by omega) (fu_at (by omega) (fu_at (by omega) (fblk_sk 20 rfl (by omega) (fu_at (by omega) (fu_at (by omega) (fblk_sk 4 rfl (by omega) (fu_at (by omega) (fu_at (by omega) (fu_at (by omega) (fu_at (by omega) (fu_at (by omega) (fu_at (by omega) (fu_at (by omega) (fu_at (by omega) (fblk_sk 4 rfl (by omega) (fu_at (by omega) (fu_at (by omega) (fu_at (by omega) (fblk_sk 4 rfl (by omega) (fu_at (by omega) (fu_at (by omega) (fu_at (by omega) (fblk_at 0 (by omega) rfl))))))))))))))))))))))))))))))))))))))))))))))))))))) (fu_at (by omega) (fu_at (by omega) (fu_at (by omega) (fu_at (by omega) (fu_at (by omega) (fu_at (by omega) (fu_at (by omega) (fu_at (by omega) (fu_at (by omega) (fu_at (by omega) (fu_at (by omega) (fu_at (by omega) (fu_at (by omega) (fu_at (by omega) (fblk_sk 4 rfl (by omega) (fu_at (by omega) (fu_at (by omega) (fu_at (by omega) (fblk_sk 4 rfl (by omega) (fu_at (by omega) (fu_at (by omega) (fu_at (by omega) (fu_at (by omega) (fu_at (by omega) (fu_at (by omega) (fu_at (by omega) (fu_at (by omega) (fu_at (by omega) (fu_at (by omega) (fu_at (by omega) (fu_at (by omega) (fu_at (by omega) (fblk_sk 20 rfl (by omega) (fu_at (by omega) (fu_at (by omega) (fblk_sk 4 rfl (by omega) (fu_at (by omega) (fu_at (by omega) (fu_at (by omega) (fu_at (by omega) (fu_at (by omega) (fu_at (by omega) (fu_at (by omega) (fu_at (by omega) (fblk_sk 4 rfl (by omega) (fu_at (by omega) (fu_at (by omega) (fu_at (by omega) (fblk_sk 4 rfl (by omega) (fu_at (by omega) (fu_at (by omega) (fu_at (by omega) (fblk_at 1 (by omega) rfl))))))))))))))))))))))))))))))))))))))))))))))))))))) (fu_at (by omega) (fu_at (by omega) (fu_at (by omega) (fu_at (by omega) (fu_at (by omega) (fu_at (by omega) (fu_at (by omega) (fu_at (by omega) (fu_at (by omega) (fu_at (by omega) (fu_at (by omega) (fu_at (by omega) (fu_at (by omega) (fu_at (by omega) (fblk_sk 4 rfl (by omega) (fu_at (by omega) (fu_at (by omega) (fu_at (by omega) (fblk_sk 4 rfl (by omega) (fu_at (by omega) (fu_at (by omega) (fu_at (by omega) (fu_at (by omega) (fu_at (by omega) (fu_at (by omega) (fu_at (by omega) (fu_at (by omega) (fu_at (by omega) (fu_at (by omega) (fu_at (by omega) (fu_at (by omega) (fu_at (by omega) (fblk_sk 20 rfl (by omega) (fu_at (by omega) (fu_at (by omega) (fblk_sk 4 rfl (by omega) (fu_at (by omega) (fu_at (by omega) (fu_at (by omega) (fu_at (by omega) (fu_at (by omega) (fu_at (by omega) (fu_at (by omega) (fu_at (by omega) (fblk_sk 4 rfl (by omega) (fu_at (by omega) (fu_at (by omega) (fu_at (by omega) (fblk_sk 4 rfl (by omega) (fu_at (by omega) (fu_at (by omega) (fu_at (by omega) (fblk_at 2 (by omega) rfl))))))))))))))))))))))))))))))))))))))))))))))))))))) (fu_at (by omega) (fu_at (by omega) (fu_at (by omega) (fu_at (by omega) (fu_at (by omega) (fu_at (by omega) (fu_at (by omega) (fu_at (by omega) (fu_at (by omega) (fu_at (by omega) (fu_at (by omega) (fu_at (by omega) (fu_at (by omega) (fu_at (by omega) (fblk_sk 4 rfl (by omega) (fu_at (by omega) (fu_at (by omega) (fu_at (by omega) (fblk_sk 4 rfl (by omega) (fu_at (by omega) (fu_at (by omega) (fu_at (by omega) (fu_at (by omega) (fu_at (by omega) (fu_at (by omega) (fu_at (by omega) (fu_at (by omega) (fu_at (by omega) (fu_at (by omega) (fu_at (by omega) (fu_at (by omega) (fu_at (by omega) (fblk_sk 20 rfl (by omega) (fu_at (by omega) (fu_at (by omega) (fblk_sk 4 rfl (by omega) (fu_at (by omega) (fu_at (by omega) (fu_at (by omega) (fu_at (by omega) (fu_at (by omega) (fu_at (by omega) (fu_at (by omega) (fu_at (by omega) (fblk_sk 4 rfl (by omega) (fu_at (by omega) (fu_at (by omega) (fu_at (by omega) (fblk_sk 4 rfl (by omega) (fu_at (by omega) (fu_at (by omega) (fu_at (by omega) (fblk_at 3 (by omega) rfl)))))))))))))))))))))))))))))))))))))))))))))))))))))) (fu_at (by omega) (fu_at (by omega) (fu_at (by omega) (fu_at (by omega) (fu_at (by omega) (fu_at (by omega) (fu_at (by omega) (fu_at (by omega) (fu_at (by omega) (fu_at (by omega) (fu_at (by omega) (fu_at (by omega) (fu_at (by omega) (fu_at (by omega) (fblk_sk 4 rfl (by omega) (fu_at (by omega) (fu_at (by omega) (fu_at (by omega) (fblk_sk 4 rfl (by omega) (fu_at (by omega) (fu_at (by omega) (fu_at (by omega) (fu_at (by omega) (fu_at (by omega) (fu_at (by omega) (fu_at (by omega) (fu_at (by omega) (fu_at (by omega) (fu_at (by omega) (fu_at (by omega) (fu_at (by omega) (fu_at (by omega) (fblk_sk 20 rfl (by omega) (fu_at (by omega) (fu_at (by omega) (fblk_sk 4 rfl (by omega) (fu_at (by omega) (fu_at (by omega) (fu_at (by omega) (fu_at (by omega) (fu_at (by omega) (fu_at (by omega) (fu_at (by omega) (fu_at (by omega) (fblk_sk 4 rfl (by omega) (fu_at (by omega) (fu_at (by omega) (fu_at (by omega) (fblk_sk 4 rfl (by omega) (fu_at (by omega) (fu_at (by omega) (fu_at (by omega) (fblk_sk 4 rfl (by omega) fu_s))))))))))))))))))))))))))))))))))))))))))))))))))))) rfl ⟨(va_cnB 4 S.2.2.2.2 gX10_init_X9_adds_n101 rfl rfl rfl (hG.nest (show _ ∈ fen2.2.2.1 from by decide)) (S.2.2.2.2 (.initialized RX9) (by decide +kernel)) (by decide +kernel) ⟨Nat.le_of_ble_eq_true rfl, Nat.le_of_ble_eq_true rfl⟩), S.2.2.2.2 (.instanceMethod yX9_adds) (by decide +kernel), S.2.2.2.2 (.selects RX9 yX9_adds yX9_adds) (by decide +kernel)⟩ rfl hl.1 rfl (Nat.le_of_ble_eq_true rfl) dX10_init_227 ⟨Nat.le_of_ble_eq_true rfl, Nat.le_of_ble_eq_true rfl⟩ (fun _ H locs hp hG => ?_)
  refine lv_iinc (v := 1) (lv' := [(3, .int 1), (4, .ref (n + 1)), (2, .int 3), (1, .ref n), (0, .ref b1)]) S.1 S.2.1 dX10_init_230 hl (k := 1) rfl (by decide) (by decide) rfl (fun ls hl => ?_)
  refine lv_goto (tgt := 210) S.1 S.2.1 dX10_init_233 (by decide) ?_
  refine lv_iload_n S.1 S.2.1 dX10_init_210 rfl (lv_at hl 0 rfl) ?_
  refine lv_iload_n S.1 S.2.1 dX10_init_211 rfl (lv_at hl 2 rfl) ?_
  refine lv_icmp_ge (tgt := 236) S.1 S.2.1 dX10_init_212 (by decide) (fun c => absurd c (by decide)) (fun _ => ?_)
  refine lv_aload_n S.1 S.2.1 dX10_init_215 rfl (lv_at hl 3 rfl) ?_
  refine lv_iload_n S.1 S.2.1 dX10_init_216 rfl (lv_at hl 0 rfl) ?_
  refine gx_aldq (x := (n + 6)) S hG 6 rfl (fu_at (by omega) (fu_at (by omega) (fu_at (by omega) (fu_at (by omega) (fu_at (by omega) (fu_at (by omega) (fu_at (by omega) (fu_at (by omega) (fu_at (by omega) (fu_at (by omega) (fu_at (by omega) (fu_at (by omega) (fu_at (by omega) (fu_at (by omega) (fu_at (by omega) (fu_at (by omega) (fu_at (by omega) (fu_at (by omega) (fu_at (by omega) (fblk_sk 4 rfl (by omega) (fu_at (by omega) (fu_at (by omega) (fu_at (by omega) (fblk_sk 4 rfl (by omega) (fu_at (by omega) (fu_at (by omega) (fu_at (by omega) (fu_at (by omega) (fu_at (by omega) (fu_at (by omega) (fu_at (by omega) (fu_at (by omega) (fu_at (by omega) (fu_at (by omega) (fu_at (by omega) (fu_at (by omega) (fu_at (by omega) (fblk_sk 20 rfl (by omega) (fu_at (by omega) (fu_at (by omega) (fblk_sk 4 rfl (by omega) (fu_at (by omega) (fu_at (by omega) (fu_at (by omega) (fu_at (by omega) (fu_at (by omega) (fu_at (by omega) (fu_at (by omega) fu_s)))))))))))))))))))))))))))))))))))))))))))))))) rfl (fin_l (by decide)) (rfl) dX10_init_217 ?_
  refine lv_astore (lv' := [(4, .ref (n + 6)), (3, .int 1), (2, .int 3), (1, .ref n), (0, .ref b1)]) S.1 S.2.1 dX10_init_218 hl (by decide) rfl (fun ls hl => ?_)
  refine lv_aload S.1 S.2.1 dX10_init_220 (lv_at hl 0 rfl) ?_
  refine lv_bipush (v := 97) S.1 S.2.1 dX10_init_222 (by decide) ?_
  refine lv_iconst (v := 0) S.1 S.2.1 dX10_init_224 (by decide) ?_
  refine lv_iconst (v := 0) S.1 S.2.1 dX10_init_225 (by decide) ?_
  refine lv_iconst (v := (-1)) S.1 S.2.1 dX10_init_226 (by decide) ?_
  refine fx_cVNv (host := "TreeDifferModel") (As := [.int 97, .int 0, .int 0, .int (-1)]) (rest := []) S hG (k11_X9_adds (by omega) (by omega) (fu_at (by omega) (fu_at (by omega) (fu_at (by omega) (fu_at (by omega) (fu_at (by omega) (fu_at (by omega) (fu_at (by omega) (fu_at (by omega) (fu_at (by omega) (fu_at (by omega) (fu_at (by omega) (fu_at (by omega) (fu_at (by omega) (fu_at (by omega) (fu_at (by omega) (fu_at (by omega) (fu_at (by omega) (fu_at (by omega) (fu_at (by omega) (fblk_sk 4 rfl (by omega) (fu_at (by omega) (fu_at (by omega) (fu_at (by omega) (fblk_sk 4 rfl (by omega) (fu_at (by omega) (fu_at (by omega) (fu_at (by omega) (fu_at (by omega) (fu_at (by omega) (fu_at (by omega) (fu_at (by omega) (fu_at (by omega) (fu_at (by omega) (fu_at (by omega) (fu_at (by omega) (fu_at (by omega) (fu_at (by omega) (fblk_sk 20 rfl (by omega) (fu_at (by omega) (fu_at (by omega) (fblk_sk 4 rfl (by omega) (fu_at (by omega) (fu_at (by omega) (fu_at (by omega) (fu_at (by omega) (fu_at (by omega) (fu_at (by omega) (fu_at (by omega) (fu_at (by omega) (fblk_sk 4 rfl (by omega) (fu_at (by omega) (fu_at (by omega) (fu_at (by omega) (fblk_sk 4 rfl (by omega) fu_s)))))))))))))))))))))))))))))))))))))))))))))))))))))) (fu_at (by omega) (fu_at (by omega) (fu_at (by omega) (fu_at (by omega) (fu_at (by omega) (fu_at (by omega) (fu_at (by omega) (fu_at (by omega) (fu_at (by omega) (fu_at (by omega) (fu_at (by omega) (fu_at (by omega) (fu_at (by omega) (fu_at (by omega) (fu_at (by omega) (fu_at (by omega) (fu_at (by omega) (fu_at (by omega) (fu_at (by omega) (fblk_sk 4 rfl (by omega) (fu_at (by omega) (fu_at (by omega) (fu_at (by omega) (fblk_sk 4 rfl (by omega) (fu_at (by omega) (fu_at (by omega) (fu_at (by omega) (fu_at (by omega) (fu_at (by omega) (fu_at (by omega) (fu_at (by omega) (fu_at (by omega) (fu_at (by omega) (fu_at (by omega) (fu_at (by omega) (fu_at (by omega) (fu_at (by omega) (fblk_sk 20 rfl (by omega) (fu_at (by omega) (fu_at (by omega) (fblk_sk 4 rfl (by omega) (fu_at (by omega) (fu_at (by omega) (fu_at (by omega) (fu_at (by omega) (fu_at (by omega) (fu_at (by omega) (fu_at (by omega) (fu_at (by omega) (fblk_sk 4 rfl (by omega) (fu_at (by omega) (fu_at (by omega) (fu_at (by omega) (fblk_at 0 (by omega) rfl)))))))))))))))))))))))))))))))))))))))))))))))))))))) (fu_at (by omega) (fu_at (by omega) (fu_at (by omega) (fu_at (by omega) (fu_at (by omega) (fu_at (by omega) (fu_at (by omega) (fu_at (by omega) (fu_at (by omega) (fu_at (by omega) (fu_at (by omega) (fu_at (by omega) (fu_at (by omega) (fu_at (by omega) (fu_at (by omega) (fu_at (by omega) (fu_at (by omega) (fu_at (by omega) (fu_at (by omega) (fblk_sk 4 rfl (by omega) (fu_at (by omega) (fu_at (by omega) (fu_at (by omega) (fblk_sk 4 rfl (by omega) (fu_at (by omega) (fu_at (by omega) (fu_at (by omega) (fu_at (by omega) (fu_at (by omega) (fu_at (by omega) (fu_at (by omega) (fu_at (by omega) (fu_at (by omega) (fu_at (by omega) (fu_at (by omega) (fu_at (by omega) (fu_at (by omega) (fblk_sk 20 rfl (by omega) (fu_at (by omega) (fu_at (by omega) (fblk_sk 4 rfl (by omega) (fu_at (by omega) (fu_at (by omega) (fu_at (by omega) (fu_at (by omega) (fu_at (by omega) (fu_at (by omega) (fu_at (by omega) (fu_at (by omega) (fblk_sk 4 rfl (by omega) (fu_at (by omega) (fu_at (by omega) (fu_at (by omega) (fblk_at 1 (by omega) rfl)))))))))))))))))))))))))))))))))))))))))))))))))))))) (fu_at (by omega) (fu_at (by omega) (fu_at (by omega) (fu_at (by omega) (fu_at (by omega) (fu_at (by omega) (fu_at (by omega) (fu_at (by omega) (fu_at (by omega) (fu_at (by omega) (fu_at (by omega) (fu_at (by omega) (fu_at (by omega) (fu_at (by omega) (fu_at (by omega) (fu_at (by omega) (fu_at (by omega) (fu_at (by omega) (fu_at (by omega) (fblk_sk 4 rfl (by omega) (fu_at (by omega) (fu_at (by omega) (fu_at (by omega) (fblk_sk 4 rfl (by omega) (fu_at (by omega) (fu_at (by omega) (fu_at (by omega) (fu_at (by omega) (fu_at (by omega) (fu_at (by omega) (fu_at (by omega) (fu_at (by omega) (fu_at (by omega) (fu_at (by omega) (fu_at (by omega) (fu_at (by omega) (fu_at (by omega) (fblk_sk 20 rfl (by omega) (fu_at (by omega) (fu_at (by omega) (fblk_sk 4 rfl (by omega) (fu_at (by omega) (fu_at (by omega) (fu_at (by omega) (fu_at (by omega) (fu_at (by omega) (fu_at (by omega) (fu_at (by omega) (fu_at (by omega) (fblk_sk 4 rfl (by omega) (fu_at (by omega) (fu_at (by omega) (fu_at (by omega) (fblk_at 2 (by omega) rfl)))))))))))))))))))))))))))))))))))))))))))))))))))))) (fu_at (by omega) (fu_at (by omega) (fu_at (by omega) (fu_at (by omega) (fu_at (by omega) (fu_at (by omega) (fu_at (by omega) (fu_at (by omega) (fu_at (by omega) (fu_at (by omega) (fu_at (by omega) (fu_at (by omega) (fu_at (by omega) (fu_at (by omega) (fu_at (by omega) (fu_at (by omega) (fu_at (by omega) (fu_at (by omega) (fu_at (by omega) (fblk_sk 4 rfl (by omega) (fu_at (by omega) (fu_at (by omega) (fu_at (by omega) (fblk_sk 4 rfl (by omega) (fu_at (by omega) (fu_at (by omega) (fu_at (by omega) (fu_at (by omega) (fu_at (by omega) (fu_at (by omega) (fu_at (by omega) (fu_at (by omega) (fu_at (by omega) (fu_at (by omega) (fu_at (by omega) (fu_at (by omega) (fu_at (by omega) (fblk_sk 20 rfl (by omega) (fu_at (by omega) (fu_at (by omega) (fblk_sk 4 rfl (by omega) (fu_at (by omega) (fu_at (by omega) (fu_at (by omega) (fu_at (by omega) (fu_at (by omega) (fu_at (by omega) (fu_at (by omega) (fu_at (by omega) (fblk_sk 4 rfl (by omega) (fu_at (by omega) (fu_at (by omega) (fu_at (by omega) (fblk_at 3 (by omega) rfl))))))))))))))))))))))))))))))))))))))))))))))))))))))) (fu_at (by omega) (fu_at (by omega) (fu_at (by omega) (fu_at (by omega) (fu_at (by omega) (fu_at (by omega) (fu_at (by omega) (fu_at (by omega) (fu_at (by omega) (fu_at (by omega) (fu_at (by omega) (fu_at (by omega) (fu_at (by omega) (fu_at (by omega) (fu_at (by omega) (fu_at (by omega) (fu_at (by omega) (fu_at (by omega) (fu_at (by omega) (fblk_sk 4 rfl (by omega) (fu_at (by omega) (fu_at (by omega) (fu_at (by omega) (fblk_sk 4 rfl (by omega) (fu_at (by omega) (fu_at (by omega) (fu_at (by omega) (fu_at (by omega) (fu_at (by omega) (fu_at (by omega) (fu_at (by omega) (fu_at (by omega) (fu_at (by omega) (fu_at (by omega) (fu_at (by omega) (fu_at (by omega) (fu_at (by omega) (fblk_sk 20 rfl (by omega) (fu_at (by omega) (fu_at (by omega) (fblk_sk 4 rfl (by omega) (fu_at (by omega) (fu_at (by omega) (fu_at (by omega) (fu_at (by omega) (fu_at (by omega) (fu_at (by omega) (fu_at (by omega) (fu_at (by omega) (fblk_sk 4 rfl (by omega) (fu_at (by omega) (fu_at (by omega) (fu_at (by omega) (fblk_sk 4 rfl (by omega) fu_s)))))))))))))))))))))))))))))))))))))))))))))))))))))) rfl ⟨(va_cnB 4 S.2.2.2.2 gX10_init_X9_adds_n101 rfl rfl rfl (hG.nest (show _ ∈ fen2.2.2.1 from by decide)) (S.2.2.2.2 (.initialized RX9) (by decide +kernel)) (by decide +kernel) ⟨Nat.le_of_ble_eq_true rfl, Nat.le_of_ble_eq_true rfl⟩), S.2.2.2.2 (.instanceMethod yX9_adds) (by decide +kernel), S.2.2.2.2 (.selects RX9 yX9_adds yX9_adds) (by decide +kernel)⟩ rfl hl.1 rfl (Nat.le_of_ble_eq_true rfl) dX10_init_227 ⟨Nat.le_of_ble_eq_true rfl, Nat.le_of_ble_eq_true rfl⟩ (fun _ H locs hp hG => ?_)
  refine lv_iinc (v := 2) (lv' := [(3, .int 2), (4, .ref (n + 6)), (2, .int 3), (1, .ref n), (0, .ref b1)]) S.1 S.2.1 dX10_init_230 hl (k := 1) rfl (by decide) (by decide) rfl (fun ls hl => ?_)
  refine lv_goto (tgt := 210) S.1 S.2.1 dX10_init_233 (by decide) ?_
  refine lv_iload_n S.1 S.2.1 dX10_init_210 rfl (lv_at hl 0 rfl) ?_
  refine lv_iload_n S.1 S.2.1 dX10_init_211 rfl (lv_at hl 2 rfl) ?_
  refine lv_icmp_ge (tgt := 236) S.1 S.2.1 dX10_init_212 (by decide) (fun c => absurd c (by decide)) (fun _ => ?_)
  refine lv_aload_n S.1 S.2.1 dX10_init_215 rfl (lv_at hl 3 rfl) ?_
  refine lv_iload_n S.1 S.2.1 dX10_init_216 rfl (lv_at hl 0 rfl) ?_
  refine gx_aldq (x := (n + 11)) S hG 6 rfl (fu_at (by omega) (fu_at (by omega) (fu_at (by omega) (fu_at (by omega) (fu_at (by omega) (fu_at (by omega) (fu_at (by omega) (fu_at (by omega) (fu_at (by omega) (fu_at (by omega) (fu_at (by omega) (fu_at (by omega) (fu_at (by omega) (fu_at (by omega) (fu_at (by omega) (fu_at (by omega) (fu_at (by omega) (fu_at (by omega) (fu_at (by omega) (fu_at (by omega) (fu_at (by omega) (fu_at (by omega) (fu_at (by omega) (fu_at (by omega) (fblk_sk 4 rfl (by omega) (fu_at (by omega) (fu_at (by omega) (fu_at (by omega) (fblk_sk 4 rfl (by omega) (fu_at (by omega) (fu_at (by omega) (fu_at (by omega) (fu_at (by omega) (fu_at (by omega) (fu_at (by omega) (fu_at (by omega) (fu_at (by omega) (fu_at (by omega) (fu_at (by omega) (fu_at (by omega) (fu_at (by omega) (fu_at (by omega) (fblk_sk 20 rfl (by omega) (fu_at (by omega) (fu_at (by omega) (fblk_sk 4 rfl (by omega) (fu_at (by omega) (fu_at (by omega) (fu_at (by omega) (fu_at (by omega) (fu_at (by omega) (fu_at (by omega) (fu_at (by omega) fu_s))))))))))))))))))))))))))))))))))))))))))))))))))))) rfl (fin_l (by decide)) (rfl) dX10_init_217 ?_
  refine lv_astore (lv' := [(4, .ref (n + 11)), (3, .int 2), (2, .int 3), (1, .ref n), (0, .ref b1)]) S.1 S.2.1 dX10_init_218 hl (by decide) rfl (fun ls hl => ?_)
  refine lv_aload S.1 S.2.1 dX10_init_220 (lv_at hl 0 rfl) ?_
  refine lv_bipush (v := 97) S.1 S.2.1 dX10_init_222 (by decide) ?_
  refine lv_iconst (v := 0) S.1 S.2.1 dX10_init_224 (by decide) ?_
  refine lv_iconst (v := 0) S.1 S.2.1 dX10_init_225 (by decide) ?_
  refine lv_iconst (v := (-1)) S.1 S.2.1 dX10_init_226 (by decide) ?_
  refine fx_cVNv (host := "TreeDifferModel") (As := [.int 97, .int 0, .int 0, .int (-1)]) (rest := []) S hG (k11_X9_adds (by omega) (by omega) (fu_at (by omega) (fu_at (by omega) (fu_at (by omega) (fu_at (by omega) (fu_at (by omega) (fu_at (by omega) (fu_at (by omega) (fu_at (by omega) (fu_at (by omega) (fu_at (by omega) (fu_at (by omega) (fu_at (by omega) (fu_at (by omega) (fu_at (by omega) (fu_at (by omega) (fu_at (by omega) (fu_at (by omega) (fu_at (by omega) (fu_at (by omega) (fu_at (by omega) (fu_at (by omega) (fu_at (by omega) (fu_at (by omega) (fu_at (by omega) (fblk_sk 4 rfl (by omega) (fu_at (by omega) (fu_at (by omega) (fu_at (by omega) (fblk_sk 4 rfl (by omega) (fu_at (by omega) (fu_at (by omega) (fu_at (by omega) (fu_at (by omega) (fu_at (by omega) (fu_at (by omega) (fu_at (by omega) (fu_at (by omega) (fu_at (by omega) (fu_at (by omega) (fu_at (by omega) (fu_at (by omega) (fu_at (by omega) (fblk_sk 20 rfl (by omega) (fu_at (by omega) (fu_at (by omega) (fblk_sk 4 rfl (by omega) (fu_at (by omega) (fu_at (by omega) (fu_at (by omega) (fu_at (by omega) (fu_at (by omega) (fu_at (by omega) (fu_at (by omega) (fu_at (by omega) (fblk_sk 4 rfl (by omega) fu_s))))))))))))))))))))))))))))))))))))))))))))))))))))))) (fu_at (by omega) (fu_at (by omega) (fu_at (by omega) (fu_at (by omega) (fu_at (by omega) (fu_at (by omega) (fu_at (by omega) (fu_at (by omega) (fu_at (by omega) (fu_at (by omega) (fu_at (by omega) (fu_at (by omega) (fu_at (by omega) (fu_at (by omega) (fu_at (by omega) (fu_at (by omega) (fu_at (by omega) (fu_at (by omega) (fu_at (by omega) (fu_at (by omega) (fu_at (by omega) (fu_at (by omega) (fu_at (by omega) (fu_at (by omega) (fblk_sk 4 rfl (by omega) (fu_at (by omega) (fu_at (by omega) (fu_at (by omega) (fblk_sk 4 rfl (by omega) (fu_at (by omega) (fu_at (by omega) (fu_at (by omega) (fu_at (by omega) (fu_at (by omega) (fu_at (by omega) (fu_at (by omega) (fu_at (by omega) (fu_at (by omega) (fu_at (by omega) (fu_at (by omega) (fu_at (by omega) (fu_at (by omega) (fblk_sk 20 rfl (by omega) (fu_at (by omega) (fu_at (by omega) (fblk_sk 4 rfl (by omega) (fu_at (by omega) (fu_at (by omega) (fu_at (by omega) (fu_at (by omega) (fu_at (by omega) (fu_at (by omega) (fu_at (by omega) (fu_at (by omega) (fblk_at 0 (by omega) rfl))))))))))))))))))))))))))))))))))))))))))))))))))))))) (fu_at (by omega) (fu_at (by omega) (fu_at (by omega) (fu_at (by omega) (fu_at (by omega) (fu_at (by omega) (fu_at (by omega) (fu_at (by omega) (fu_at (by omega) (fu_at (by omega) (fu_at (by omega) (fu_at (by omega) (fu_at (by omega) (fu_at (by omega) (fu_at (by omega) (fu_at (by omega) (fu_at (by omega) (fu_at (by omega) (fu_at (by omega) (fu_at (by omega) (fu_at (by omega) (fu_at (by omega) (fu_at (by omega) (fu_at (by omega) (fblk_sk 4 rfl (by omega) (fu_at (by omega) (fu_at (by omega) (fu_at (by omega) (fblk_sk 4 rfl (by omega) (fu_at (by omega) (fu_at (by omega) (fu_at (by omega) (fu_at (by omega) (fu_at (by omega) (fu_at (by omega) (fu_at (by omega) (fu_at (by omega) (fu_at (by omega) (fu_at (by omega) (fu_at (by omega) (fu_at (by omega) (fu_at (by omega) (fblk_sk 20 rfl (by omega) (fu_at (by omega) (fu_at (by omega) (fblk_sk 4 rfl (by omega) (fu_at (by omega) (fu_at (by omega) (fu_at (by omega) (fu_at (by omega) (fu_at (by omega) (fu_at (by omega) (fu_at (by omega) (fu_at (by omega) (fblk_at 1 (by omega) rfl))))))))))))))))))))))))))))))))))))))))))))))))))))))) (fu_at (by omega) (fu_at (by omega) (fu_at (by omega) (fu_at (by omega) (fu_at (by omega) (fu_at (by omega) (fu_at (by omega) (fu_at (by omega) (fu_at (by omega) (fu_at (by omega) (fu_at (by omega) (fu_at (by omega) (fu_at (by omega) (fu_at (by omega) (fu_at (by omega) (fu_at (by omega) (fu_at (by omega) (fu_at (by omega) (fu_at (by omega) (fu_at (by omega) (fu_at (by omega) (fu_at (by omega) (fu_at (by omega) (fu_at (by omega) (fblk_sk 4 rfl (by omega) (fu_at (by omega) (fu_at (by omega) (fu_at (by omega) (fblk_sk 4 rfl (by omega) (fu_at (by omega) (fu_at (by omega) (fu_at (by omega) (fu_at (by omega) (fu_at (by omega) (fu_at (by omega) (fu_at (by omega) (fu_at (by omega) (fu_at (by omega) (fu_at (by omega) (fu_at (by omega) (fu_at (by omega) (fu_at (by omega) (fblk_sk 20 rfl (by omega) (fu_at (by omega) (fu_at (by omega) (fblk_sk 4 rfl (by omega) (fu_at (by omega) (fu_at (by omega) (fu_at (by omega) (fu_at (by omega) (fu_at (by omega) (fu_at (by omega) (fu_at (by omega) (fu_at (by omega) (fblk_at 2 (by omega) rfl))))))))))))))))))))))))))))))))))))))))))))))))))))))) (fu_at (by omega) (fu_at (by omega) (fu_at (by omega) (fu_at (by omega) (fu_at (by omega) (fu_at (by omega) (fu_at (by omega) (fu_at (by omega) (fu_at (by omega) (fu_at (by omega) (fu_at (by omega) (fu_at (by omega) (fu_at (by omega) (fu_at (by omega) (fu_at (by omega) (fu_at (by omega) (fu_at (by omega) (fu_at (by omega) (fu_at (by omega) (fu_at (by omega) (fu_at (by omega) (fu_at (by omega) (fu_at (by omega) (fu_at (by omega) (fblk_sk 4 rfl (by omega) (fu_at (by omega) (fu_at (by omega) (fu_at (by omega) (fblk_sk 4 rfl (by omega) (fu_at (by omega) (fu_at (by omega) (fu_at (by omega) (fu_at (by omega) (fu_at (by omega) (fu_at (by omega) (fu_at (by omega) (fu_at (by omega) (fu_at (by omega) (fu_at (by omega) (fu_at (by omega) (fu_at (by omega) (fu_at (by omega) (fblk_sk 20 rfl (by omega) (fu_at (by omega) (fu_at (by omega) (fblk_sk 4 rfl (by omega) (fu_at (by omega) (fu_at (by omega) (fu_at (by omega) (fu_at (by omega) (fu_at (by omega) (fu_at (by omega) (fu_at (by omega) (fu_at (by omega) (fblk_at 3 (by omega) rfl)))))))))))))))))))))))))))))))))))))))))))))))))))))))) (fu_at (by omega) (fu_at (by omega) (fu_at (by omega) (fu_at (by omega) (fu_at (by omega) (fu_at (by omega) (fu_at (by omega) (fu_at (by omega) (fu_at (by omega) (fu_at (by omega) (fu_at (by omega) (fu_at (by omega) (fu_at (by omega) (fu_at (by omega) (fu_at (by omega) (fu_at (by omega) (fu_at (by omega) (fu_at (by omega) (fu_at (by omega) (fu_at (by omega) (fu_at (by omega) (fu_at (by omega) (fu_at (by omega) (fu_at (by omega) (fblk_sk 4 rfl (by omega) (fu_at (by omega) (fu_at (by omega) (fu_at (by omega) (fblk_sk 4 rfl (by omega) (fu_at (by omega) (fu_at (by omega) (fu_at (by omega) (fu_at (by omega) (fu_at (by omega) (fu_at (by omega) (fu_at (by omega) (fu_at (by omega) (fu_at (by omega) (fu_at (by omega) (fu_at (by omega) (fu_at (by omega) (fu_at (by omega) (fblk_sk 20 rfl (by omega) (fu_at (by omega) (fu_at (by omega) (fblk_sk 4 rfl (by omega) (fu_at (by omega) (fu_at (by omega) (fu_at (by omega) (fu_at (by omega) (fu_at (by omega) (fu_at (by omega) (fu_at (by omega) (fu_at (by omega) (fblk_sk 4 rfl (by omega) fu_s))))))))))))))))))))))))))))))))))))))))))))))))))))))) rfl ⟨(va_cnB 4 S.2.2.2.2 gX10_init_X9_adds_n101 rfl rfl rfl (hG.nest (show _ ∈ fen2.2.2.1 from by decide)) (S.2.2.2.2 (.initialized RX9) (by decide +kernel)) (by decide +kernel) ⟨Nat.le_of_ble_eq_true rfl, Nat.le_of_ble_eq_true rfl⟩), S.2.2.2.2 (.instanceMethod yX9_adds) (by decide +kernel), S.2.2.2.2 (.selects RX9 yX9_adds yX9_adds) (by decide +kernel)⟩ rfl hl.1 rfl (Nat.le_of_ble_eq_true rfl) dX10_init_227 ⟨Nat.le_of_ble_eq_true rfl, Nat.le_of_ble_eq_true rfl⟩ (fun _ H locs hp hG => ?_)
  refine lv_iinc (v := 3) (lv' := [(3, .int 3), (4, .ref (n + 11)), (2, .int 3), (1, .ref n), (0, .ref b1)]) S.1 S.2.1 dX10_init_230 hl (k := 1) rfl (by decide) (by decide) rfl (fun ls hl => ?_)
  refine lv_goto (tgt := 210) S.1 S.2.1 dX10_init_233 (by decide) ?_
  refine lv_iload_n S.1 S.2.1 dX10_init_210 rfl (lv_at hl 0 rfl) ?_
  refine lv_iload_n S.1 S.2.1 dX10_init_211 rfl (lv_at hl 2 rfl) ?_
  refine lv_icmp_ge (tgt := 236) S.1 S.2.1 dX10_init_212 (by decide) (fun _ => ?_) (fun c => absurd (by decide) c)
  exact fx_vret S hr hlocks () hG trivial dX10_init_236
