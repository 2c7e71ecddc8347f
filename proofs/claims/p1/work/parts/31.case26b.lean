theorem dX7_diff_11 : decode cX7_diff 11 = .ok (.astore 4, 2) := by decide +kernel
theorem dX7_diff_13 : decode cX7_diff 13 = .ok (.aload_n 0, 1) := by decide +kernel
theorem dX7_diff_14 : decode cX7_diff 14 = .ok (.getfield 46, 3) := by decide +kernel
theorem dX7_diff_17 : decode cX7_diff 17 = .ok (.aload_n 3, 1) := by decide +kernel
theorem dX7_diff_18 : decode cX7_diff 18 = .ok (.aload 4, 2) := by decide +kernel
theorem dX7_diff_20 : decode cX7_diff 20 = .ok (.aload_n 0, 1) := by decide +kernel
theorem dX7_diff_21 : decode cX7_diff 21 = .ok (.getfield 32, 3) := by decide +kernel
set_option maxRecDepth 20000 in
theorem ggX7_diff_X3_compute : GoodIn wsX7_diff wsX3_compute := goodIn_r _ [16, 17, 18, 19, 20, 21, 22, 23, 24, 25, 26, 27, 28, 29, 30, 31, 32, 33, 34, 35, 36, 37, 38, 39, 40, 41, 42, 43, 44, 45, 46, 47, 48, 49, 50, 51, 52, 53, 54, 55, 56, 57, 58, 59, 60, 61, 62, 63, 64, 65, 66, 67, 68, 69, 70, 71, 72, 73, 74, 75, 76, 77, 78, 79, 80, 81, 82, 83, 84, 85, 86, 87, 88, 89, 90, 91, 92, 93, 94, 95, 96, 97, 98, 99, 100, 7, 101, 102, 103, 104, 105, 106, 107, 108, 109, 110, 111, 112, 113, 114, 115, 116, 117, 118, 15, 119, 120, 121, 122, 123, 124, 125, 126, 127, 128, 129, 130, 131, 132, 133, 134, 135, 136, 137, 138, 139, 140, 141, 142, 143, 144, 145, 146, 147, 148, 149, 150, 151, 152, 153, 154, 155, 156, 157, 158, 159, 160, 161, 162, 163, 164, 165, 166, 177, 178, 179, 180, 181, 182, 183, 184, 185, 186, 187, 188, 189, 190, 191, 192, 193, 194, 195, 196, 197, 198, 199, 200, 201, 202] (by decide +kernel) (by decide +kernel)
set_option maxRecDepth 20000 in
theorem gX7_diff_X3_compute : GoodIn wsX7_diff (wsV RX7 242 RX3 yX3_compute wsX3_compute) := goodIn_app (goodIn_of _ (by decide +kernel)) ggX7_diff_X3_compute
theorem dX7_diff_24 : decode cX7_diff 24 = .ok (.invokevirtual 242, 3) := by decide +kernel
theorem dX7_diff_27 : decode cX7_diff 27 = .ok (.aload_n 0, 1) := by decide +kernel
theorem dX7_diff_28 : decode cX7_diff 28 = .ok (.getfield 46, 3) := by decide +kernel
theorem dX7_diff_31 : decode cX7_diff 31 = .ok (.getfield 122, 3) := by decide +kernel
theorem dX7_diff_34 : decode cX7_diff 34 = .ok (.ireturn, 1) := by decide +kernel
theorem dL_diff_8 : decode cL_diff 8 = .ok (.i2l, 1) := by decide +kernel
theorem dL_diff_9 : decode cL_diff 9 = .ok (.lastore, 1) := by decide +kernel
theorem dL_diff_10 : decode cL_diff 10 = .ok (.goto 7, 3) := by decide +kernel
theorem dL_diff_17 : decode cL_diff 17 = .ok (.iconst 0, 1) := by decide +kernel
theorem dL_diff_18 : decode cL_diff 18 = .ok (.ireturn, 1) := by decide +kernel
theorem dX10_pairs_0 : decode cX10_pairs 0 = .ok (.aload_n 0, 1) := by decide +kernel
theorem dX10_pairs_1 : decode cX10_pairs 1 = .ok (.getfield 65, 3) := by decide +kernel
theorem dX10_pairs_4 : decode cX10_pairs 4 = .ok (.iload_n 2, 1) := by decide +kernel
theorem dX10_pairs_5 : decode cX10_pairs 5 = .ok (.iload 4, 2) := by decide +kernel
theorem dX10_pairs_7 : decode cX10_pairs 7 = .ok (.iastore, 1) := by decide +kernel
theorem dX10_pairs_8 : decode cX10_pairs 8 = .ok (.aload_n 0, 1) := by decide +kernel
theorem dX10_pairs_9 : decode cX10_pairs 9 = .ok (.getfield 68, 3) := by decide +kernel
theorem dX10_pairs_12 : decode cX10_pairs 12 = .ok (.iload 4, 2) := by decide +kernel
theorem dX10_pairs_14 : decode cX10_pairs 14 = .ok (.iload_n 2, 1) := by decide +kernel
theorem dX10_pairs_15 : decode cX10_pairs 15 = .ok (.iastore, 1) := by decide +kernel
theorem dX10_pairs_16 : decode cX10_pairs 16 = .ok (.aload_n 1, 1) := by decide +kernel
theorem dX10_pairs_17 : decode cX10_pairs 17 = .ok (.getfield 11, 3) := by decide +kernel
theorem dX10_pairs_20 : decode cX10_pairs 20 = .ok (.iload_n 2, 1) := by decide +kernel
theorem dX10_pairs_21 : decode cX10_pairs 21 = .ok (.iaload, 1) := by decide +kernel
theorem dX10_pairs_22 : decode cX10_pairs 22 = .ok (.aload_n 3, 1) := by decide +kernel
theorem dX10_pairs_23 : decode cX10_pairs 23 = .ok (.getfield 11, 3) := by decide +kernel
theorem dX10_pairs_26 : decode cX10_pairs 26 = .ok (.iload 4, 2) := by decide +kernel
theorem dX10_pairs_28 : decode cX10_pairs 28 = .ok (.iaload, 1) := by decide +kernel
theorem dX10_pairs_29 : decode cX10_pairs 29 = .ok (.if_icmp .eq 12, 3) := by decide +kernel
theorem dX10_pairs_41 : decode cX10_pairs 41 = .ok (.aload_n 1, 1) := by decide +kernel
theorem dX10_pairs_42 : decode cX10_pairs 42 = .ok (.getfield 17, 3) := by decide +kernel
theorem dX10_pairs_45 : decode cX10_pairs 45 = .ok (.iload_n 2, 1) := by decide +kernel
theorem dX10_pairs_46 : decode cX10_pairs 46 = .ok (.iaload, 1) := by decide +kernel
theorem dX10_pairs_47 : decode cX10_pairs 47 = .ok (.aload_n 3, 1) := by decide +kernel
theorem dX10_pairs_48 : decode cX10_pairs 48 = .ok (.getfield 17, 3) := by decide +kernel
theorem dX10_pairs_51 : decode cX10_pairs 51 = .ok (.iload 4, 2) := by decide +kernel
theorem dX10_pairs_53 : decode cX10_pairs 53 = .ok (.iaload, 1) := by decide +kernel
theorem dX10_pairs_54 : decode cX10_pairs 54 = .ok (.if_icmp .eq 12, 3) := by decide +kernel
theorem dX10_pairs_66 : decode cX10_pairs 66 = .ok (.aload_n 1, 1) := by decide +kernel
theorem dX10_pairs_67 : decode cX10_pairs 67 = .ok (.iload_n 2, 1) := by decide +kernel
set_option maxRecDepth 20000 in
theorem ggX10_pairs_X9_kids : GoodIn wsX10_pairs wsX9_kids := goodIn_r _ [16, 17, 18, 19, 20, 21, 22, 14, 23, 71, 72, 73, 74, 75] (by decide +kernel) (by decide +kernel)
set_option maxRecDepth 20000 in
theorem gX10_pairs_X9_kids_n173 : GoodIn wsX10_pairs (wsX9_kids) := ggX10_pairs_X9_kids
theorem dX10_pairs_68 : decode cX10_pairs 68 = .ok (.invokevirtual 173, 3) := by decide +kernel
theorem dX10_pairs_71 : decode cX10_pairs 71 = .ok (.astore 5, 2) := by decide +kernel
theorem dX10_pairs_73 : decode cX10_pairs 73 = .ok (.aload_n 3, 1) := by decide +kernel
theorem dX10_pairs_74 : decode cX10_pairs 74 = .ok (.iload 4, 2) := by decide +kernel
theorem dX10_pairs_76 : decode cX10_pairs 76 = .ok (.invokevirtual 173, 3) := by decide +kernel
theorem dX10_pairs_79 : decode cX10_pairs 79 = .ok (.astore 6, 2) := by decide +kernel
theorem dX10_pairs_81 : decode cX10_pairs 81 = .ok (.aload_n 0, 1) := by decide +kernel
theorem dX10_pairs_82 : decode cX10_pairs 82 = .ok (.aload_n 1, 1) := by decide +kernel
theorem dX10_pairs_83 : decode cX10_pairs 83 = .ok (.aload 5, 2) := by decide +kernel
theorem dX10_pairs_85 : decode cX10_pairs 85 = .ok (.aload_n 3, 1) := by decide +kernel
theorem dX10_pairs_86 : decode cX10_pairs 86 = .ok (.aload 6, 2) := by decide +kernel
set_option maxRecDepth 20000 in
theorem ggX10_pairs_X10_left : GoodIn wsX10_pairs wsX10_left := goodIn_r _ [27, 28, 17, 29, 30, 31, 32, 33, 3, 34, 14, 35, 36, 18, 19, 71, 72, 73, 74, 75, 40, 41, 42, 43, 44, 45, 46, 47, 48, 49, 50, 51, 52, 53, 54, 55, 56, 57, 58, 59, 60, 61, 62, 63, 64, 65, 66, 67, 68, 69, 70] (by decide +kernel) (by decide +kernel)
set_option maxRecDepth 20000 in
theorem gX10_pairs_X10_left : GoodIn wsX10_pairs (wsV RX10 238 RX10 yX10_left wsX10_left) := goodIn_app (goodIn_of _ (by decide +kernel)) ggX10_pairs_X10_left
theorem dX10_pairs_88 : decode cX10_pairs 88 = .ok (.invokevirtual 238, 3) := by decide +kernel
theorem dX10_pairs_91 : decode cX10_pairs 91 = .ok (.astore 7, 2) := by decide +kernel
theorem dX10_pairs_93 : decode cX10_pairs 93 = .ok (.iconst 0, 1) := by decide +kernel
theorem dX10_pairs_94 : decode cX10_pairs 94 = .ok (.istore 8, 2) := by decide +kernel
theorem dX10_pairs_96 : decode cX10_pairs 96 = .ok (.iconst 0, 1) := by decide +kernel
theorem dX10_pairs_97 : decode cX10_pairs 97 = .ok (.istore 9, 2) := by decide +kernel
theorem dX10_pairs_99 : decode cX10_pairs 99 = .ok (.iload 8, 2) := by decide +kernel
theorem dX10_pairs_101 : decode cX10_pairs 101 = .ok (.aload 5, 2) := by decide +kernel
theorem dX10_pairs_103 : decode cX10_pairs 103 = .ok (.arraylength, 1) := by decide +kernel
theorem dX10_pairs_104 : decode cX10_pairs 104 = .ok (.if_icmp .lt 11, 3) := by decide +kernel
theorem dX10_pairs_107 : decode cX10_pairs 107 = .ok (.iload 9, 2) := by decide +kernel
theorem dX10_pairs_109 : decode cX10_pairs 109 = .ok (.aload 6, 2) := by decide +kernel
theorem dX10_pairs_111 : decode cX10_pairs 111 = .ok (.arraylength, 1) := by decide +kernel
theorem dX10_pairs_112 : decode cX10_pairs 112 = .ok (.if_icmp .ge 202, 3) := by decide +kernel
theorem dX10_pairs_314 : decode cX10_pairs 314 = .ok (.return_, 1) := by decide +kernel
theorem dX10_matches_0 : decode cX10_matches 0 = .ok (.aload_n 0, 1) := by decide +kernel
theorem dX10_matches_1 : decode cX10_matches 1 = .ok (.iconst 0, 1) := by decide +kernel
theorem dX10_matches_2 : decode cX10_matches 2 = .ok (.putfield 242, 3) := by decide +kernel
theorem dX10_matches_5 : decode cX10_matches 5 = .ok (.iconst 0, 1) := by decide +kernel
theorem dX10_matches_6 : decode cX10_matches 6 = .ok (.istore_n 3, 1) := by decide +kernel
theorem dX10_matches_7 : decode cX10_matches 7 = .ok (.iload_n 3, 1) := by decide +kernel
theorem dX10_matches_8 : decode cX10_matches 8 = .ok (.bipush 20, 2) := by decide +kernel
theorem dX10_matches_10 : decode cX10_matches 10 = .ok (.if_icmp .ge 23, 3) := by decide +kernel
theorem dX10_matches_13 : decode cX10_matches 13 = .ok (.aload_n 0, 1) := by decide +kernel
theorem dX10_matches_14 : decode cX10_matches 14 = .ok (.getfield 65, 3) := by decide +kernel
theorem dX10_matches_17 : decode cX10_matches 17 = .ok (.iload_n 3, 1) := by decide +kernel
theorem dX10_matches_18 : decode cX10_matches 18 = .ok (.iconst (-1), 1) := by decide +kernel
theorem dX10_matches_19 : decode cX10_matches 19 = .ok (.iastore, 1) := by decide +kernel
theorem dX10_matches_20 : decode cX10_matches 20 = .ok (.aload_n 0, 1) := by decide +kernel
theorem dX10_matches_21 : decode cX10_matches 21 = .ok (.getfield 68, 3) := by decide +kernel
theorem dX10_matches_24 : decode cX10_matches 24 = .ok (.iload_n 3, 1) := by decide +kernel
theorem dX10_matches_25 : decode cX10_matches 25 = .ok (.iconst (-1), 1) := by decide +kernel
theorem dX10_matches_26 : decode cX10_matches 26 = .ok (.iastore, 1) := by decide +kernel
theorem dX10_matches_27 : decode cX10_matches 27 = .ok (.iinc 3 1, 3) := by decide +kernel
theorem dX10_matches_30 : decode cX10_matches 30 = .ok (.goto (-23), 3) := by decide +kernel
theorem dX10_matches_33 : decode cX10_matches 33 = .ok (.aload_n 0, 1) := by decide +kernel
theorem dX10_matches_34 : decode cX10_matches 34 = .ok (.aload_n 1, 1) := by decide +kernel
theorem dX10_matches_35 : decode cX10_matches 35 = .ok (.aload_n 2, 1) := by decide +kernel
set_option maxRecDepth 20000 in
theorem ggX10_matches_X10_fills : GoodIn wsX10_matches wsX10_fills := goodIn_r _ [8, 9, 10, 11, 12, 13, 14, 15, 16, 17, 18, 19, 20, 21, 22, 23, 7, 24, 25, 26, 27, 28, 29, 30, 31, 32, 33, 76, 77, 78, 79, 80, 45, 46, 47, 48, 49, 50, 51, 52, 53, 54, 55, 56, 57, 58, 59, 60, 61, 62, 63, 64, 65, 66, 67, 68, 69, 70, 71, 72, 73, 74, 75] (by decide +kernel) (by decide +kernel)
set_option maxRecDepth 20000 in
theorem gX10_matches_X10_fills : GoodIn wsX10_matches (wsV RX10 253 RX10 yX10_fills wsX10_fills) := goodIn_app (goodIn_of _ (by decide +kernel)) ggX10_matches_X10_fills
theorem dX10_matches_36 : decode cX10_matches 36 = .ok (.invokevirtual 253, 3) := by decide +kernel
theorem dX10_matches_39 : decode cX10_matches 39 = .ok (.pop, 1) := by decide +kernel
theorem dX10_matches_40 : decode cX10_matches 40 = .ok (.aload_n 0, 1) := by decide +kernel
theorem dX10_matches_41 : decode cX10_matches 41 = .ok (.aload_n 1, 1) := by decide +kernel
theorem dX10_matches_42 : decode cX10_matches 42 = .ok (.iconst 0, 1) := by decide +kernel
theorem dX10_matches_43 : decode cX10_matches 43 = .ok (.aload_n 2, 1) := by decide +kernel
theorem dX10_matches_44 : decode cX10_matches 44 = .ok (.iconst 0, 1) := by decide +kernel
set_option maxRecDepth 20000 in
theorem ggX10_matches_X10_pairs : GoodIn wsX10_matches wsX10_pairs := goodIn_r _ [37, 2, 3, 9, 38, 39, 40, 7, 41, 42, 1, 43, 44, 10, 11, 12, 13, 14, 15, 16, 17, 18, 19, 20, 21, 22, 23, 24, 25, 26, 27, 28, 29, 30, 31, 32, 33, 34, 35, 36, 45, 46, 47, 48, 49, 50, 51, 52, 53, 54, 55, 56, 57, 58, 59, 60, 61, 62, 63, 64, 65, 66, 67, 68, 69, 70, 71, 72, 73, 74, 75, 76, 77, 78, 79, 80] (by decide +kernel) (by decide +kernel)
set_option maxRecDepth 20000 in
theorem gX10_matches_X10_pairs : GoodIn wsX10_matches (wsV RX10 249 RX10 yX10_pairs wsX10_pairs) := goodIn_app (goodIn_of _ (by decide +kernel)) ggX10_matches_X10_pairs
theorem dX10_matches_45 : decode cX10_matches 45 = .ok (.invokevirtual 249, 3) := by decide +kernel
theorem dX10_matches_48 : decode cX10_matches 48 = .ok (.return_, 1) := by decide +kernel
theorem dX10_recognizes_0 : decode cX10_recognizes 0 = .ok (.iconst 0, 1) := by decide +kernel
theorem dX10_recognizes_1 : decode cX10_recognizes 1 = .ok (.istore_n 1, 1) := by decide +kernel
theorem dX10_recognizes_2 : decode cX10_recognizes 2 = .ok (.iload_n 1, 1) := by decide +kernel
theorem dX10_recognizes_3 : decode cX10_recognizes 3 = .ok (.aload_n 0, 1) := by decide +kernel
theorem dX10_recognizes_4 : decode cX10_recognizes 4 = .ok (.getfield 242, 3) := by decide +kernel
theorem dX10_recognizes_7 : decode cX10_recognizes 7 = .ok (.if_icmp .ge 116, 3) := by decide +kernel
theorem dX10_recognizes_123 : decode cX10_recognizes 123 = .ok (.return_, 1) := by decide +kernel
theorem dX10_diff_11 : decode cX10_diff 11 = .ok (.aload_n 0, 1) := by decide +kernel
theorem dX10_diff_12 : decode cX10_diff 12 = .ok (.getfield 71, 3) := by decide +kernel
theorem dX10_diff_15 : decode cX10_diff 15 = .ok (.aload_n 0, 1) := by decide +kernel
theorem dX10_diff_16 : decode cX10_diff 16 = .ok (.getfield 27, 3) := by decide +kernel
theorem dX10_diff_19 : decode cX10_diff 19 = .ok (.iload_n 1, 1) := by decide +kernel
theorem dX10_diff_20 : decode cX10_diff 20 = .ok (.aaload, 1) := by decide +kernel
set_option maxRecDepth 20000 in
theorem ggX10_diff_X9_copies : GoodIn wsX10_diff wsX9_copies := goodIn_r _ [32, 33, 34, 35, 36, 37, 38, 39, 40, 30, 41, 118, 119, 120, 121, 122] (by decide +kernel) (by decide +kernel)
set_option maxRecDepth 20000 in
theorem gX10_diff_X9_copies_n157 : GoodIn wsX10_diff (wsX9_copies) := ggX10_diff_X9_copies
theorem dX10_diff_21 : decode cX10_diff 21 = .ok (.invokevirtual 157, 3) := by decide +kernel
theorem dX10_diff_24 : decode cX10_diff 24 = .ok (.aload_n 0, 1) := by decide +kernel
theorem dX10_diff_25 : decode cX10_diff 25 = .ok (.getfield 74, 3) := by decide +kernel
theorem dX10_diff_28 : decode cX10_diff 28 = .ok (.aload_n 0, 1) := by decide +kernel
theorem dX10_diff_29 : decode cX10_diff 29 = .ok (.getfield 27, 3) := by decide +kernel
theorem dX10_diff_32 : decode cX10_diff 32 = .ok (.iload_n 2, 1) := by decide +kernel
theorem dX10_diff_33 : decode cX10_diff 33 = .ok (.aaload, 1) := by decide +kernel
theorem dX10_diff_34 : decode cX10_diff 34 = .ok (.invokevirtual 157, 3) := by decide +kernel
theorem dX10_diff_37 : decode cX10_diff 37 = .ok (.aload_n 0, 1) := by decide +kernel
theorem dX10_diff_38 : decode cX10_diff 38 = .ok (.aload_n 0, 1) := by decide +kernel
theorem dX10_diff_39 : decode cX10_diff 39 = .ok (.getfield 71, 3) := by decide +kernel
theorem dX10_diff_42 : decode cX10_diff 42 = .ok (.aload_n 0, 1) := by decide +kernel
theorem dX10_diff_43 : decode cX10_diff 43 = .ok (.getfield 74, 3) := by decide +kernel
set_option maxRecDepth 20000 in
theorem ggX10_diff_X10_matches : GoodIn wsX10_diff wsX10_matches := goodIn_r _ [45, 5, 13, 15, 46, 47, 48, 20, 49, 50, 51, 30, 52, 53, 54, 33, 37, 55, 56, 57, 58, 59, 60, 61, 62, 63, 64, 65, 66, 67, 68, 69, 70, 71, 72, 73, 74, 75, 76, 77, 78, 79, 6, 9, 11, 87, 88, 89, 90, 91, 92, 93, 94, 95, 96, 97, 98, 99, 100, 101, 102, 103, 104, 105, 106, 107, 108, 109, 110, 111, 112, 113, 114, 115, 116, 117, 118, 119, 120, 121, 122] (by decide +kernel) (by decide +kernel)
set_option maxRecDepth 20000 in
theorem gX10_diff_X10_matches : GoodIn wsX10_diff (wsV RX10 257 RX10 yX10_matches wsX10_matches) := goodIn_app (goodIn_of _ (by decide +kernel)) ggX10_diff_X10_matches
theorem dX10_diff_46 : decode cX10_diff 46 = .ok (.invokevirtual 257, 3) := by decide +kernel
theorem dX10_diff_49 : decode cX10_diff 49 = .ok (.aload_n 0, 1) := by decide +kernel
set_option maxRecDepth 20000 in
theorem ggX10_diff_X10_recognizes : GoodIn wsX10_diff wsX10_recognizes := goodIn_r _ [83, 5, 6, 1, 9, 3, 11, 84, 85, 20, 86, 69, 30, 70, 71, 33, 37, 87, 88, 89, 90, 91, 92, 93, 94, 95, 96, 97, 98, 99, 100, 101, 102, 103, 104, 105, 106, 107, 108, 109, 110, 111, 112, 113, 114, 115, 116, 117, 118, 119, 120, 121, 122] (by decide +kernel) (by decide +kernel)
set_option maxRecDepth 20000 in
theorem gX10_diff_X10_recognizes : GoodIn wsX10_diff (wsV RX10 261 RX10 yX10_recognizes wsX10_recognizes) := goodIn_app (goodIn_of _ (by decide +kernel)) ggX10_diff_X10_recognizes
theorem dX10_diff_50 : decode cX10_diff 50 = .ok (.invokevirtual 261, 3) := by decide +kernel
theorem dX10_diff_53 : decode cX10_diff 53 = .ok (.aload_n 0, 1) := by decide +kernel
theorem dX10_diff_54 : decode cX10_diff 54 = .ok (.iconst 0, 1) := by decide +kernel
theorem dX10_diff_55 : decode cX10_diff 55 = .ok (.putfield 196, 3) := by decide +kernel
theorem dX10_diff_58 : decode cX10_diff 58 = .ok (.iconst 0, 1) := by decide +kernel
theorem dX10_diff_59 : decode cX10_diff 59 = .ok (.istore_n 3, 1) := by decide +kernel
theorem dX10_diff_60 : decode cX10_diff 60 = .ok (.iload_n 3, 1) := by decide +kernel
theorem dX10_diff_61 : decode cX10_diff 61 = .ok (.aload_n 0, 1) := by decide +kernel
theorem dX10_diff_62 : decode cX10_diff 62 = .ok (.getfield 242, 3) := by decide +kernel
theorem dX10_diff_65 : decode cX10_diff 65 = .ok (.if_icmp .ge 78, 3) := by decide +kernel
theorem dX10_diff_143 : decode cX10_diff 143 = .ok (.iconst 0, 1) := by decide +kernel
theorem dX10_diff_144 : decode cX10_diff 144 = .ok (.istore_n 3, 1) := by decide +kernel
theorem dX10_diff_145 : decode cX10_diff 145 = .ok (.iload_n 3, 1) := by decide +kernel
theorem dX10_diff_146 : decode cX10_diff 146 = .ok (.bipush 20, 2) := by decide +kernel
theorem dX10_diff_148 : decode cX10_diff 148 = .ok (.if_icmp .ge 33, 3) := by decide +kernel
theorem dX10_diff_151 : decode cX10_diff 151 = .ok (.aload_n 0, 1) := by decide +kernel
theorem dX10_diff_152 : decode cX10_diff 152 = .ok (.getfield 86, 3) := by decide +kernel
theorem dX10_diff_155 : decode cX10_diff 155 = .ok (.iload_n 3, 1) := by decide +kernel
theorem dX10_diff_156 : decode cX10_diff 156 = .ok (.aload_n 0, 1) := by decide +kernel
theorem dX10_diff_157 : decode cX10_diff 157 = .ok (.getfield 65, 3) := by decide +kernel
theorem dX10_diff_160 : decode cX10_diff 160 = .ok (.iload_n 3, 1) := by decide +kernel
theorem dX10_diff_161 : decode cX10_diff 161 = .ok (.iaload, 1) := by decide +kernel
theorem dX10_diff_162 : decode cX10_diff 162 = .ok (.iastore, 1) := by decide +kernel
theorem dX10_diff_163 : decode cX10_diff 163 = .ok (.aload_n 0, 1) := by decide +kernel
theorem dX10_diff_164 : decode cX10_diff 164 = .ok (.getfield 89, 3) := by decide +kernel
theorem dX10_diff_167 : decode cX10_diff 167 = .ok (.iload_n 3, 1) := by decide +kernel
theorem dX10_diff_168 : decode cX10_diff 168 = .ok (.aload_n 0, 1) := by decide +kernel
theorem dX10_diff_169 : decode cX10_diff 169 = .ok (.getfield 68, 3) := by decide +kernel
theorem dX10_diff_172 : decode cX10_diff 172 = .ok (.iload_n 3, 1) := by decide +kernel
theorem dX10_diff_173 : decode cX10_diff 173 = .ok (.iaload, 1) := by decide +kernel
theorem dX10_diff_174 : decode cX10_diff 174 = .ok (.iastore, 1) := by decide +kernel
theorem dX10_diff_175 : decode cX10_diff 175 = .ok (.iinc 3 1, 3) := by decide +kernel
theorem dX10_diff_178 : decode cX10_diff 178 = .ok (.goto (-33), 3) := by decide +kernel
theorem dX10_diff_181 : decode cX10_diff 181 = .ok (.aload_n 0, 1) := by decide +kernel
theorem dX10_diff_182 : decode cX10_diff 182 = .ok (.iconst 1, 1) := by decide +kernel
theorem dX10_diff_183 : decode cX10_diff 183 = .ok (.putfield 192, 3) := by decide +kernel
theorem dX10_diff_186 : decode cX10_diff 186 = .ok (.aload_n 0, 1) := by decide +kernel
theorem dX10_diff_187 : decode cX10_diff 187 = .ok (.getfield 196, 3) := by decide +kernel
theorem dX10_diff_190 : decode cX10_diff 190 = .ok (.ireturn, 1) := by decide +kernel
variable {l : Launch} {N0 : Nat} {D : va_G} {cI cC cL cD cII cTr cTm cIt cB : ClassId} {F : Nat → Option va_E} {ql : Nat → Nat}
theorem i_X7_diff_X3 : ∀ w ∈ u_ws RX3 TX3 9, w ∈ wsX7_diff := by decide +kernel
theorem i_X7_diff_X7 : ∀ w ∈ u_ws RX7 TX7 10, w ∈ wsX7_diff := by decide +kernel
theorem k1451_X7_diff {n : Nat} (hn : N0 + 231 ≤ n) (h0 : F N0 = some (.inr (9, [.ref (N0 + 1), .ref (N0 + 2), .ref (N0 + 11), .ref (N0 + 13), .ref (N0 + 63), .ref (N0 + 65), .ref (N0 + 85), .int (-1), .int (-1), .int 32]))) (h1 : F (N0 + 1) = some (.inl (cTr, 3, .inr (.inr (.inr (.inr (va_up (va_up (va_up (fun _ => none) 0 (some (N0 + 143))) 1 (some (N0 + 150))) 2 (some (N0 + 157))))))))) (h2 : F (N0 + 65) = some (.inr (5, [.int 0, .ref (N0 + 66), .ref (N0 + 73), .ref (N0 + 80), .ref (N0 + 81), .ref (N0 + 82), .ref (N0 + 83), .ref (N0 + 84), .int 0]))) (h3 : F (N0 + 143) = some (.inr (7, [.ref (N0 + 144), .ref (N0 + 145), .ref (N0 + 146), .ref (N0 + 147), .ref (N0 + 148), .ref (N0 + 149), .int 1]))) (h4 : F (N0 + 66) = some (.inr (7, [.ref (N0 + 67), .ref (N0 + 68), .ref (N0 + 69), .ref (N0 + 70), .ref (N0 + 71), .ref (N0 + 72), .int 1]))) (h5 : F (N0 + 144) = some (.inl (cC, 20, .inl (upd (fun _ => 0) 0 97)))) (h6 : F (N0 + 67) = some (.inl (cC, 20, .inl (upd (fun _ => 0) 0 97)))) (h7 : F (N0 + 145) = some (.inl (cI, 20, .inl (fun _ => 0)))) (h8 : F (N0 + 68) = some (.inl (cI, 20, .inl (fun _ => 0)))) (h9 : F (N0 + 146) = some (.inl (cI, 20, .inl (fun _ => 0)))) (h10 : F (N0 + 69) = some (.inl (cI, 20, .inl (fun _ => 0)))) (h11 : F (N0 + 147) = some (.inl (cI, 20, .inl (upd (fun _ => 0) 0 (-1))))) (h12 : F (N0 + 70) = some (.inl (cI, 20, .inl (upd (fun _ => 0) 0 (-1))))) (h13 : F (N0 + 73) = some (.inr (7, [.ref (N0 + 74), .ref (N0 + 75), .ref (N0 + 76), .ref (N0 + 77), .ref (N0 + 78), .ref (N0 + 79), .int 1]))) (h14 : F (N0 + 74) = some (.inl (cC, 20, .inl (upd (fun _ => 0) 0 97)))) (h15 : F (N0 + 75) = some (.inl (cI, 20, .inl (fun _ => 0)))) (h16 : F (N0 + 76) = some (.inl (cI, 20, .inl (fun _ => 0)))) (h17 : F (N0 + 77) = some (.inl (cI, 20, .inl (upd (fun _ => 0) 0 (-1))))) (h18 : F (N0 + 13) = some (.inr (3, [.ref (N0 + 14), .ref (N0 + 35), .ref (N0 + 57), .ref (N0 + 58), .ref (N0 + 59), .ref (N0 + 60), .int 0, .int 0, .ref (N0 + 61), .ref (N0 + 62)]))) (h19 : F (N0 + 57) = some (.inl (cI, 20, .inl (fun _ => 0)))) (h20 : F (N0 + 58) = some (.inl (cI, 20, .inl (fun _ => 0)))) (h21 : F (N0 + 35) = some (.inl (cII, 21, .inr (.inr (.inr (.inr (fun j => if j < 21 then some ((N0 + 36) + j) else none))))))) (h22 : F (N0 + 36) = some (.inl (cI, 21, .inl (fun _ => 0)))) (h23 : F (N0 + 14) = some (.inl (cII, 20, .inr (.inr (.inr (.inr (fun j => if j < 20 then some ((N0 + 15) + j) else none))))))) (h24 : F (N0 + 15) = some (.inl (cI, 20, .inl (fun _ => 0)))) (h25 : F (N0 + 61) = some (.inl (cI, 20, .inl (fun _ => 0)))) (h26 : F (N0 + 62) = some (.inl (cI, 20, .inl (fun _ => 0)))) (h27 : F (N0 + 80) = some (.inl (cI, 20, .inl (fun _ => 0)))) (h28 : F (N0 + 81) = some (.inl (cI, 20, .inl (fun _ => 0)))) : Met l yX7_diff wsX7_diff ({ frames := 5, cells := 0, slots := 0, locals := 120 }) (va_Pc [.ref N0, .int 0, .int 0] (fP N0 D vwCl (fty cI cC cL cD cII cTr cTm cIt cB) (fen ql) F n)) (fQi N0 D vwCl (fty cI cC cL cD cII cTr cTm cIt cB) (fun (r : Int32) (_ : Unit) => r = 0) (fun _ => (fu (fu (fu (fu (fu (fu (fu (fu (fu (fu (fu (fu (fu (fu (fu (fu (fu (fu (fu (fu F (N0 + 67) (.inl (cC, 20, .inl (upd (fun _ => 0) 0 97)))) (N0 + 68) (.inl (cI, 20, .inl (fun _ => 0)))) (N0 + 69) (.inl (cI, 20, .inl (fun _ => 0)))) (N0 + 70) (.inl (cI, 20, .inl (upd (fun _ => 0) 0 (-1))))) (N0 + 66) (.inr (7, [.ref (N0 + 67), .ref (N0 + 68), .ref (N0 + 69), .ref (N0 + 70), .ref (N0 + 71), .ref (N0 + 72), .int 1]))) (N0 + 74) (.inl (cC, 20, .inl (upd (fun _ => 0) 0 97)))) (N0 + 75) (.inl (cI, 20, .inl (fun _ => 0)))) (N0 + 76) (.inl (cI, 20, .inl (fun _ => 0)))) (N0 + 77) (.inl (cI, 20, .inl (upd (fun _ => 0) 0 (-1))))) (N0 + 73) (.inr (7, [.ref (N0 + 74), .ref (N0 + 75), .ref (N0 + 76), .ref (N0 + 77), .ref (N0 + 78), .ref (N0 + 79), .int 1]))) (N0 + 57) (.inl (cI, 20, .inl (upd (fun _ => 0) 0 1)))) (N0 + 58) (.inl (cI, 20, .inl (upd (fun _ => 0) 0 1)))) (N0 + 15) (.inl (cI, 20, .inl (upd (fun _ => 0) 0 0)))) (N0 + 61) (.inl (cI, 20, .inl (upd (upd (upd (upd (upd (upd (upd (upd (upd (upd (upd (upd (upd (upd (upd (upd (upd (upd (upd (upd (upd (fun _ => 0) 0 (-1)) 1 (-1)) 2 (-1)) 3 (-1)) 4 (-1)) 5 (-1)) 6 (-1)) 7 (-1)) 8 (-1)) 9 (-1)) 10 (-1)) 11 (-1)) 12 (-1)) 13 (-1)) 14 (-1)) 15 (-1)) 16 (-1)) 17 (-1)) 18 (-1)) 19 (-1)) 0 0)))) (N0 + 62) (.inl (cI, 20, .inl (upd (upd (upd (upd (upd (upd (upd (upd (upd (upd (upd (upd (upd (upd (upd (upd (upd (upd (upd (upd (upd (fun _ => 0) 0 (-1)) 1 (-1)) 2 (-1)) 3 (-1)) 4 (-1)) 5 (-1)) 6 (-1)) 7 (-1)) 8 (-1)) 9 (-1)) 10 (-1)) 11 (-1)) 12 (-1)) 13 (-1)) 14 (-1)) 15 (-1)) 16 (-1)) 17 (-1)) 18 (-1)) 19 (-1)) 0 0)))) (N0 + 13) (.inr (3, [.ref (N0 + 14), .ref (N0 + 35), .ref (N0 + 57), .ref (N0 + 58), .ref (N0 + 59), .ref (N0 + 60), .int 0, .int 0, .ref (N0 + 61), .ref (N0 + 62)]))) (N0 + 36) (.inl (cI, 21, .inl (upd (upd (fun _ => 0) 0 0) 0 0)))) (N0 + 80) (.inl (cI, 20, .inl (upd (upd (upd (upd (upd (upd (upd (upd (upd (upd (upd (upd (upd (upd (upd (upd (upd (upd (upd (upd (upd (fun _ => 0) 0 (-1)) 1 (-1)) 2 (-1)) 3 (-1)) 4 (-1)) 5 (-1)) 6 (-1)) 7 (-1)) 8 (-1)) 9 (-1)) 10 (-1)) 11 (-1)) 12 (-1)) 13 (-1)) 14 (-1)) 15 (-1)) 16 (-1)) 17 (-1)) 18 (-1)) 19 (-1)) 0 0)))) (N0 + 81) (.inl (cI, 20, .inl (upd (upd (upd (upd (upd (upd (upd (upd (upd (upd (upd (upd (upd (upd (upd (upd (upd (upd (upd (upd (upd (fun _ => 0) 0 (-1)) 1 (-1)) 2 (-1)) 3 (-1)) 4 (-1)) 5 (-1)) 6 (-1)) 7 (-1)) 8 (-1)) 9 (-1)) 10 (-1)) 11 (-1)) 12 (-1)) 13 (-1)) 14 (-1)) 15 (-1)) 16 (-1)) 17 (-1)) 18 (-1)) 19 (-1)) 0 0)))) (N0 + 65) (.inr (5, [.int 1, .ref (N0 + 66), .ref (N0 + 73), .ref (N0 + 80), .ref (N0 + 81), .ref (N0 + 82), .ref (N0 + 83), .ref (N0 + 84), .int 0])))) (fun _ => n)) 0 0 (fA N0) := by
  refine fx_start 5 rfl rfl (Nat.le_of_ble_eq_true rfl) ?_ rfl
  intro p e s m below meth c ls S hr hlocks hin hG hl
  have hl : lv_has ls 5 [(0, .ref N0), (1, .int 0), (2, .int 0)] := hl
  have lt_h0 := hG.1.lt h0
  have lt_h1 := hG.1.lt h1
  have lt_h2 := hG.1.lt h2
  have lt_h3 := hG.1.lt h3
  have lt_h4 := hG.1.lt h4
  have lt_h5 := hG.1.lt h5
  have lt_h6 := hG.1.lt h6
  have lt_h7 := hG.1.lt h7
  have lt_h8 := hG.1.lt h8
  have lt_h9 := hG.1.lt h9
  have lt_h10 := hG.1.lt h10
  have lt_h11 := hG.1.lt h11
  have lt_h12 := hG.1.lt h12
  have lt_h13 := hG.1.lt h13
  have lt_h14 := hG.1.lt h14
  have lt_h15 := hG.1.lt h15
  have lt_h16 := hG.1.lt h16
  have lt_h17 := hG.1.lt h17
  have lt_h18 := hG.1.lt h18
  have lt_h19 := hG.1.lt h19
  have lt_h20 := hG.1.lt h20
  have lt_h21 := hG.1.lt h21
  have lt_h22 := hG.1.lt h22
  have lt_h23 := hG.1.lt h23
  have lt_h24 := hG.1.lt h24
  have lt_h25 := hG.1.lt h25
  have lt_h26 := hG.1.lt h26
  have lt_h27 := hG.1.lt h27
  have lt_h28 := hG.1.lt h28
  refine lv_aload_n S.1 S.2.1 dX7_diff_0 rfl (lv_at hl 0 rfl) ?_
  refine lv_iload_n S.1 S.2.1 dX7_diff_1 rfl (lv_at hl 1 rfl) ?_
  refine fx_cVr (As := [.int 0]) (rest := []) S hG (k26_X7_treeAt (by omega) h0 h1) h0 rfl (cwV 1 S.2.2.2.2 gX7_diff_X7_treeAt rfl rfl rfl (by decide +kernel) ⟨Nat.le_of_ble_eq_true rfl, Nat.le_of_ble_eq_true rfl⟩) rfl hl.1 rfl (Nat.le_of_ble_eq_true rfl) dX7_diff_2 ⟨Nat.le_of_ble_eq_true rfl, Nat.le_of_ble_eq_true rfl⟩ (fun rv_1 _ H locs hp hG => ?_)
  subst rv_1
  refine lv_astore_n (lv' := [(3, .ref (N0 + 143)), (0, .ref N0), (1, .int 0), (2, .int 0)]) S.1 S.2.1 dX7_diff_5 rfl hl (by decide) rfl (fun ls hl => ?_)
  refine lv_aload_n S.1 S.2.1 dX7_diff_6 rfl (lv_at hl 1 rfl) ?_
  refine lv_iload_n S.1 S.2.1 dX7_diff_7 rfl (lv_at hl 3 rfl) ?_
  refine fx_cVr (As := [.int 0]) (rest := []) S hG (k26_X7_treeAt (by omega) h0 h1) h0 rfl (cwV 1 S.2.2.2.2 gX7_diff_X7_treeAt rfl rfl rfl (by decide +kernel) ⟨Nat.le_of_ble_eq_true rfl, Nat.le_of_ble_eq_true rfl⟩) rfl hl.1 rfl (Nat.le_of_ble_eq_true rfl) dX7_diff_8 ⟨Nat.le_of_ble_eq_true rfl, Nat.le_of_ble_eq_true rfl⟩ (fun rv_2 _ H locs hp hG => ?_)
  subst rv_2
  refine lv_astore (lv' := [(4, .ref (N0 + 143)), (3, .ref (N0 + 143)), (0, .ref N0), (1, .int 0), (2, .int 0)]) S.1 S.2.1 dX7_diff_11 hl (by decide) rfl (fun ls hl => ?_)
  refine lv_aload_n S.1 S.2.1 dX7_diff_13 rfl (lv_at hl 2 rfl) ?_
  refine gx_get (C := RX7) (T := TX7) (N := 10) S hG h0 i_X7_diff_X7 rfl 5 (by decide) (by decide +kernel) rfl dX7_diff_14 ?_
  refine lv_aload_n S.1 S.2.1 dX7_diff_17 rfl (lv_at hl 1 rfl) ?_
  refine lv_aload S.1 S.2.1 dX7_diff_18 (lv_at hl 0 rfl) ?_
  refine lv_aload_n S.1 S.2.1 dX7_diff_20 rfl (lv_at hl 2 rfl) ?_
  refine gx_get (C := RX7) (T := TX7) (N := 10) S hG h0 i_X7_diff_X7 rfl 3 (by decide) (by decide +kernel) rfl dX7_diff_21 ?_
  refine fx_cVv (As := [.ref (N0 + 143), .ref (N0 + 143), .ref (N0 + 13)]) (rest := []) S hG (k1450_X3_compute (by omega) h2 h3 h4 h5 h6 h7 h8 h9 h10 h11 h12 h13 h14 h15 h16 h17 h18 h19 h20 h21 h22 h23 h24 h25 h26 h27 h28) h2 rfl (cwV 3 S.2.2.2.2 gX7_diff_X3_compute rfl rfl rfl (by decide +kernel) ⟨Nat.le_of_ble_eq_true rfl, Nat.le_of_ble_eq_true rfl⟩) rfl hl.1 rfl (Nat.le_of_ble_eq_true rfl) dX7_diff_24 ⟨Nat.le_of_ble_eq_true rfl, Nat.le_of_ble_eq_true rfl⟩ (fun _ H locs hp hG => ?_)
  refine lv_aload_n S.1 S.2.1 dX7_diff_27 rfl (lv_at hl 2 rfl) ?_
  refine gx_get (C := RX7) (T := TX7) (N := 10) S hG (fu_at (by omega) (fu_at (by omega) (fu_at (by omega) (fu_at (by omega) (fu_at (by omega) (fu_at (by omega) (fu_at (by omega) (fu_at (by omega) (fu_at (by omega) (fu_at (by omega) (fu_at (by omega) (fu_at (by omega) (fu_at (by omega) (fu_at (by omega) (fu_at (by omega) (fu_at (by omega) (fu_at (by omega) (fu_at (by omega) (fu_at (by omega) (fu_at (by omega) h0)))))))))))))))))))) i_X7_diff_X7 rfl 5 (by decide) (by decide +kernel) rfl dX7_diff_28 ?_
  refine gx_get (C := RX3) (T := TX3) (N := 9) S hG fu_s i_X7_diff_X3 rfl 8 (by decide) (by decide +kernel) rfl dX7_diff_31 ?_
  exact fx_iret S hr hlocks () hG (rfl) dX7_diff_34
theorem k1452_L_diff {n : Nat} (hn : N0 + 231 ≤ n) (h0 : F N0 = some (.inr (9, [.ref (N0 + 1), .ref (N0 + 2), .ref (N0 + 11), .ref (N0 + 13), .ref (N0 + 63), .ref (N0 + 65), .ref (N0 + 85), .int (-1), .int (-1), .int 32]))) (h1 : F (N0 + 1) = some (.inl (cTr, 3, .inr (.inr (.inr (.inr (va_up (va_up (va_up (fun _ => none) 0 (some (N0 + 143))) 1 (some (N0 + 150))) 2 (some (N0 + 157))))))))) (h2 : F (N0 + 65) = some (.inr (5, [.int 0, .ref (N0 + 66), .ref (N0 + 73), .ref (N0 + 80), .ref (N0 + 81), .ref (N0 + 82), .ref (N0 + 83), .ref (N0 + 84), .int 0]))) (h3 : F (N0 + 143) = some (.inr (7, [.ref (N0 + 144), .ref (N0 + 145), .ref (N0 + 146), .ref (N0 + 147), .ref (N0 + 148), .ref (N0 + 149), .int 1]))) (h4 : F (N0 + 66) = some (.inr (7, [.ref (N0 + 67), .ref (N0 + 68), .ref (N0 + 69), .ref (N0 + 70), .ref (N0 + 71), .ref (N0 + 72), .int 1]))) (h5 : F (N0 + 144) = some (.inl (cC, 20, .inl (upd (fun _ => 0) 0 97)))) (h6 : F (N0 + 67) = some (.inl (cC, 20, .inl (upd (fun _ => 0) 0 97)))) (h7 : F (N0 + 145) = some (.inl (cI, 20, .inl (fun _ => 0)))) (h8 : F (N0 + 68) = some (.inl (cI, 20, .inl (fun _ => 0)))) (h9 : F (N0 + 146) = some (.inl (cI, 20, .inl (fun _ => 0)))) (h10 : F (N0 + 69) = some (.inl (cI, 20, .inl (fun _ => 0)))) (h11 : F (N0 + 147) = some (.inl (cI, 20, .inl (upd (fun _ => 0) 0 (-1))))) (h12 : F (N0 + 70) = some (.inl (cI, 20, .inl (upd (fun _ => 0) 0 (-1))))) (h13 : F (N0 + 73) = some (.inr (7, [.ref (N0 + 74), .ref (N0 + 75), .ref (N0 + 76), .ref (N0 + 77), .ref (N0 + 78), .ref (N0 + 79), .int 1]))) (h14 : F (N0 + 74) = some (.inl (cC, 20, .inl (upd (fun _ => 0) 0 97)))) (h15 : F (N0 + 75) = some (.inl (cI, 20, .inl (fun _ => 0)))) (h16 : F (N0 + 76) = some (.inl (cI, 20, .inl (fun _ => 0)))) (h17 : F (N0 + 77) = some (.inl (cI, 20, .inl (upd (fun _ => 0) 0 (-1))))) (h18 : F (N0 + 13) = some (.inr (3, [.ref (N0 + 14), .ref (N0 + 35), .ref (N0 + 57), .ref (N0 + 58), .ref (N0 + 59), .ref (N0 + 60), .int 0, .int 0, .ref (N0 + 61), .ref (N0 + 62)]))) (h19 : F (N0 + 57) = some (.inl (cI, 20, .inl (fun _ => 0)))) (h20 : F (N0 + 58) = some (.inl (cI, 20, .inl (fun _ => 0)))) (h21 : F (N0 + 35) = some (.inl (cII, 21, .inr (.inr (.inr (.inr (fun j => if j < 21 then some ((N0 + 36) + j) else none))))))) (h22 : F (N0 + 36) = some (.inl (cI, 21, .inl (fun _ => 0)))) (h23 : F (N0 + 14) = some (.inl (cII, 20, .inr (.inr (.inr (.inr (fun j => if j < 20 then some ((N0 + 15) + j) else none))))))) (h24 : F (N0 + 15) = some (.inl (cI, 20, .inl (fun _ => 0)))) (h25 : F (N0 + 61) = some (.inl (cI, 20, .inl (fun _ => 0)))) (h26 : F (N0 + 62) = some (.inl (cI, 20, .inl (fun _ => 0)))) (h27 : F (N0 + 80) = some (.inl (cI, 20, .inl (fun _ => 0)))) (h28 : F (N0 + 81) = some (.inl (cI, 20, .inl (fun _ => 0)))) (h29 : F (N0 + 229) = some (.inl (cL, 1, .inr (.inl (fun _ => 0))))) : Met l yL_diff wsL_diff ({ frames := 6, cells := 0, slots := 0, locals := 144 }) (va_Pc [.ref N0, .int 0, .int 0, .ref (N0 + 229)] (fP N0 D vwCl (fty cI cC cL cD cII cTr cTm cIt cB) (fen ql) F n)) (fQi N0 D vwCl (fty cI cC cL cD cII cTr cTm cIt cB) (fun (r : Int32) (_ : Unit) => r = 0) (fun _ => (fu (fu (fu (fu (fu (fu (fu (fu (fu (fu (fu (fu (fu (fu (fu (fu (fu (fu (fu (fu (fu F (N0 + 67) (.inl (cC, 20, .inl (upd (fun _ => 0) 0 97)))) (N0 + 68) (.inl (cI, 20, .inl (fun _ => 0)))) (N0 + 69) (.inl (cI, 20, .inl (fun _ => 0)))) (N0 + 70) (.inl (cI, 20, .inl (upd (fun _ => 0) 0 (-1))))) (N0 + 66) (.inr (7, [.ref (N0 + 67), .ref (N0 + 68), .ref (N0 + 69), .ref (N0 + 70), .ref (N0 + 71), .ref (N0 + 72), .int 1]))) (N0 + 74) (.inl (cC, 20, .inl (upd (fun _ => 0) 0 97)))) (N0 + 75) (.inl (cI, 20, .inl (fun _ => 0)))) (N0 + 76) (.inl (cI, 20, .inl (fun _ => 0)))) (N0 + 77) (.inl (cI, 20, .inl (upd (fun _ => 0) 0 (-1))))) (N0 + 73) (.inr (7, [.ref (N0 + 74), .ref (N0 + 75), .ref (N0 + 76), .ref (N0 + 77), .ref (N0 + 78), .ref (N0 + 79), .int 1]))) (N0 + 57) (.inl (cI, 20, .inl (upd (fun _ => 0) 0 1)))) (N0 + 58) (.inl (cI, 20, .inl (upd (fun _ => 0) 0 1)))) (N0 + 15) (.inl (cI, 20, .inl (upd (fun _ => 0) 0 0)))) (N0 + 61) (.inl (cI, 20, .inl (upd (upd (upd (upd (upd (upd (upd (upd (upd (upd (upd (upd (upd (upd (upd (upd (upd (upd (upd (upd (upd (fun _ => 0) 0 (-1)) 1 (-1)) 2 (-1)) 3 (-1)) 4 (-1)) 5 (-1)) 6 (-1)) 7 (-1)) 8 (-1)) 9 (-1)) 10 (-1)) 11 (-1)) 12 (-1)) 13 (-1)) 14 (-1)) 15 (-1)) 16 (-1)) 17 (-1)) 18 (-1)) 19 (-1)) 0 0)))) (N0 + 62) (.inl (cI, 20, .inl (upd (upd (upd (upd (upd (upd (upd (upd (upd (upd (upd (upd (upd (upd (upd (upd (upd (upd (upd (upd (upd (fun _ => 0) 0 (-1)) 1 (-1)) 2 (-1)) 3 (-1)) 4 (-1)) 5 (-1)) 6 (-1)) 7 (-1)) 8 (-1)) 9 (-1)) 10 (-1)) 11 (-1)) 12 (-1)) 13 (-1)) 14 (-1)) 15 (-1)) 16 (-1)) 17 (-1)) 18 (-1)) 19 (-1)) 0 0)))) (N0 + 13) (.inr (3, [.ref (N0 + 14), .ref (N0 + 35), .ref (N0 + 57), .ref (N0 + 58), .ref (N0 + 59), .ref (N0 + 60), .int 0, .int 0, .ref (N0 + 61), .ref (N0 + 62)]))) (N0 + 36) (.inl (cI, 21, .inl (upd (upd (fun _ => 0) 0 0) 0 0)))) (N0 + 80) (.inl (cI, 20, .inl (upd (upd (upd (upd (upd (upd (upd (upd (upd (upd (upd (upd (upd (upd (upd (upd (upd (upd (upd (upd (upd (fun _ => 0) 0 (-1)) 1 (-1)) 2 (-1)) 3 (-1)) 4 (-1)) 5 (-1)) 6 (-1)) 7 (-1)) 8 (-1)) 9 (-1)) 10 (-1)) 11 (-1)) 12 (-1)) 13 (-1)) 14 (-1)) 15 (-1)) 16 (-1)) 17 (-1)) 18 (-1)) 19 (-1)) 0 0)))) (N0 + 81) (.inl (cI, 20, .inl (upd (upd (upd (upd (upd (upd (upd (upd (upd (upd (upd (upd (upd (upd (upd (upd (upd (upd (upd (upd (upd (fun _ => 0) 0 (-1)) 1 (-1)) 2 (-1)) 3 (-1)) 4 (-1)) 5 (-1)) 6 (-1)) 7 (-1)) 8 (-1)) 9 (-1)) 10 (-1)) 11 (-1)) 12 (-1)) 13 (-1)) 14 (-1)) 15 (-1)) 16 (-1)) 17 (-1)) 18 (-1)) 19 (-1)) 0 0)))) (N0 + 65) (.inr (5, [.int 1, .ref (N0 + 66), .ref (N0 + 73), .ref (N0 + 80), .ref (N0 + 81), .ref (N0 + 82), .ref (N0 + 83), .ref (N0 + 84), .int 0]))) (N0 + 229) (.inl (cL, 1, .inr (.inl (vp_updL (fun _ => 0) 0 0)))))) (fun _ => n)) 0 0 (fA N0) := by
  refine fx_startW (hh := [(0, 10, 13, 19)]) 5 rfl rfl (Nat.le_of_ble_eq_true rfl) ?_ rfl
  intro p e s m below meth c ls S htab hr hlocks hG hl
  have hl : lv_has ls 5 [(0, .ref N0), (1, .int 0), (2, .int 0), (3, .ref (N0 + 229))] := hl
  have lt_h0 := hG.1.lt h0
  have lt_h1 := hG.1.lt h1
  have lt_h2 := hG.1.lt h2
  have lt_h3 := hG.1.lt h3
  have lt_h4 := hG.1.lt h4
  have lt_h5 := hG.1.lt h5
  have lt_h6 := hG.1.lt h6
  have lt_h7 := hG.1.lt h7
  have lt_h8 := hG.1.lt h8
  have lt_h9 := hG.1.lt h9
  have lt_h10 := hG.1.lt h10
  have lt_h11 := hG.1.lt h11
  have lt_h12 := hG.1.lt h12
  have lt_h13 := hG.1.lt h13
  have lt_h14 := hG.1.lt h14
  have lt_h15 := hG.1.lt h15
  have lt_h16 := hG.1.lt h16
  have lt_h17 := hG.1.lt h17
  have lt_h18 := hG.1.lt h18
  have lt_h19 := hG.1.lt h19
  have lt_h20 := hG.1.lt h20
  have lt_h21 := hG.1.lt h21
  have lt_h22 := hG.1.lt h22
  have lt_h23 := hG.1.lt h23
  have lt_h24 := hG.1.lt h24
  have lt_h25 := hG.1.lt h25
  have lt_h26 := hG.1.lt h26
  have lt_h27 := hG.1.lt h27
  have lt_h28 := hG.1.lt h28
  have lt_h29 := hG.1.lt h29
  refine lv_aload_n S.1 S.2.1 dL_diff_0 rfl (lv_at hl 3 rfl) ?_
  refine lv_iconst (v := 0) S.1 S.2.1 dL_diff_1 (by decide) ?_
  refine lv_aload_n S.1 S.2.1 dL_diff_2 rfl (lv_at hl 0 rfl) ?_
  refine lv_iload_n S.1 S.2.1 dL_diff_3 rfl (lv_at hl 1 rfl) ?_
  refine lv_iload_n S.1 S.2.1 dL_diff_4 rfl (lv_at hl 2 rfl) ?_
  refine fx_cVi (As := [.int 0, .int 0]) (rest := [.int 0, .ref (N0 + 229)]) S hG (k1451_X7_diff (by omega) h0 h1 h2 h3 h4 h5 h6 h7 h8 h9 h10 h11 h12 h13 h14 h15 h16 h17 h18 h19 h20 h21 h22 h23 h24 h25 h26 h27 h28) h0 rfl (cwV 2 S.2.2.2.2 gL_diff_X7_diff rfl rfl rfl (by decide +kernel) ⟨Nat.le_of_ble_eq_true rfl, Nat.le_of_ble_eq_true rfl⟩) rfl hl.1 rfl (Nat.le_of_ble_eq_true rfl) dL_diff_5 ⟨Nat.le_of_ble_eq_true rfl, Nat.le_of_ble_eq_true rfl⟩ (fun rv_1 _ H locs hp hG => ?_)
  subst rv_1
  refine lv_i2l (v := 0) S.1 S.2.1 dL_diff_8 (by decide) ?_
  refine gx_last (f' := vp_updL (fun _ => 0) 0 0) S hG 2 (fu_at (by omega) (fu_at (by omega) (fu_at (by omega) (fu_at (by omega) (fu_at (by omega) (fu_at (by omega) (fu_at (by omega) (fu_at (by omega) (fu_at (by omega) (fu_at (by omega) (fu_at (by omega) (fu_at (by omega) (fu_at (by omega) (fu_at (by omega) (fu_at (by omega) (fu_at (by omega) (fu_at (by omega) (fu_at (by omega) (fu_at (by omega) (fu_at (by omega) h29)))))))))))))))))))) rfl (fin_l (by decide)) dL_diff_9 rfl (fun H locs hG => ?_)
  refine lv_goto (tgt := 17) S.1 S.2.1 dL_diff_10 (by decide) ?_
  refine lv_iconst (v := 0) S.1 S.2.1 dL_diff_17 (by decide) ?_
  exact fx_iret S hr hlocks () hG (rfl) dL_diff_18
theorem k1453_X9_sets {n : Nat} (hn : N0 + 231 ≤ n) (h0 : F (N0 + 213) = some (.inr (11, [.ref (N0 + 214), .ref (N0 + 215), .ref (N0 + 216), .ref (N0 + 217), .int 1]))) (h1 : F (N0 + 214) = some (.inl (cI, 20, .inl (fun _ => 0)))) (h2 : F (N0 + 215) = some (.inl (cI, 20, .inl (fun _ => 0)))) (h3 : F (N0 + 216) = some (.inl (cI, 20, .inl (fun _ => 0)))) (h4 : F (N0 + 217) = some (.inl (cI, 20, .inl (fun _ => 0)))) : Met l yX9_sets wsX9_sets ({ frames := 0, cells := 0, slots := 0, locals := 0 }) (va_Pc [.ref (N0 + 213), .int 0, .int 97, .int 0, .int 0, .int (-1)] (fP N0 D vwCl (fty cI cC cL cD cII cTr cTm cIt cB) (fen ql) F n)) (fQv N0 D vwCl (fty cI cC cL cD cII cTr cTm cIt cB) (fun (_ : Unit) => True) (fun _ => (fu (fu (fu (fu F (N0 + 214) (.inl (cI, 20, .inl (upd (fun _ => 0) 0 97)))) (N0 + 215) (.inl (cI, 20, .inl (upd (fun _ => 0) 0 0)))) (N0 + 216) (.inl (cI, 20, .inl (upd (fun _ => 0) 0 0)))) (N0 + 217) (.inl (cI, 20, .inl (upd (fun _ => 0) 0 (-1)))))) (fun _ => n)) 0 0 (fA N0) := by
  refine fx_start 6 rfl rfl (Nat.le_of_ble_eq_true rfl) ?_ rfl
  intro p e s m below meth c ls S hr hlocks hin hG hl
  have hl : lv_has ls 6 [(0, .ref (N0 + 213)), (1, .int 0), (2, .int 97), (3, .int 0), (4, .int 0), (5, .int (-1))] := hl
  have lt_h0 := hG.1.lt h0
  have lt_h1 := hG.1.lt h1
  have lt_h2 := hG.1.lt h2
  have lt_h3 := hG.1.lt h3
  have lt_h4 := hG.1.lt h4
  refine lv_aload_n S.1 S.2.1 dX9_sets_0 rfl (lv_at hl 0 rfl) ?_
  refine gx_get (C := RX9) (T := TX9) (N := 5) S hG h0 i_X9_sets_X9 rfl 0 (by decide) (by decide +kernel) rfl dX9_sets_1 ?_
  refine lv_iload_n S.1 S.2.1 dX9_sets_4 rfl (lv_at hl 1 rfl) ?_
  refine lv_iload_n S.1 S.2.1 dX9_sets_5 rfl (lv_at hl 2 rfl) ?_
  refine gx_iast (f' := upd (fun _ => 0) 0 97) S hG 0 h1 rfl (fin_l (by decide)) dX9_sets_6 (rfl) (fun H locs hG => ?_)
  refine lv_aload_n S.1 S.2.1 dX9_sets_7 rfl (lv_at hl 0 rfl) ?_
  refine gx_get (C := RX9) (T := TX9) (N := 5) S hG (fu_at (by omega) h0) i_X9_sets_X9 rfl 1 (by decide) (by decide +kernel) rfl dX9_sets_8 ?_
  refine lv_iload_n S.1 S.2.1 dX9_sets_11 rfl (lv_at hl 1 rfl) ?_
  refine lv_iload_n S.1 S.2.1 dX9_sets_12 rfl (lv_at hl 3 rfl) ?_
  refine gx_iast (f' := upd (fun _ => 0) 0 0) S hG 0 (fu_at (by omega) h2) rfl (fin_l (by decide)) dX9_sets_13 (rfl) (fun H locs hG => ?_)
  refine lv_aload_n S.1 S.2.1 dX9_sets_14 rfl (lv_at hl 0 rfl) ?_
  refine gx_get (C := RX9) (T := TX9) (N := 5) S hG (fu_at (by omega) (fu_at (by omega) h0)) i_X9_sets_X9 rfl 2 (by decide) (by decide +kernel) rfl dX9_sets_15 ?_
  refine lv_iload_n S.1 S.2.1 dX9_sets_18 rfl (lv_at hl 1 rfl) ?_
  refine lv_iload S.1 S.2.1 dX9_sets_19 (lv_at hl 4 rfl) ?_
  refine gx_iast (f' := upd (fun _ => 0) 0 0) S hG 0 (fu_at (by omega) (fu_at (by omega) h3)) rfl (fin_l (by decide)) dX9_sets_21 (rfl) (fun H locs hG => ?_)
  refine lv_aload_n S.1 S.2.1 dX9_sets_22 rfl (lv_at hl 0 rfl) ?_
  refine gx_get (C := RX9) (T := TX9) (N := 5) S hG (fu_at (by omega) (fu_at (by omega) (fu_at (by omega) h0))) i_X9_sets_X9 rfl 3 (by decide) (by decide +kernel) rfl dX9_sets_23 ?_
  refine lv_iload_n S.1 S.2.1 dX9_sets_26 rfl (lv_at hl 1 rfl) ?_
  refine lv_iload S.1 S.2.1 dX9_sets_27 (lv_at hl 5 rfl) ?_
  refine gx_iast (f' := upd (fun _ => 0) 0 (-1)) S hG 0 (fu_at (by omega) (fu_at (by omega) (fu_at (by omega) h4))) rfl (fin_l (by decide)) dX9_sets_29 (rfl) (fun H locs hG => ?_)
  exact fx_vret S hr hlocks () hG trivial dX9_sets_30
theorem k1454_X9_copies {n : Nat} (hn : N0 + 231 ≤ n) (h0 : F (N0 + 166) = some (.inr (11, [.ref (N0 + 167), .ref (N0 + 168), .ref (N0 + 169), .ref (N0 + 170), .int 1]))) (h1 : F (N0 + 213) = some (.inr (11, [.ref (N0 + 214), .ref (N0 + 215), .ref (N0 + 216), .ref (N0 + 217), .int 0]))) (h2 : F (N0 + 167) = some (.inl (cI, 20, .inl (upd (fun _ => 0) 0 97)))) (h3 : F (N0 + 168) = some (.inl (cI, 20, .inl (upd (fun _ => 0) 0 0)))) (h4 : F (N0 + 169) = some (.inl (cI, 20, .inl (upd (fun _ => 0) 0 0)))) (h5 : F (N0 + 170) = some (.inl (cI, 20, .inl (upd (fun _ => 0) 0 (-1))))) (h6 : F (N0 + 214) = some (.inl (cI, 20, .inl (fun _ => 0)))) (h7 : F (N0 + 215) = some (.inl (cI, 20, .inl (fun _ => 0)))) (h8 : F (N0 + 216) = some (.inl (cI, 20, .inl (fun _ => 0)))) (h9 : F (N0 + 217) = some (.inl (cI, 20, .inl (fun _ => 0)))) : Met l yX9_copies wsX9_copies ({ frames := 1, cells := 0, slots := 0, locals := 25 }) (va_Pc [.ref (N0 + 213), .ref (N0 + 166)] (fP N0 D vwCl (fty cI cC cL cD cII cTr cTm cIt cB) (fen ql) F n)) (fQv N0 D vwCl (fty cI cC cL cD cII cTr cTm cIt cB) (fun (_ : Unit) => True) (fun _ => (fu (fu (fu (fu (fu F (N0 + 213) (.inr (11, [.ref (N0 + 214), .ref (N0 + 215), .ref (N0 + 216), .ref (N0 + 217), .int 1]))) (N0 + 214) (.inl (cI, 20, .inl (upd (fun _ => 0) 0 97)))) (N0 + 215) (.inl (cI, 20, .inl (upd (fun _ => 0) 0 0)))) (N0 + 216) (.inl (cI, 20, .inl (upd (fun _ => 0) 0 0)))) (N0 + 217) (.inl (cI, 20, .inl (upd (fun _ => 0) 0 (-1)))))) (fun _ => n)) 0 0 (fA N0) := by
  refine fx_start 3 rfl rfl (Nat.le_of_ble_eq_true rfl) ?_ rfl
  intro p e s m below meth c ls S hr hlocks hin hG hl
  have hl : lv_has ls 3 [(0, .ref (N0 + 213)), (1, .ref (N0 + 166))] := hl
  have lt_h0 := hG.1.lt h0
  have lt_h1 := hG.1.lt h1
  have lt_h2 := hG.1.lt h2
  have lt_h3 := hG.1.lt h3
  have lt_h4 := hG.1.lt h4
  have lt_h5 := hG.1.lt h5
  have lt_h6 := hG.1.lt h6
  have lt_h7 := hG.1.lt h7
  have lt_h8 := hG.1.lt h8
  have lt_h9 := hG.1.lt h9
  refine lv_aload_n S.1 S.2.1 dX9_copies_0 rfl (lv_at hl 0 rfl) ?_
  refine lv_aload_n S.1 S.2.1 dX9_copies_1 rfl (lv_at hl 1 rfl) ?_
  refine gx_get (C := RX9) (T := TX9) (N := 5) S hG h0 i_X9_copies_X9 rfl 4 (by decide) (by decide +kernel) rfl dX9_copies_2 ?_
  refine gx_put (C := RX9) (T := TX9) (N := 5) (ty := .int) (v := .int 1) (fs' := [.ref (N0 + 214), .ref (N0 + 215), .ref (N0 + 216), .ref (N0 + 217), .int 1]) S hG h1 i_X9_copies_X9 rfl 4 (by decide) tyX9 tyX9_ok nmX9 (by decide +kernel) rfl (by decide +kernel) rfl rfl (Nat.le_of_ble_eq_true rfl) rfl dX9_copies_5 (fun H locs hG => ?_)
  refine lv_iconst (v := 0) S.1 S.2.1 dX9_copies_8 (by decide) ?_
  refine lv_istore_n (lv' := [(2, .int 0), (0, .ref (N0 + 213)), (1, .ref (N0 + 166))]) S.1 S.2.1 dX9_copies_9 rfl hl (by decide) rfl (fun ls hl => ?_)
  refine lv_iload_n S.1 S.2.1 dX9_copies_10 rfl (lv_at hl 0 rfl) ?_
  refine lv_aload_n S.1 S.2.1 dX9_copies_11 rfl (lv_at hl 1 rfl) ?_
  refine gx_get (C := RX9) (T := TX9) (N := 5) S hG fu_s i_X9_copies_X9 rfl 4 (by decide) (by decide +kernel) rfl dX9_copies_12 ?_
  refine lv_icmp_ge (tgt := 53) S.1 S.2.1 dX9_copies_15 (by decide) (fun c => absurd c (by decide)) (fun _ => ?_)
  refine lv_aload_n S.1 S.2.1 dX9_copies_18 rfl (lv_at hl 1 rfl) ?_
  refine lv_iload_n S.1 S.2.1 dX9_copies_19 rfl (lv_at hl 0 rfl) ?_
  refine lv_aload_n S.1 S.2.1 dX9_copies_20 rfl (lv_at hl 2 rfl) ?_
  refine gx_get (C := RX9) (T := TX9) (N := 5) S hG (fu_at (by omega) h0) i_X9_copies_X9 rfl 0 (by decide) (by decide +kernel) rfl dX9_copies_21 ?_
  refine lv_iload_n S.1 S.2.1 dX9_copies_24 rfl (lv_at hl 0 rfl) ?_
  refine gx_iald (v := 97) S hG 0 (fu_at (by omega) h2) rfl (fin_l (by decide)) (by decide) dX9_copies_25 ?_
  refine lv_aload_n S.1 S.2.1 dX9_copies_26 rfl (lv_at hl 2 rfl) ?_
  refine gx_get (C := RX9) (T := TX9) (N := 5) S hG (fu_at (by omega) h0) i_X9_copies_X9 rfl 1 (by decide) (by decide +kernel) rfl dX9_copies_27 ?_
  refine lv_iload_n S.1 S.2.1 dX9_copies_30 rfl (lv_at hl 0 rfl) ?_
  refine gx_iald (v := 0) S hG 0 (fu_at (by omega) h3) rfl (fin_l (by decide)) (by decide) dX9_copies_31 ?_
  refine lv_aload_n S.1 S.2.1 dX9_copies_32 rfl (lv_at hl 2 rfl) ?_
  refine gx_get (C := RX9) (T := TX9) (N := 5) S hG (fu_at (by omega) h0) i_X9_copies_X9 rfl 2 (by decide) (by decide +kernel) rfl dX9_copies_33 ?_
  refine lv_iload_n S.1 S.2.1 dX9_copies_36 rfl (lv_at hl 0 rfl) ?_
  refine gx_iald (v := 0) S hG 0 (fu_at (by omega) h4) rfl (fin_l (by decide)) (by decide) dX9_copies_37 ?_
  refine lv_aload_n S.1 S.2.1 dX9_copies_38 rfl (lv_at hl 2 rfl) ?_
  refine gx_get (C := RX9) (T := TX9) (N := 5) S hG (fu_at (by omega) h0) i_X9_copies_X9 rfl 3 (by decide) (by decide +kernel) rfl dX9_copies_39 ?_
  refine lv_iload_n S.1 S.2.1 dX9_copies_42 rfl (lv_at hl 0 rfl) ?_
  refine gx_iald (v := (-1)) S hG 0 (fu_at (by omega) h5) rfl (fin_l (by decide)) (by decide) dX9_copies_43 ?_
  refine fx_cVv (As := [.int 0, .int 97, .int 0, .int 0, .int (-1)]) (rest := []) S hG (k1453_X9_sets (by omega) fu_s (fu_at (by omega) h6) (fu_at (by omega) h7) (fu_at (by omega) h8) (fu_at (by omega) h9)) fu_s rfl (cwV 5 S.2.2.2.2 gX9_copies_X9_sets rfl rfl rfl (by decide +kernel) ⟨Nat.le_of_ble_eq_true rfl, Nat.le_of_ble_eq_true rfl⟩) rfl hl.1 rfl (Nat.le_of_ble_eq_true rfl) dX9_copies_44 ⟨Nat.le_of_ble_eq_true rfl, Nat.le_of_ble_eq_true rfl⟩ (fun _ H locs hp hG => ?_)
  refine lv_iinc (v := 1) (lv' := [(2, .int 1), (0, .ref (N0 + 213)), (1, .ref (N0 + 166))]) S.1 S.2.1 dX9_copies_47 hl (k := 0) rfl (by decide) (by decide) rfl (fun ls hl => ?_)
  refine lv_goto (tgt := 10) S.1 S.2.1 dX9_copies_50 (by decide) ?_
  refine lv_iload_n S.1 S.2.1 dX9_copies_10 rfl (lv_at hl 0 rfl) ?_
  refine lv_aload_n S.1 S.2.1 dX9_copies_11 rfl (lv_at hl 1 rfl) ?_
  refine gx_get (C := RX9) (T := TX9) (N := 5) S hG (fu_at (by omega) (fu_at (by omega) (fu_at (by omega) (fu_at (by omega) fu_s)))) i_X9_copies_X9 rfl 4 (by decide) (by decide +kernel) rfl dX9_copies_12 ?_
  refine lv_icmp_ge (tgt := 53) S.1 S.2.1 dX9_copies_15 (by decide) (fun _ => ?_) (fun c => absurd (by decide) c)
  exact fx_vret S hr hlocks () hG trivial dX9_copies_53
theorem k1455_X9_sets {n : Nat} (hn : N0 + 231 ≤ n) (h0 : F (N0 + 218) = some (.inr (11, [.ref (N0 + 219), .ref (N0 + 220), .ref (N0 + 221), .ref (N0 + 222), .int 1]))) (h1 : F (N0 + 219) = some (.inl (cI, 20, .inl (fun _ => 0)))) (h2 : F (N0 + 220) = some (.inl (cI, 20, .inl (fun _ => 0)))) (h3 : F (N0 + 221) = some (.inl (cI, 20, .inl (fun _ => 0)))) (h4 : F (N0 + 222) = some (.inl (cI, 20, .inl (fun _ => 0)))) : Met l yX9_sets wsX9_sets ({ frames := 0, cells := 0, slots := 0, locals := 0 }) (va_Pc [.ref (N0 + 218), .int 0, .int 97, .int 0, .int 0, .int (-1)] (fP N0 D vwCl (fty cI cC cL cD cII cTr cTm cIt cB) (fen ql) F n)) (fQv N0 D vwCl (fty cI cC cL cD cII cTr cTm cIt cB) (fun (_ : Unit) => True) (fun _ => (fu (fu (fu (fu F (N0 + 219) (.inl (cI, 20, .inl (upd (fun _ => 0) 0 97)))) (N0 + 220) (.inl (cI, 20, .inl (upd (fun _ => 0) 0 0)))) (N0 + 221) (.inl (cI, 20, .inl (upd (fun _ => 0) 0 0)))) (N0 + 222) (.inl (cI, 20, .inl (upd (fun _ => 0) 0 (-1)))))) (fun _ => n)) 0 0 (fA N0) := by
  refine fx_start 6 rfl rfl (Nat.le_of_ble_eq_true rfl) ?_ rfl
  intro p e s m below meth c ls S hr hlocks hin hG hl
  have hl : lv_has ls 6 [(0, .ref (N0 + 218)), (1, .int 0), (2, .int 97), (3, .int 0), (4, .int 0), (5, .int (-1))] := hl
  have lt_h0 := hG.1.lt h0
  have lt_h1 := hG.1.lt h1
  have lt_h2 := hG.1.lt h2
  have lt_h3 := hG.1.lt h3
  have lt_h4 := hG.1.lt h4
  refine lv_aload_n S.1 S.2.1 dX9_sets_0 rfl (lv_at hl 0 rfl) ?_
  refine gx_get (C := RX9) (T := TX9) (N := 5) S hG h0 i_X9_sets_X9 rfl 0 (by decide) (by decide +kernel) rfl dX9_sets_1 ?_
  refine lv_iload_n S.1 S.2.1 dX9_sets_4 rfl (lv_at hl 1 rfl) ?_
  refine lv_iload_n S.1 S.2.1 dX9_sets_5 rfl (lv_at hl 2 rfl) ?_
  refine gx_iast (f' := upd (fun _ => 0) 0 97) S hG 0 h1 rfl (fin_l (by decide)) dX9_sets_6 (rfl) (fun H locs hG => ?_)
  refine lv_aload_n S.1 S.2.1 dX9_sets_7 rfl (lv_at hl 0 rfl) ?_
  refine gx_get (C := RX9) (T := TX9) (N := 5) S hG (fu_at (by omega) h0) i_X9_sets_X9 rfl 1 (by decide) (by decide +kernel) rfl dX9_sets_8 ?_
  refine lv_iload_n S.1 S.2.1 dX9_sets_11 rfl (lv_at hl 1 rfl) ?_
  refine lv_iload_n S.1 S.2.1 dX9_sets_12 rfl (lv_at hl 3 rfl) ?_
  refine gx_iast (f' := upd (fun _ => 0) 0 0) S hG 0 (fu_at (by omega) h2) rfl (fin_l (by decide)) dX9_sets_13 (rfl) (fun H locs hG => ?_)
  refine lv_aload_n S.1 S.2.1 dX9_sets_14 rfl (lv_at hl 0 rfl) ?_
  refine gx_get (C := RX9) (T := TX9) (N := 5) S hG (fu_at (by omega) (fu_at (by omega) h0)) i_X9_sets_X9 rfl 2 (by decide) (by decide +kernel) rfl dX9_sets_15 ?_
  refine lv_iload_n S.1 S.2.1 dX9_sets_18 rfl (lv_at hl 1 rfl) ?_
  refine lv_iload S.1 S.2.1 dX9_sets_19 (lv_at hl 4 rfl) ?_
  refine gx_iast (f' := upd (fun _ => 0) 0 0) S hG 0 (fu_at (by omega) (fu_at (by omega) h3)) rfl (fin_l (by decide)) dX9_sets_21 (rfl) (fun H locs hG => ?_)
  refine lv_aload_n S.1 S.2.1 dX9_sets_22 rfl (lv_at hl 0 rfl) ?_
  refine gx_get (C := RX9) (T := TX9) (N := 5) S hG (fu_at (by omega) (fu_at (by omega) (fu_at (by omega) h0))) i_X9_sets_X9 rfl 3 (by decide) (by decide +kernel) rfl dX9_sets_23 ?_
  refine lv_iload_n S.1 S.2.1 dX9_sets_26 rfl (lv_at hl 1 rfl) ?_
  refine lv_iload S.1 S.2.1 dX9_sets_27 (lv_at hl 5 rfl) ?_
  refine gx_iast (f' := upd (fun _ => 0) 0 (-1)) S hG 0 (fu_at (by omega) (fu_at (by omega) (fu_at (by omega) h4))) rfl (fin_l (by decide)) dX9_sets_29 (rfl) (fun H locs hG => ?_)
  exact fx_vret S hr hlocks () hG trivial dX9_sets_30
theorem k1456_X9_copies {n : Nat} (hn : N0 + 231 ≤ n) (h0 : F (N0 + 166) = some (.inr (11, [.ref (N0 + 167), .ref (N0 + 168), .ref (N0 + 169), .ref (N0 + 170), .int 1]))) (h1 : F (N0 + 218) = some (.inr (11, [.ref (N0 + 219), .ref (N0 + 220), .ref (N0 + 221), .ref (N0 + 222), .int 0]))) (h2 : F (N0 + 167) = some (.inl (cI, 20, .inl (upd (fun _ => 0) 0 97)))) (h3 : F (N0 + 168) = some (.inl (cI, 20, .inl (upd (fun _ => 0) 0 0)))) (h4 : F (N0 + 169) = some (.inl (cI, 20, .inl (upd (fun _ => 0) 0 0)))) (h5 : F (N0 + 170) = some (.inl (cI, 20, .inl (upd (fun _ => 0) 0 (-1))))) (h6 : F (N0 + 219) = some (.inl (cI, 20, .inl (fun _ => 0)))) (h7 : F (N0 + 220) = some (.inl (cI, 20, .inl (fun _ => 0)))) (h8 : F (N0 + 221) = some (.inl (cI, 20, .inl (fun _ => 0)))) (h9 : F (N0 + 222) = some (.inl (cI, 20, .inl (fun _ => 0)))) : Met l yX9_copies wsX9_copies ({ frames := 1, cells := 0, slots := 0, locals := 25 }) (va_Pc [.ref (N0 + 218), .ref (N0 + 166)] (fP N0 D vwCl (fty cI cC cL cD cII cTr cTm cIt cB) (fen ql) F n)) (fQv N0 D vwCl (fty cI cC cL cD cII cTr cTm cIt cB) (fun (_ : Unit) => True) (fun _ => (fu (fu (fu (fu (fu F (N0 + 218) (.inr (11, [.ref (N0 + 219), .ref (N0 + 220), .ref (N0 + 221), .ref (N0 + 222), .int 1]))) (N0 + 219) (.inl (cI, 20, .inl (upd (fun _ => 0) 0 97)))) (N0 + 220) (.inl (cI, 20, .inl (upd (fun _ => 0) 0 0)))) (N0 + 221) (.inl (cI, 20, .inl (upd (fun _ => 0) 0 0)))) (N0 + 222) (.inl (cI, 20, .inl (upd (fun _ => 0) 0 (-1)))))) (fun _ => n)) 0 0 (fA N0) := by
  refine fx_start 3 rfl rfl (Nat.le_of_ble_eq_true rfl) ?_ rfl
  intro p e s m below meth c ls S hr hlocks hin hG hl
  have hl : lv_has ls 3 [(0, .ref (N0 + 218)), (1, .ref (N0 + 166))] := hl
  have lt_h0 := hG.1.lt h0
  have lt_h1 := hG.1.lt h1
  have lt_h2 := hG.1.lt h2
  have lt_h3 := hG.1.lt h3
  have lt_h4 := hG.1.lt h4
  have lt_h5 := hG.1.lt h5
  have lt_h6 := hG.1.lt h6
  have lt_h7 := hG.1.lt h7
  have lt_h8 := hG.1.lt h8
  have lt_h9 := hG.1.lt h9
  refine lv_aload_n S.1 S.2.1 dX9_copies_0 rfl (lv_at hl 0 rfl) ?_
  refine lv_aload_n S.1 S.2.1 dX9_copies_1 rfl (lv_at hl 1 rfl) ?_
  refine gx_get (C := RX9) (T := TX9) (N := 5) S hG h0 i_X9_copies_X9 rfl 4 (by decide) (by decide +kernel) rfl dX9_copies_2 ?_
  refine gx_put (C := RX9) (T := TX9) (N := 5) (ty := .int) (v := .int 1) (fs' := [.ref (N0 + 219), .ref (N0 + 220), .ref (N0 + 221), .ref (N0 + 222), .int 1]) S hG h1 i_X9_copies_X9 rfl 4 (by decide) tyX9 tyX9_ok nmX9 (by decide +kernel) rfl (by decide +kernel) rfl rfl (Nat.le_of_ble_eq_true rfl) rfl dX9_copies_5 (fun H locs hG => ?_)
  refine lv_iconst (v := 0) S.1 S.2.1 dX9_copies_8 (by decide) ?_
  refine lv_istore_n (lv' := [(2, .int 0), (0, .ref (N0 + 218)), (1, .ref (N0 + 166))]) S.1 S.2.1 dX9_copies_9 rfl hl (by decide) rfl (fun ls hl => ?_)
  refine lv_iload_n S.1 S.2.1 dX9_copies_10 rfl (lv_at hl 0 rfl) ?_
  refine lv_aload_n S.1 S.2.1 dX9_copies_11 rfl (lv_at hl 1 rfl) ?_
  refine gx_get (C := RX9) (T := TX9) (N := 5) S hG fu_s i_X9_copies_X9 rfl 4 (by decide) (by decide +kernel) rfl dX9_copies_12 ?_
  refine lv_icmp_ge (tgt := 53) S.1 S.2.1 dX9_copies_15 (by decide) (fun c => absurd c (by decide)) (fun _ => ?_)
  refine lv_aload_n S.1 S.2.1 dX9_copies_18 rfl (lv_at hl 1 rfl) ?_
  refine lv_iload_n S.1 S.2.1 dX9_copies_19 rfl (lv_at hl 0 rfl) ?_
  refine lv_aload_n S.1 S.2.1 dX9_copies_20 rfl (lv_at hl 2 rfl) ?_
  refine gx_get (C := RX9) (T := TX9) (N := 5) S hG (fu_at (by omega) h0) i_X9_copies_X9 rfl 0 (by decide) (by decide +kernel) rfl dX9_copies_21 ?_
  refine lv_iload_n S.1 S.2.1 dX9_copies_24 rfl (lv_at hl 0 rfl) ?_
  refine gx_iald (v := 97) S hG 0 (fu_at (by omega) h2) rfl (fin_l (by decide)) (by decide) dX9_copies_25 ?_
  refine lv_aload_n S.1 S.2.1 dX9_copies_26 rfl (lv_at hl 2 rfl) ?_
  refine gx_get (C := RX9) (T := TX9) (N := 5) S hG (fu_at (by omega) h0) i_X9_copies_X9 rfl 1 (by decide) (by decide +kernel) rfl dX9_copies_27 ?_
  refine lv_iload_n S.1 S.2.1 dX9_copies_30 rfl (lv_at hl 0 rfl) ?_
  refine gx_iald (v := 0) S hG 0 (fu_at (by omega) h3) rfl (fin_l (by decide)) (by decide) dX9_copies_31 ?_
  refine lv_aload_n S.1 S.2.1 dX9_copies_32 rfl (lv_at hl 2 rfl) ?_
  refine gx_get (C := RX9) (T := TX9) (N := 5) S hG (fu_at (by omega) h0) i_X9_copies_X9 rfl 2 (by decide) (by decide +kernel) rfl dX9_copies_33 ?_
  refine lv_iload_n S.1 S.2.1 dX9_copies_36 rfl (lv_at hl 0 rfl) ?_
  refine gx_iald (v := 0) S hG 0 (fu_at (by omega) h4) rfl (fin_l (by decide)) (by decide) dX9_copies_37 ?_
  refine lv_aload_n S.1 S.2.1 dX9_copies_38 rfl (lv_at hl 2 rfl) ?_
  refine gx_get (C := RX9) (T := TX9) (N := 5) S hG (fu_at (by omega) h0) i_X9_copies_X9 rfl 3 (by decide) (by decide +kernel) rfl dX9_copies_39 ?_
  refine lv_iload_n S.1 S.2.1 dX9_copies_42 rfl (lv_at hl 0 rfl) ?_
  refine gx_iald (v := (-1)) S hG 0 (fu_at (by omega) h5) rfl (fin_l (by decide)) (by decide) dX9_copies_43 ?_
  refine fx_cVv (As := [.int 0, .int 97, .int 0, .int 0, .int (-1)]) (rest := []) S hG (k1455_X9_sets (by omega) fu_s (fu_at (by omega) h6) (fu_at (by omega) h7) (fu_at (by omega) h8) (fu_at (by omega) h9)) fu_s rfl (cwV 5 S.2.2.2.2 gX9_copies_X9_sets rfl rfl rfl (by decide +kernel) ⟨Nat.le_of_ble_eq_true rfl, Nat.le_of_ble_eq_true rfl⟩) rfl hl.1 rfl (Nat.le_of_ble_eq_true rfl) dX9_copies_44 ⟨Nat.le_of_ble_eq_true rfl, Nat.le_of_ble_eq_true rfl⟩ (fun _ H locs hp hG => ?_)
  refine lv_iinc (v := 1) (lv' := [(2, .int 1), (0, .ref (N0 + 218)), (1, .ref (N0 + 166))]) S.1 S.2.1 dX9_copies_47 hl (k := 0) rfl (by decide) (by decide) rfl (fun ls hl => ?_)
  refine lv_goto (tgt := 10) S.1 S.2.1 dX9_copies_50 (by decide) ?_
  refine lv_iload_n S.1 S.2.1 dX9_copies_10 rfl (lv_at hl 0 rfl) ?_
  refine lv_aload_n S.1 S.2.1 dX9_copies_11 rfl (lv_at hl 1 rfl) ?_
  refine gx_get (C := RX9) (T := TX9) (N := 5) S hG (fu_at (by omega) (fu_at (by omega) (fu_at (by omega) (fu_at (by omega) fu_s)))) i_X9_copies_X9 rfl 4 (by decide) (by decide +kernel) rfl dX9_copies_12 ?_
  refine lv_icmp_ge (tgt := 53) S.1 S.2.1 dX9_copies_15 (by decide) (fun _ => ?_) (fun c => absurd (by decide) c)
  exact fx_vret S hr hlocks () hG trivial dX9_copies_53
theorem k1457_X9_many {n : Nat} (hn : N0 + 231 ≤ n) (h0 : F (N0 + 213) = some (.inr (11, [.ref (N0 + 214), .ref (N0 + 215), .ref (N0 + 216), .ref (N0 + 217), .int 1]))) : Met l yX9_many wsX9_many ({ frames := 0, cells := 0, slots := 0, locals := 0 }) (va_Pc [.ref (N0 + 213), .int 0] (fP N0 D vwCl (fty cI cC cL cD cII cTr cTm cIt cB) (fen ql) F n)) (fQi N0 D vwCl (fty cI cC cL cD cII cTr cTm cIt cB) (fun (r : Int32) (_ : Unit) => r = 0) (fun _ => F) (fun _ => n)) 0 0 (fA N0) := by
  refine fx_start 4 rfl rfl (Nat.le_of_ble_eq_true rfl) ?_ rfl
  intro p e s m below meth c ls S hr hlocks hin hG hl
  have hl : lv_has ls 4 [(0, .ref (N0 + 213)), (1, .int 0)] := hl
  have lt_h0 := hG.1.lt h0
  refine lv_iconst (v := 0) S.1 S.2.1 dX9_many_0 (by decide) ?_
  refine lv_istore_n (lv' := [(2, .int 0), (0, .ref (N0 + 213)), (1, .int 0)]) S.1 S.2.1 dX9_many_1 rfl hl (by decide) rfl (fun ls hl => ?_)
  refine lv_iload_n S.1 S.2.1 dX9_many_2 rfl (lv_at hl 2 rfl) ?_
  refine lv_iconst (v := 1) S.1 S.2.1 dX9_many_3 (by decide) ?_
  refine lv_iadd S.1 S.2.1 dX9_many_4 ?_
  refine fx_topi (y := 1) (by decide) ?_
  refine lv_istore_n (lv' := [(3, .int 1), (2, .int 0), (0, .ref (N0 + 213)), (1, .int 0)]) S.1 S.2.1 dX9_many_5 rfl hl (by decide) rfl (fun ls hl => ?_)
  refine lv_iload_n S.1 S.2.1 dX9_many_6 rfl (lv_at hl 0 rfl) ?_
  refine lv_aload_n S.1 S.2.1 dX9_many_7 rfl (lv_at hl 2 rfl) ?_
  refine gx_get (C := RX9) (T := TX9) (N := 5) S hG h0 i_X9_many_X9 rfl 4 (by decide) (by decide +kernel) rfl dX9_many_8 ?_
  refine lv_icmp_ge (tgt := 38) S.1 S.2.1 dX9_many_11 (by decide) (fun _ => ?_) (fun c => absurd (by decide) c)
  refine lv_iload_n S.1 S.2.1 dX9_many_38 rfl (lv_at hl 1 rfl) ?_
  exact fx_iret S hr hlocks () hG (rfl) dX9_many_39
theorem k1458_X9_kids {n : Nat} (hn : N0 + 231 ≤ n) (h0 : F (N0 + 213) = some (.inr (11, [.ref (N0 + 214), .ref (N0 + 215), .ref (N0 + 216), .ref (N0 + 217), .int 1]))) : Met l yX9_kids wsX9_kids ({ frames := 1, cells := 1, slots := 0, locals := 23 }) (va_Pc [.ref (N0 + 213), .int 0] (fP N0 D vwCl (fty cI cC cL cD cII cTr cTm cIt cB) (fen ql) F n)) (fQr N0 D vwCl (fty cI cC cL cD cII cTr cTm cIt cB) (fun (r : Nat) (_ : Unit) => r = n) (fun _ => (fblk F n [.inl (cI, 0, .inl (fun _ => 0))])) (fun _ => (n + 1))) 1 0 (fA N0) := by
  refine fx_start 5 rfl rfl (Nat.le_of_ble_eq_true rfl) ?_ rfl
  intro p e s m below meth c ls S hr hlocks hin hG hl
  have hl : lv_has ls 5 [(0, .ref (N0 + 213)), (1, .int 0)] := hl
  have lt_h0 := hG.1.lt h0
  refine lv_aload_n S.1 S.2.1 dX9_kids_0 rfl (lv_at hl 0 rfl) ?_
  refine lv_iload_n S.1 S.2.1 dX9_kids_1 rfl (lv_at hl 1 rfl) ?_
  refine fx_cVi (As := [.int 0]) (rest := []) S hG (k1457_X9_many (by omega) h0) h0 rfl (cwV 1 S.2.2.2.2 gX9_kids_X9_many rfl rfl rfl (by decide +kernel) ⟨Nat.le_of_ble_eq_true rfl, Nat.le_of_ble_eq_true rfl⟩) rfl hl.1 rfl (Nat.le_of_ble_eq_true rfl) dX9_kids_2 ⟨Nat.le_of_ble_eq_true rfl, Nat.le_of_ble_eq_true rfl⟩ (fun rv_1 _ H locs hp hG => ?_)
  subst rv_1
  refine gx_newa (atype := .int) (ty := .int) (N' := 0) (a0 := (0, .inl (fun _ => 0))) S hG (by decide +kernel) rfl 0 rfl (fun _ => rfl) (by decide) (by decide) (by decide) (by decide) (by decide) dX9_kids_5 (fun H hG => ?_)
  refine W.widen (k := 1) (n := 0) (by decide) (by decide) ?_
  refine lv_astore_n (lv' := [(2, .ref n), (0, .ref (N0 + 213)), (1, .int 0)]) S.1 S.2.1 dX9_kids_7 rfl hl (by decide) rfl (fun ls hl => ?_)
  refine lv_iconst (v := 0) S.1 S.2.1 dX9_kids_8 (by decide) ?_
  refine lv_istore_n (lv' := [(3, .int 0), (2, .ref n), (0, .ref (N0 + 213)), (1, .int 0)]) S.1 S.2.1 dX9_kids_9 rfl hl (by decide) rfl (fun ls hl => ?_)
  refine lv_iload_n S.1 S.2.1 dX9_kids_10 rfl (lv_at hl 3 rfl) ?_
  refine lv_iconst (v := 1) S.1 S.2.1 dX9_kids_11 (by decide) ?_
  refine lv_iadd S.1 S.2.1 dX9_kids_12 ?_
  refine fx_topi (y := 1) (by decide) ?_
  refine lv_istore (lv' := [(4, .int 1), (3, .int 0), (2, .ref n), (0, .ref (N0 + 213)), (1, .int 0)]) S.1 S.2.1 dX9_kids_13 hl (by decide) rfl (fun ls hl => ?_)
  refine lv_iload S.1 S.2.1 dX9_kids_15 (lv_at hl 0 rfl) ?_
  refine lv_aload_n S.1 S.2.1 dX9_kids_17 rfl (lv_at hl 3 rfl) ?_
  refine gx_get (C := RX9) (T := TX9) (N := 5) S hG (fu_at (by omega) h0) i_X9_kids_X9 rfl 4 (by decide) (by decide +kernel) rfl dX9_kids_18 ?_
  refine lv_icmp_ge (tgt := 52) S.1 S.2.1 dX9_kids_21 (by decide) (fun _ => ?_) (fun c => absurd (by decide) c)
  refine lv_aload_n S.1 S.2.1 dX9_kids_52 rfl (lv_at hl 2 rfl) ?_
  have hG : fG N0 D vwCl (fty cI cC cL cD cII cTr cTm cIt cB) (fen ql) s (fblk F n [.inl (cI, 0, .inl (fun _ => 0))]) (n + 1) H locs := hG.weak (fun a e h => by
    rcases fblk_cases 1 rfl h with ⟨k, rfl, hlt, hk⟩ | ⟨hout, h⟩
    · rcases (show k = 0 by omega) with rfl
      · cases (show some (.inl (cI, 0, .inl (fun _ => 0))) = some e from hk); exact fu_s
    · exact (fu_at (by omega) h))
  exact fx_aret S hr (Or.inr ⟨_, rfl⟩) hlocks () hG (rfl) dX9_kids_53
theorem k1459_X9_many {n : Nat} (hn : N0 + 231 ≤ n) (h0 : F (N0 + 218) = some (.inr (11, [.ref (N0 + 219), .ref (N0 + 220), .ref (N0 + 221), .ref (N0 + 222), .int 1]))) : Met l yX9_many wsX9_many ({ frames := 0, cells := 0, slots := 0, locals := 0 }) (va_Pc [.ref (N0 + 218), .int 0] (fP N0 D vwCl (fty cI cC cL cD cII cTr cTm cIt cB) (fen ql) F n)) (fQi N0 D vwCl (fty cI cC cL cD cII cTr cTm cIt cB) (fun (r : Int32) (_ : Unit) => r = 0) (fun _ => F) (fun _ => n)) 0 0 (fA N0) := by
  refine fx_start 4 rfl rfl (Nat.le_of_ble_eq_true rfl) ?_ rfl
  intro p e s m below meth c ls S hr hlocks hin hG hl
  have hl : lv_has ls 4 [(0, .ref (N0 + 218)), (1, .int 0)] := hl
  have lt_h0 := hG.1.lt h0
  refine lv_iconst (v := 0) S.1 S.2.1 dX9_many_0 (by decide) ?_
  refine lv_istore_n (lv' := [(2, .int 0), (0, .ref (N0 + 218)), (1, .int 0)]) S.1 S.2.1 dX9_many_1 rfl hl (by decide) rfl (fun ls hl => ?_)
  refine lv_iload_n S.1 S.2.1 dX9_many_2 rfl (lv_at hl 2 rfl) ?_
  refine lv_iconst (v := 1) S.1 S.2.1 dX9_many_3 (by decide) ?_
  refine lv_iadd S.1 S.2.1 dX9_many_4 ?_
  refine fx_topi (y := 1) (by decide) ?_
  refine lv_istore_n (lv' := [(3, .int 1), (2, .int 0), (0, .ref (N0 + 218)), (1, .int 0)]) S.1 S.2.1 dX9_many_5 rfl hl (by decide) rfl (fun ls hl => ?_)
  refine lv_iload_n S.1 S.2.1 dX9_many_6 rfl (lv_at hl 0 rfl) ?_
  refine lv_aload_n S.1 S.2.1 dX9_many_7 rfl (lv_at hl 2 rfl) ?_
  refine gx_get (C := RX9) (T := TX9) (N := 5) S hG h0 i_X9_many_X9 rfl 4 (by decide) (by decide +kernel) rfl dX9_many_8 ?_
  refine lv_icmp_ge (tgt := 38) S.1 S.2.1 dX9_many_11 (by decide) (fun _ => ?_) (fun c => absurd (by decide) c)
  refine lv_iload_n S.1 S.2.1 dX9_many_38 rfl (lv_at hl 1 rfl) ?_
  exact fx_iret S hr hlocks () hG (rfl) dX9_many_39
theorem k1460_X9_kids {n : Nat} (hn : N0 + 231 ≤ n) (h0 : F (N0 + 218) = some (.inr (11, [.ref (N0 + 219), .ref (N0 + 220), .ref (N0 + 221), .ref (N0 + 222), .int 1]))) : Met l yX9_kids wsX9_kids ({ frames := 1, cells := 1, slots := 0, locals := 23 }) (va_Pc [.ref (N0 + 218), .int 0] (fP N0 D vwCl (fty cI cC cL cD cII cTr cTm cIt cB) (fen ql) F n)) (fQr N0 D vwCl (fty cI cC cL cD cII cTr cTm cIt cB) (fun (r : Nat) (_ : Unit) => r = n) (fun _ => (fblk F n [.inl (cI, 0, .inl (fun _ => 0))])) (fun _ => (n + 1))) 1 0 (fA N0) := by
  refine fx_start 5 rfl rfl (Nat.le_of_ble_eq_true rfl) ?_ rfl
  intro p e s m below meth c ls S hr hlocks hin hG hl
  have hl : lv_has ls 5 [(0, .ref (N0 + 218)), (1, .int 0)] := hl
  have lt_h0 := hG.1.lt h0
  refine lv_aload_n S.1 S.2.1 dX9_kids_0 rfl (lv_at hl 0 rfl) ?_
  refine lv_iload_n S.1 S.2.1 dX9_kids_1 rfl (lv_at hl 1 rfl) ?_
  refine fx_cVi (As := [.int 0]) (rest := []) S hG (k1459_X9_many (by omega) h0) h0 rfl (cwV 1 S.2.2.2.2 gX9_kids_X9_many rfl rfl rfl (by decide +kernel) ⟨Nat.le_of_ble_eq_true rfl, Nat.le_of_ble_eq_true rfl⟩) rfl hl.1 rfl (Nat.le_of_ble_eq_true rfl) dX9_kids_2 ⟨Nat.le_of_ble_eq_true rfl, Nat.le_of_ble_eq_true rfl⟩ (fun rv_1 _ H locs hp hG => ?_)
  subst rv_1
  refine gx_newa (atype := .int) (ty := .int) (N' := 0) (a0 := (0, .inl (fun _ => 0))) S hG (by decide +kernel) rfl 0 rfl (fun _ => rfl) (by decide) (by decide) (by decide) (by decide) (by decide) dX9_kids_5 (fun H hG => ?_)
  refine W.widen (k := 1) (n := 0) (by decide) (by decide) ?_
  refine lv_astore_n (lv' := [(2, .ref n), (0, .ref (N0 + 218)), (1, .int 0)]) S.1 S.2.1 dX9_kids_7 rfl hl (by decide) rfl (fun ls hl => ?_)
  refine lv_iconst (v := 0) S.1 S.2.1 dX9_kids_8 (by decide) ?_
  refine lv_istore_n (lv' := [(3, .int 0), (2, .ref n), (0, .ref (N0 + 218)), (1, .int 0)]) S.1 S.2.1 dX9_kids_9 rfl hl (by decide) rfl (fun ls hl => ?_)
  refine lv_iload_n S.1 S.2.1 dX9_kids_10 rfl (lv_at hl 3 rfl) ?_
  refine lv_iconst (v := 1) S.1 S.2.1 dX9_kids_11 (by decide) ?_
  refine lv_iadd S.1 S.2.1 dX9_kids_12 ?_
  refine fx_topi (y := 1) (by decide) ?_
  refine lv_istore (lv' := [(4, .int 1), (3, .int 0), (2, .ref n), (0, .ref (N0 + 218)), (1, .int 0)]) S.1 S.2.1 dX9_kids_13 hl (by decide) rfl (fun ls hl => ?_)
  refine lv_iload S.1 S.2.1 dX9_kids_15 (lv_at hl 0 rfl) ?_
  refine lv_aload_n S.1 S.2.1 dX9_kids_17 rfl (lv_at hl 3 rfl) ?_
  refine gx_get (C := RX9) (T := TX9) (N := 5) S hG (fu_at (by omega) h0) i_X9_kids_X9 rfl 4 (by decide) (by decide +kernel) rfl dX9_kids_18 ?_
  refine lv_icmp_ge (tgt := 52) S.1 S.2.1 dX9_kids_21 (by decide) (fun _ => ?_) (fun c => absurd (by decide) c)
  refine lv_aload_n S.1 S.2.1 dX9_kids_52 rfl (lv_at hl 2 rfl) ?_
  have hG : fG N0 D vwCl (fty cI cC cL cD cII cTr cTm cIt cB) (fen ql) s (fblk F n [.inl (cI, 0, .inl (fun _ => 0))]) (n + 1) H locs := hG.weak (fun a e h => by
    rcases fblk_cases 1 rfl h with ⟨k, rfl, hlt, hk⟩ | ⟨hout, h⟩
    · rcases (show k = 0 by omega) with rfl
      · cases (show some (.inl (cI, 0, .inl (fun _ => 0))) = some e from hk); exact fu_s
    · exact (fu_at (by omega) h))
  exact fx_aret S hr (Or.inr ⟨_, rfl⟩) hlocks () hG (rfl) dX9_kids_53
theorem k1461_X10_left {n b1 : Nat} (hn : N0 + 231 ≤ n) (hb1 : N0 + 231 ≤ b1) (h0 : F b1 = some (.inl (cI, 0, .inl (fun _ => 0)))) (h1 : F (b1 + 1) = some (.inl (cI, 0, .inl (fun _ => 0)))) : Met l yX10_left wsX10_left ({ frames := 0, cells := 2, slots := 2, locals := 0 }) (va_Pc [.ref (N0 + 164), .ref (N0 + 213), .ref b1, .ref (N0 + 218), .ref (b1 + 1)] (fP N0 D vwCl (fty cI cC cL cD cII cTr cTm cIt cB) (fen ql) F n)) (fQr N0 D vwCl (fty cI cC cL cD cII cTr cTm cIt cB) (fun (r : Nat) (_ : Unit) => r = n) (fun _ => (fblk F n [.inl (cII, 1, .inr (.inr (.inr (.inr (fun j => if j < 1 then some ((n + 1) + j) else none))))), .inl (cI, 1, .inl (fun _ => 0))])) (fun _ => (n + 2))) 2 2 (fA N0) := by
  refine fx_start 9 rfl rfl (Nat.le_of_ble_eq_true rfl) ?_ rfl
  intro p e s m below meth c ls S hr hlocks hin hG hl
  have hl : lv_has ls 9 [(0, .ref (N0 + 164)), (1, .ref (N0 + 213)), (2, .ref b1), (3, .ref (N0 + 218)), (4, .ref (b1 + 1))] := hl
  have lt_h0 := hG.1.lt h0
  have lt_h1 := hG.1.lt h1
  refine lv_aload_n S.1 S.2.1 dX10_left_0 rfl (lv_at hl 2 rfl) ?_
  refine gx_alen (v := 0) S hG 0 h0 rfl (rfl) dX10_left_1 ?_
  refine lv_iconst (v := 1) S.1 S.2.1 dX10_left_2 (by decide) ?_
  refine lv_iadd S.1 S.2.1 dX10_left_3 ?_
  refine fx_topi (y := 1) (by decide) ?_
  refine lv_aload S.1 S.2.1 dX10_left_4 (lv_at hl 4 rfl) ?_
  refine gx_alen (v := 0) S hG 0 h1 rfl (rfl) dX10_left_6 ?_
  refine lv_iconst (v := 1) S.1 S.2.1 dX10_left_7 (by decide) ?_
  refine lv_iadd S.1 S.2.1 dX10_left_8 ?_
  refine fx_topi (y := 1) (by decide) ?_
  refine gx_mna (N' := 1) (K' := 1) S hG (by decide +kernel) (by decide +kernel) 0 4 rfl rfl (by decide) (by decide) (by decide) (by decide) (by decide) (by decide) (by decide) (by decide) dX10_left_9 (fun H hG => ?_)
  refine W.widen (k := 2) (n := 2) (by decide) (by decide) ?_
  refine lv_astore (lv' := [(5, .ref n), (0, .ref (N0 + 164)), (1, .ref (N0 + 213)), (2, .ref b1), (3, .ref (N0 + 218)), (4, .ref (b1 + 1))]) S.1 S.2.1 dX10_left_13 hl (by decide) rfl (fun ls hl => ?_)
  refine lv_aload_n S.1 S.2.1 dX10_left_15 rfl (lv_at hl 3 rfl) ?_
  refine gx_alen (v := 0) S hG 0 (fblk_sk 1 rfl (by omega) (fu_at (by omega) h0)) rfl (rfl) dX10_left_16 ?_
  refine lv_istore (lv' := [(6, .int 0), (5, .ref n), (0, .ref (N0 + 164)), (1, .ref (N0 + 213)), (2, .ref b1), (3, .ref (N0 + 218)), (4, .ref (b1 + 1))]) S.1 S.2.1 dX10_left_17 hl (by decide) rfl (fun ls hl => ?_)
  refine lv_iload S.1 S.2.1 dX10_left_19 (lv_at hl 0 rfl) ?_
  refine lv_if_lt (tgt := 228) S.1 S.2.1 dX10_left_21 (by decide) (fun c => absurd c (by decide)) (fun _ => ?_)
  refine lv_aload S.1 S.2.1 dX10_left_24 (lv_at hl 6 rfl) ?_
  refine gx_alen (v := 0) S hG 0 (fblk_sk 1 rfl (by omega) (fu_at (by omega) h1)) rfl (rfl) dX10_left_26 ?_
  refine lv_istore (lv' := [(7, .int 0), (6, .int 0), (5, .ref n), (0, .ref (N0 + 164)), (1, .ref (N0 + 213)), (2, .ref b1), (3, .ref (N0 + 218)), (4, .ref (b1 + 1))]) S.1 S.2.1 dX10_left_27 hl (by decide) rfl (fun ls hl => ?_)
  refine lv_iload S.1 S.2.1 dX10_left_29 (lv_at hl 0 rfl) ?_
  refine lv_if_lt (tgt := 222) S.1 S.2.1 dX10_left_31 (by decide) (fun c => absurd c (by decide)) (fun _ => ?_)
  refine lv_iload S.1 S.2.1 dX10_left_34 (lv_at hl 1 rfl) ?_
  refine lv_aload_n S.1 S.2.1 dX10_left_36 rfl (lv_at hl 5 rfl) ?_
  refine gx_alen (v := 0) S hG 0 (fblk_sk 1 rfl (by omega) (fu_at (by omega) h0)) rfl (rfl) dX10_left_37 ?_
  refine lv_icmp_ne (tgt := 52) S.1 S.2.1 dX10_left_38 (by decide) (fun c => absurd (by decide) c) (fun _ => ?_)
  refine lv_iload S.1 S.2.1 dX10_left_41 (lv_at hl 0 rfl) ?_
  refine lv_aload S.1 S.2.1 dX10_left_43 (lv_at hl 7 rfl) ?_
  refine gx_alen (v := 0) S hG 0 (fblk_sk 1 rfl (by omega) (fu_at (by omega) h1)) rfl (rfl) dX10_left_45 ?_
  refine lv_icmp_ne (tgt := 52) S.1 S.2.1 dX10_left_46 (by decide) (fun c => absurd (by decide) c) (fun _ => ?_)
  refine lv_goto (tgt := 216) S.1 S.2.1 dX10_left_49 (by decide) ?_
  refine lv_iinc (v := (-1)) (lv' := [(7, .int (-1)), (6, .int 0), (5, .ref n), (0, .ref (N0 + 164)), (1, .ref (N0 + 213)), (2, .ref b1), (3, .ref (N0 + 218)), (4, .ref (b1 + 1))]) S.1 S.2.1 dX10_left_216 hl (k := 0) rfl (by decide) (by decide) rfl (fun ls hl => ?_)
  refine lv_goto (tgt := 29) S.1 S.2.1 dX10_left_219 (by decide) ?_
  refine lv_iload S.1 S.2.1 dX10_left_29 (lv_at hl 0 rfl) ?_
  refine lv_if_lt (tgt := 222) S.1 S.2.1 dX10_left_31 (by decide) (fun _ => ?_) (fun c => absurd (by decide) c)
  refine lv_iinc (v := (-1)) (lv' := [(6, .int (-1)), (7, .int (-1)), (5, .ref n), (0, .ref (N0 + 164)), (1, .ref (N0 + 213)), (2, .ref b1), (3, .ref (N0 + 218)), (4, .ref (b1 + 1))]) S.1 S.2.1 dX10_left_222 hl (k := 1) rfl (by decide) (by decide) rfl (fun ls hl => ?_)
  refine lv_goto (tgt := 19) S.1 S.2.1 dX10_left_225 (by decide) ?_
  refine lv_iload S.1 S.2.1 dX10_left_19 (lv_at hl 0 rfl) ?_
  refine lv_if_lt (tgt := 228) S.1 S.2.1 dX10_left_21 (by decide) (fun _ => ?_) (fun c => absurd (by decide) c)
  refine lv_aload S.1 S.2.1 dX10_left_228 (lv_at hl 2 rfl) ?_
  have hG : fG N0 D vwCl (fty cI cC cL cD cII cTr cTm cIt cB) (fen ql) s (fblk F n [.inl (cII, 1, .inr (.inr (.inr (.inr (fun j => if j < 1 then some ((n + 1) + j) else none))))), .inl (cI, 1, .inl (fun _ => 0))]) (n + 2) H _ := hG.weak (fun a e h => by
    rcases fblk_cases 2 rfl h with ⟨k, rfl, hlt, hk⟩ | ⟨hout, h⟩
    · rcases (show k = 0 ∨ k = 1 by omega) with rfl | rfl
      · cases (show some (.inl (cII, 1, .inr (.inr (.inr (.inr (fun j => if j < 1 then some ((n + 1) + j) else none)))))) = some e from hk); exact (fblk_sk 1 rfl (by omega) fu_s)
      · cases (show some (.inl (cI, 1, .inl (fun _ => 0))) = some e from hk); exact (fblk_at 0 (by omega) rfl)
    · exact (fblk_sk 1 rfl (by omega) (fu_at (by omega) h)))
  exact fx_aret S hr (Or.inr ⟨_, rfl⟩) hlocks () hG (rfl) dX10_left_230
set_option maxHeartbeats 16000000 in
theorem k1462_X10_fills {n : Nat} (hn : N0 + 231 ≤ n) (h0 : F (N0 + 213) = some (.inr (11, [.ref (N0 + 214), .ref (N0 + 215), .ref (N0 + 216), .ref (N0 + 217), .int 1]))) (h1 : F (N0 + 218) = some (.inr (11, [.ref (N0 + 219), .ref (N0 + 220), .ref (N0 + 221), .ref (N0 + 222), .int 1]))) (h2 : F (N0 + 214) = some (.inl (cI, 20, .inl (upd (fun _ => 0) 0 97)))) (h3 : F (N0 + 219) = some (.inl (cI, 20, .inl (upd (fun _ => 0) 0 97)))) (h4 : F (N0 + 216) = some (.inl (cI, 20, .inl (upd (fun _ => 0) 0 0)))) (h5 : F (N0 + 221) = some (.inl (cI, 20, .inl (upd (fun _ => 0) 0 0)))) (h6 : F (N0 + 164) = some (.inr (12, [.ref (N0 + 165), .int 0, .ref (N0 + 181), .int 0, .int 0, .int 0, .int (-1), .ref (ql 24), .ref (N0 + 182), .ref (N0 + 187), .ref (N0 + 208), .ref (N0 + 209), .ref (N0 + 210), .ref (N0 + 211), .ref (N0 + 212), .int 0, .ref (N0 + 213), .ref (N0 + 218), .ref (N0 + 223), .ref (N0 + 224), .ref (N0 + 225), .ref (N0 + 226), .ref (N0 + 227), .int 0, .int 0, .ref (N0 + 228), .null, .int (-1), .int 0, .int 0, .int 0]))) (h7 : F (N0 + 187) = some (.inl (cII, 20, .inr (.inr (.inr (.inr (fun j => if j < 20 then some ((N0 + 188) + j) else none))))))) (h8 : F (N0 + 188) = some (.inl (cI, 20, .inl (fun _ => 0)))) : Met l yX10_fills wsX10_fills ({ frames := 2, cells := 4, slots := 2, locals := 47 }) (va_Pc [.ref (N0 + 164), .ref (N0 + 213), .ref (N0 + 218)] (fP N0 D vwCl (fty cI cC cL cD cII cTr cTm cIt cB) (fen ql) F n)) (fQi N0 D vwCl (fty cI cC cL cD cII cTr cTm cIt cB) (fun (r : Int32) (_ : Unit) => r = 0) (fun _ => (fblk (fu F (N0 + 188) (.inl (cI, 20, .inl (upd (fun _ => 0) 0 0)))) n [.inl (cI, 0, .inl (fun _ => 0)), .inl (cI, 0, .inl (fun _ => 0)), .inl (cII, 1, .inr (.inr (.inr (.inr (fun j => if j < 1 then some ((n + 3) + j) else none))))), .inl (cI, 1, .inl (fun _ => 0))])) (fun _ => (n + 4))) 4 2 (fA N0) := by
  refine fx_start 6 rfl rfl (Nat.le_of_ble_eq_true rfl) ?_ rfl
  intro p e s m below meth c ls S hr hlocks hin hG hl
  have hl : lv_has ls 6 [(0, .ref (N0 + 164)), (1, .ref (N0 + 213)), (2, .ref (N0 + 218))] := hl
  have lt_h0 := hG.1.lt h0
  have lt_h1 := hG.1.lt h1
  have lt_h2 := hG.1.lt h2
  have lt_h3 := hG.1.lt h3
  have lt_h4 := hG.1.lt h4
  have lt_h5 := hG.1.lt h5
  have lt_h6 := hG.1.lt h6
  have lt_h7 := hG.1.lt h7
  have lt_h8 := hG.1.lt h8
  refine lv_aload_n S.1 S.2.1 dX10_fills_0 rfl (lv_at hl 1 rfl) ?_
  refine gx_getN (C := RX9) (T := TX9) (N := 5) S hG h0 i_X10_fills_X9 rfl 4 (by decide) (List.mem_of_getElem? (i := 4) rfl) rfl dX10_fills_1 ?_
  refine lv_iconst (v := 1) S.1 S.2.1 dX10_fills_4 (by decide) ?_
  refine lv_isub S.1 S.2.1 dX10_fills_5 ?_
  refine fx_topi (y := 0) (by decide) ?_
  refine lv_istore_n (lv' := [(3, .int 0), (0, .ref (N0 + 164)), (1, .ref (N0 + 213)), (2, .ref (N0 + 218))]) S.1 S.2.1 dX10_fills_6 rfl hl (by decide) rfl (fun ls hl => ?_)
  refine lv_iload_n S.1 S.2.1 dX10_fills_7 rfl (lv_at hl 0 rfl) ?_
  refine lv_if_lt (tgt := 114) S.1 S.2.1 dX10_fills_8 (by decide) (fun c => absurd c (by decide)) (fun _ => ?_)
  refine lv_aload_n S.1 S.2.1 dX10_fills_11 rfl (lv_at hl 3 rfl) ?_
  refine gx_getN (C := RX9) (T := TX9) (N := 5) S hG h1 i_X10_fills_X9 rfl 4 (by decide) (List.mem_of_getElem? (i := 4) rfl) rfl dX10_fills_12 ?_
  refine lv_iconst (v := 1) S.1 S.2.1 dX10_fills_15 (by decide) ?_
  refine lv_isub S.1 S.2.1 dX10_fills_16 ?_
  refine fx_topi (y := 0) (by decide) ?_
  refine lv_istore (lv' := [(4, .int 0), (3, .int 0), (0, .ref (N0 + 164)), (1, .ref (N0 + 213)), (2, .ref (N0 + 218))]) S.1 S.2.1 dX10_fills_17 hl (by decide) rfl (fun ls hl => ?_)
  refine lv_iload S.1 S.2.1 dX10_fills_19 (lv_at hl 0 rfl) ?_
  refine lv_if_lt (tgt := 108) S.1 S.2.1 dX10_fills_21 (by decide) (fun c => absurd c (by decide)) (fun _ => ?_)
  refine lv_aload_n S.1 S.2.1 dX10_fills_24 rfl (lv_at hl 3 rfl) ?_
  refine gx_getN (C := RX9) (T := TX9) (N := 5) S hG h0 i_X10_fills_X9 rfl 0 (by decide) (List.mem_of_getElem? (i := 1) rfl) rfl dX10_fills_25 ?_
  refine lv_iload_n S.1 S.2.1 dX10_fills_28 rfl (lv_at hl 1 rfl) ?_
  refine gx_iald (v := 97) S hG 0 h2 rfl (fin_l (by decide)) (by decide) dX10_fills_29 ?_
  refine lv_aload_n S.1 S.2.1 dX10_fills_30 rfl (lv_at hl 4 rfl) ?_
  refine gx_getN (C := RX9) (T := TX9) (N := 5) S hG h1 i_X10_fills_X9 rfl 0 (by decide) (List.mem_of_getElem? (i := 1) rfl) rfl dX10_fills_31 ?_
  refine lv_iload S.1 S.2.1 dX10_fills_34 (lv_at hl 0 rfl) ?_
  refine gx_iald (v := 97) S hG 0 h3 rfl (fin_l (by decide)) (by decide) dX10_fills_36 ?_
  refine lv_icmp_ne (tgt := 44) S.1 S.2.1 dX10_fills_37 (by decide) (fun c => absurd (by decide) c) (fun _ => ?_)
  refine lv_iconst (v := 0) S.1 S.2.1 dX10_fills_40 (by decide) ?_
  refine lv_goto (tgt := 45) S.1 S.2.1 dX10_fills_41 (by decide) ?_
  refine lv_aload_n S.1 S.2.1 dX10_fills_45 rfl (lv_at hl 3 rfl) ?_
  refine gx_getN (C := RX9) (T := TX9) (N := 5) S hG h0 i_X10_fills_X9 rfl 2 (by decide) (List.mem_of_getElem? (i := 3) rfl) rfl dX10_fills_46 ?_
  refine lv_iload_n S.1 S.2.1 dX10_fills_49 rfl (lv_at hl 1 rfl) ?_
  refine gx_iald (v := 0) S hG 0 h4 rfl (fin_l (by decide)) (by decide) dX10_fills_50 ?_
  refine lv_aload_n S.1 S.2.1 dX10_fills_51 rfl (lv_at hl 4 rfl) ?_
  refine gx_getN (C := RX9) (T := TX9) (N := 5) S hG h1 i_X10_fills_X9 rfl 2 (by decide) (List.mem_of_getElem? (i := 3) rfl) rfl dX10_fills_52 ?_
  refine lv_iload S.1 S.2.1 dX10_fills_55 (lv_at hl 0 rfl) ?_
  refine gx_iald (v := 0) S hG 0 h5 rfl (fin_l (by decide)) (by decide) dX10_fills_57 ?_
  refine lv_icmp_ne (tgt := 65) S.1 S.2.1 dX10_fills_58 (by decide) (fun c => absurd (by decide) c) (fun _ => ?_)
  refine lv_iconst (v := 0) S.1 S.2.1 dX10_fills_61 (by decide) ?_
  refine lv_goto (tgt := 66) S.1 S.2.1 dX10_fills_62 (by decide) ?_
  refine lv_iadd S.1 S.2.1 dX10_fills_66 ?_
  refine fx_topi (y := 0) (by decide) ?_
  refine lv_istore (lv' := [(5, .int 0), (4, .int 0), (3, .int 0), (0, .ref (N0 + 164)), (1, .ref (N0 + 213)), (2, .ref (N0 + 218))]) S.1 S.2.1 dX10_fills_67 hl (by decide) rfl (fun ls hl => ?_)
  refine lv_aload_n S.1 S.2.1 dX10_fills_69 rfl (lv_at hl 3 rfl) ?_
  refine gx_get (C := RX10) (T := TX10) (N := 31) S hG h6 i_X10_fills_X10 rfl 9 (by decide) (by decide +kernel) rfl dX10_fills_70 ?_
  refine lv_iload_n S.1 S.2.1 dX10_fills_73 rfl (lv_at hl 2 rfl) ?_
  refine gx_aldq (x := (N0 + 188)) S hG 4 rfl h7 rfl (fin_l (by decide)) (rfl) dX10_fills_74 ?_
  refine lv_iload S.1 S.2.1 dX10_fills_75 (lv_at hl 1 rfl) ?_
  refine lv_iload S.1 S.2.1 dX10_fills_77 (lv_at hl 0 rfl) ?_
  refine lv_aload_n S.1 S.2.1 dX10_fills_79 rfl (lv_at hl 3 rfl) ?_
  refine lv_aload_n S.1 S.2.1 dX10_fills_80 rfl (lv_at hl 4 rfl) ?_
  refine lv_aload_n S.1 S.2.1 dX10_fills_81 rfl (lv_at hl 4 rfl) ?_
  refine lv_iload_n S.1 S.2.1 dX10_fills_82 rfl (lv_at hl 2 rfl) ?_
  refine fx_cVNr (host := "TreeDifferModel") (As := [.int 0]) (rest := [.ref (N0 + 213), .ref (N0 + 164), .int 0, .int 0, .ref (N0 + 188)]) S hG (k1458_X9_kids (by omega) h0) h0 rfl ⟨(va_cnB 1 S.2.2.2.2 gX10_fills_X9_kids_n173 rfl rfl rfl (hG.nest (show _ ∈ fen2.2.2.1 from by decide)) (S.2.2.2.2 (.initialized RX9) (by decide +kernel)) (by decide +kernel) ⟨Nat.le_of_ble_eq_true rfl, Nat.le_of_ble_eq_true rfl⟩), S.2.2.2.2 (.instanceMethod yX9_kids) (by decide +kernel), S.2.2.2.2 (.selects RX9 yX9_kids yX9_kids) (by decide +kernel)⟩ rfl hl.1 rfl (Nat.le_of_ble_eq_true rfl) dX10_fills_83 ⟨Nat.le_of_ble_eq_true rfl, Nat.le_of_ble_eq_true rfl⟩ (fun rv_1 _ H locs hp hG => ?_)
  subst rv_1
  refine W.widen (k := 1) (n := 0) (by decide) (by decide) ?_
  refine lv_aload_n S.1 S.2.1 dX10_fills_86 rfl (lv_at hl 5 rfl) ?_
  refine lv_aload_n S.1 S.2.1 dX10_fills_87 rfl (lv_at hl 5 rfl) ?_
  refine lv_iload S.1 S.2.1 dX10_fills_88 (lv_at hl 1 rfl) ?_
  refine fx_cVNr (host := "TreeDifferModel") (As := [.int 0]) (rest := [.ref (N0 + 218), .ref n, .ref (N0 + 213), .ref (N0 + 164), .int 0, .int 0, .ref (N0 + 188)]) S hG (k1460_X9_kids (by omega) (fblk_sk 1 rfl (by omega) h1)) (fblk_sk 1 rfl (by omega) h1) rfl ⟨(va_cnB 1 S.2.2.2.2 gX10_fills_X9_kids_n173 rfl rfl rfl (hG.nest (show _ ∈ fen2.2.2.1 from by decide)) (S.2.2.2.2 (.initialized RX9) (by decide +kernel)) (by decide +kernel) ⟨Nat.le_of_ble_eq_true rfl, Nat.le_of_ble_eq_true rfl⟩), S.2.2.2.2 (.instanceMethod yX9_kids) (by decide +kernel), S.2.2.2.2 (.selects RX9 yX9_kids yX9_kids) (by decide +kernel)⟩ rfl hl.1 rfl (Nat.le_of_ble_eq_true rfl) dX10_fills_90 ⟨Nat.le_of_ble_eq_true rfl, Nat.le_of_ble_eq_true rfl⟩ (fun rv_2 _ H locs hp hG => ?_)
  subst rv_2
  refine W.widen (k := 2) (n := 0) (by decide) (by decide) ?_
  refine fx_cVr (As := [.ref (N0 + 213), .ref n, .ref (N0 + 218), .ref (n + 1)]) (rest := [.int 0, .int 0, .ref (N0 + 188)]) S hG (k1461_X10_left (by omega) (by omega) (fblk_sk 1 rfl (by omega) (fblk_at 0 (by omega) rfl)) (fblk_at 0 (by omega) rfl)) (fblk_sk 1 rfl (by omega) (fblk_sk 1 rfl (by omega) h6)) rfl (cwV 4 S.2.2.2.2 gX10_fills_X10_left rfl rfl rfl (by decide +kernel) ⟨Nat.le_of_ble_eq_true rfl, Nat.le_of_ble_eq_true rfl⟩) rfl hl.1 rfl (Nat.le_of_ble_eq_true rfl) dX10_fills_93 ⟨Nat.le_of_ble_eq_true rfl, Nat.le_of_ble_eq_true rfl⟩ (fun rv_3 _ H locs hp hG => ?_)
  subst rv_3
  refine W.widen (k := 4) (n := 2) (by decide) (by decide) ?_
  refine lv_iconst (v := 0) S.1 S.2.1 dX10_fills_96 (by decide) ?_
  refine gx_aldq (x := (n + 3)) S hG 4 rfl (fblk_at 0 (by omega) rfl) rfl (fin_l (by decide)) (rfl) dX10_fills_97 ?_
  refine lv_iconst (v := 0) S.1 S.2.1 dX10_fills_98 (by decide) ?_
  refine gx_iald (v := 0) S hG 0 (fblk_at 1 (by omega) rfl) rfl (fin_l (by decide)) (by decide) dX10_fills_99 ?_
  refine lv_iadd S.1 S.2.1 dX10_fills_100 ?_
  refine fx_topi (y := 0) (by decide) ?_
  refine gx_iast (f' := upd (fun _ => 0) 0 0) S hG 0 (fblk_sk 2 rfl (by omega) (fblk_sk 1 rfl (by omega) (fblk_sk 1 rfl (by omega) h8))) rfl (fin_l (by decide)) dX10_fills_101 (rfl) (fun H locs hG => ?_)
  refine lv_iinc (v := (-1)) (lv' := [(4, .int (-1)), (5, .int 0), (3, .int 0), (0, .ref (N0 + 164)), (1, .ref (N0 + 213)), (2, .ref (N0 + 218))]) S.1 S.2.1 dX10_fills_102 hl (k := 1) rfl (by decide) (by decide) rfl (fun ls hl => ?_)
  refine lv_goto (tgt := 19) S.1 S.2.1 dX10_fills_105 (by decide) ?_
  refine lv_iload S.1 S.2.1 dX10_fills_19 (lv_at hl 0 rfl) ?_
  refine lv_if_lt (tgt := 108) S.1 S.2.1 dX10_fills_21 (by decide) (fun _ => ?_) (fun c => absurd (by decide) c)
  refine lv_iinc (v := (-1)) (lv' := [(3, .int (-1)), (4, .int (-1)), (5, .int 0), (0, .ref (N0 + 164)), (1, .ref (N0 + 213)), (2, .ref (N0 + 218))]) S.1 S.2.1 dX10_fills_108 hl (k := 2) rfl (by decide) (by decide) rfl (fun ls hl => ?_)
  refine lv_goto (tgt := 7) S.1 S.2.1 dX10_fills_111 (by decide) ?_
  refine lv_iload_n S.1 S.2.1 dX10_fills_7 rfl (lv_at hl 0 rfl) ?_
  refine lv_if_lt (tgt := 114) S.1 S.2.1 dX10_fills_8 (by decide) (fun _ => ?_) (fun c => absurd (by decide) c)
  refine lv_aload_n S.1 S.2.1 dX10_fills_114 rfl (lv_at hl 3 rfl) ?_
  refine gx_get (C := RX10) (T := TX10) (N := 31) S hG (fu_at (by omega) (fblk_sk 2 rfl (by omega) (fblk_sk 1 rfl (by omega) (fblk_sk 1 rfl (by omega) h6)))) i_X10_fills_X10 rfl 9 (by decide) (by decide +kernel) rfl dX10_fills_115 ?_
  refine lv_iconst (v := 0) S.1 S.2.1 dX10_fills_118 (by decide) ?_
  refine gx_aldq (x := (N0 + 188)) S hG 4 rfl (fu_at (by omega) (fblk_sk 2 rfl (by omega) (fblk_sk 1 rfl (by omega) (fblk_sk 1 rfl (by omega) h7)))) rfl (fin_l (by decide)) (rfl) dX10_fills_119 ?_
  refine lv_iconst (v := 0) S.1 S.2.1 dX10_fills_120 (by decide) ?_
  refine gx_iald (v := 0) S hG 0 fu_s rfl (fin_l (by decide)) (by decide) dX10_fills_121 ?_
  have hG : fG N0 D vwCl (fty cI cC cL cD cII cTr cTm cIt cB) (fen ql) s (fblk (fu F (N0 + 188) (.inl (cI, 20, .inl (upd (fun _ => 0) 0 0)))) n [.inl (cI, 0, .inl (fun _ => 0)), .inl (cI, 0, .inl (fun _ => 0)), .inl (cII, 1, .inr (.inr (.inr (.inr (fun j => if j < 1 then some ((n + 3) + j) else none))))), .inl (cI, 1, .inl (fun _ => 0))]) (n + 4) H locs := hG.weak (fun a e h => by
    rcases fblk_cases 4 rfl h with ⟨k, rfl, hlt, hk⟩ | ⟨hout, h⟩
    · rcases (show k = 0 ∨ k = 1 ∨ k = 2 ∨ k = 3 by omega) with rfl | rfl | rfl | rfl
      · cases (show some (.inl (cI, 0, .inl (fun _ => 0))) = some e from hk); exact (fu_at (by omega) (fblk_sk 2 rfl (by omega) (fblk_sk 1 rfl (by omega) (fblk_at 0 (by omega) rfl))))
      · cases (show some (.inl (cI, 0, .inl (fun _ => 0))) = some e from hk); exact (fu_at (by omega) (fblk_sk 2 rfl (by omega) (fblk_at 0 (by omega) rfl)))
      · cases (show some (.inl (cII, 1, .inr (.inr (.inr (.inr (fun j => if j < 1 then some ((n + 3) + j) else none)))))) = some e from hk); exact (fu_at (by omega) (fblk_at 0 (by omega) rfl))
      · cases (show some (.inl (cI, 1, .inl (fun _ => 0))) = some e from hk); exact (fu_at (by omega) (fblk_at 1 (by omega) rfl))
    · rcases fu_cases h with ⟨rfl, he⟩ | ⟨hne0, h⟩
      · cases he; exact fu_s
      · exact (fu_at (by omega) (fblk_sk 2 rfl (by omega) (fblk_sk 1 rfl (by omega) (fblk_sk 1 rfl (by omega) h)))))
  exact fx_iret S hr hlocks () hG (rfl) dX10_fills_122
theorem i_X10_pairs_X10 : ∀ w ∈ u_ws RX10 TX10 31, w ∈ wsX10_pairs := by decide +kernel
theorem i_X10_pairs_X9 : ∀ w ∈ u_ws RX9 TX9 5, w ∈ wsX10_pairs := by decide +kernel
theorem k1463_X10_pairs {n : Nat} (hn : N0 + 231 ≤ n) (h0 : F (N0 + 164) = some (.inr (12, [.ref (N0 + 165), .int 0, .ref (N0 + 181), .int 0, .int 0, .int 0, .int (-1), .ref (ql 24), .ref (N0 + 182), .ref (N0 + 187), .ref (N0 + 208), .ref (N0 + 209), .ref (N0 + 210), .ref (N0 + 211), .ref (N0 + 212), .int 0, .ref (N0 + 213), .ref (N0 + 218), .ref (N0 + 223), .ref (N0 + 224), .ref (N0 + 225), .ref (N0 + 226), .ref (N0 + 227), .int 0, .int 0, .ref (N0 + 228), .null, .int (-1), .int 0, .int 0, .int 0]))) (h1 : F (N0 + 211) = some (.inl (cI, 20, .inl (upd (upd (upd (upd (upd (upd (upd (upd (upd (upd (upd (upd (upd (upd (upd (upd (upd (upd (upd (upd (fun _ => 0) 0 (-1)) 1 (-1)) 2 (-1)) 3 (-1)) 4 (-1)) 5 (-1)) 6 (-1)) 7 (-1)) 8 (-1)) 9 (-1)) 10 (-1)) 11 (-1)) 12 (-1)) 13 (-1)) 14 (-1)) 15 (-1)) 16 (-1)) 17 (-1)) 18 (-1)) 19 (-1))))) (h2 : F (N0 + 212) = some (.inl (cI, 20, .inl (upd (upd (upd (upd (upd (upd (upd (upd (upd (upd (upd (upd (upd (upd (upd (upd (upd (upd (upd (upd (fun _ => 0) 0 (-1)) 1 (-1)) 2 (-1)) 3 (-1)) 4 (-1)) 5 (-1)) 6 (-1)) 7 (-1)) 8 (-1)) 9 (-1)) 10 (-1)) 11 (-1)) 12 (-1)) 13 (-1)) 14 (-1)) 15 (-1)) 16 (-1)) 17 (-1)) 18 (-1)) 19 (-1))))) (h3 : F (N0 + 213) = some (.inr (11, [.ref (N0 + 214), .ref (N0 + 215), .ref (N0 + 216), .ref (N0 + 217), .int 1]))) (h4 : F (N0 + 214) = some (.inl (cI, 20, .inl (upd (fun _ => 0) 0 97)))) (h5 : F (N0 + 218) = some (.inr (11, [.ref (N0 + 219), .ref (N0 + 220), .ref (N0 + 221), .ref (N0 + 222), .int 1]))) (h6 : F (N0 + 219) = some (.inl (cI, 20, .inl (upd (fun _ => 0) 0 97)))) (h7 : F (N0 + 216) = some (.inl (cI, 20, .inl (upd (fun _ => 0) 0 0)))) (h8 : F (N0 + 221) = some (.inl (cI, 20, .inl (upd (fun _ => 0) 0 0)))) : Met l yX10_pairs wsX10_pairs ({ frames := 2, cells := 4, slots := 2, locals := 47 }) (va_Pc [.ref (N0 + 164), .ref (N0 + 213), .int 0, .ref (N0 + 218), .int 0] (fP N0 D vwCl (fty cI cC cL cD cII cTr cTm cIt cB) (fen ql) F n)) (fQv N0 D vwCl (fty cI cC cL cD cII cTr cTm cIt cB) (fun (_ : Unit) => True) (fun _ => (fblk (fu (fu F (N0 + 211) (.inl (cI, 20, .inl (upd (upd (upd (upd (upd (upd (upd (upd (upd (upd (upd (upd (upd (upd (upd (upd (upd (upd (upd (upd (upd (fun _ => 0) 0 (-1)) 1 (-1)) 2 (-1)) 3 (-1)) 4 (-1)) 5 (-1)) 6 (-1)) 7 (-1)) 8 (-1)) 9 (-1)) 10 (-1)) 11 (-1)) 12 (-1)) 13 (-1)) 14 (-1)) 15 (-1)) 16 (-1)) 17 (-1)) 18 (-1)) 19 (-1)) 0 0)))) (N0 + 212) (.inl (cI, 20, .inl (upd (upd (upd (upd (upd (upd (upd (upd (upd (upd (upd (upd (upd (upd (upd (upd (upd (upd (upd (upd (upd (fun _ => 0) 0 (-1)) 1 (-1)) 2 (-1)) 3 (-1)) 4 (-1)) 5 (-1)) 6 (-1)) 7 (-1)) 8 (-1)) 9 (-1)) 10 (-1)) 11 (-1)) 12 (-1)) 13 (-1)) 14 (-1)) 15 (-1)) 16 (-1)) 17 (-1)) 18 (-1)) 19 (-1)) 0 0)))) n [.inl (cI, 0, .inl (fun _ => 0)), .inl (cI, 0, .inl (fun _ => 0)), .inl (cII, 1, .inr (.inr (.inr (.inr (fun j => if j < 1 then some ((n + 3) + j) else none))))), .inl (cI, 1, .inl (fun _ => 0))])) (fun _ => (n + 4))) 4 2 (fA N0) := by
  refine fx_start 11 rfl rfl (Nat.le_of_ble_eq_true rfl) ?_ rfl
  intro p e s m below meth c ls S hr hlocks hin hG hl
  have hl : lv_has ls 11 [(0, .ref (N0 + 164)), (1, .ref (N0 + 213)), (2, .int 0), (3, .ref (N0 + 218)), (4, .int 0)] := hl
  have lt_h0 := hG.1.lt h0
  have lt_h1 := hG.1.lt h1
  have lt_h2 := hG.1.lt h2
  have lt_h3 := hG.1.lt h3
  have lt_h4 := hG.1.lt h4
  have lt_h5 := hG.1.lt h5
  have lt_h6 := hG.1.lt h6
  have lt_h7 := hG.1.lt h7
  have lt_h8 := hG.1.lt h8
  refine lv_aload_n S.1 S.2.1 dX10_pairs_0 rfl (lv_at hl 0 rfl) ?_
  refine gx_get (C := RX10) (T := TX10) (N := 31) S hG h0 i_X10_pairs_X10 rfl 13 (by decide) (by decide +kernel) rfl dX10_pairs_1 ?_
  refine lv_iload_n S.1 S.2.1 dX10_pairs_4 rfl (lv_at hl 2 rfl) ?_
  refine lv_iload S.1 S.2.1 dX10_pairs_5 (lv_at hl 4 rfl) ?_
  refine gx_iast (f' := upd (upd (upd (upd (upd (upd (upd (upd (upd (upd (upd (upd (upd (upd (upd (upd (upd (upd (upd (upd (upd (fun _ => 0) 0 (-1)) 1 (-1)) 2 (-1)) 3 (-1)) 4 (-1)) 5 (-1)) 6 (-1)) 7 (-1)) 8 (-1)) 9 (-1)) 10 (-1)) 11 (-1)) 12 (-1)) 13 (-1)) 14 (-1)) 15 (-1)) 16 (-1)) 17 (-1)) 18 (-1)) 19 (-1)) 0 0) S hG 0 h1 rfl (fin_l (by decide)) dX10_pairs_7 (rfl) (fun H locs hG => ?_)
  refine lv_aload_n S.1 S.2.1 dX10_pairs_8 rfl (lv_at hl 0 rfl) ?_
  refine gx_get (C := RX10) (T := TX10) (N := 31) S hG (fu_at (by omega) h0) i_X10_pairs_X10 rfl 14 (by decide) (by decide +kernel) rfl dX10_pairs_9 ?_
  refine lv_iload S.1 S.2.1 dX10_pairs_12 (lv_at hl 4 rfl) ?_
  refine lv_iload_n S.1 S.2.1 dX10_pairs_14 rfl (lv_at hl 2 rfl) ?_
  refine gx_iast (f' := upd (upd (upd (upd (upd (upd (upd (upd (upd (upd (upd (upd (upd (upd (upd (upd (upd (upd (upd (upd (upd (fun _ => 0) 0 (-1)) 1 (-1)) 2 (-1)) 3 (-1)) 4 (-1)) 5 (-1)) 6 (-1)) 7 (-1)) 8 (-1)) 9 (-1)) 10 (-1)) 11 (-1)) 12 (-1)) 13 (-1)) 14 (-1)) 15 (-1)) 16 (-1)) 17 (-1)) 18 (-1)) 19 (-1)) 0 0) S hG 0 (fu_at (by omega) h2) rfl (fin_l (by decide)) dX10_pairs_15 (rfl) (fun H locs hG => ?_)
  refine lv_aload_n S.1 S.2.1 dX10_pairs_16 rfl (lv_at hl 1 rfl) ?_
  refine gx_getN (C := RX9) (T := TX9) (N := 5) S hG (fu_at (by omega) (fu_at (by omega) h3)) i_X10_pairs_X9 rfl 0 (by decide) (List.mem_of_getElem? (i := 1) rfl) rfl dX10_pairs_17 ?_
  refine lv_iload_n S.1 S.2.1 dX10_pairs_20 rfl (lv_at hl 2 rfl) ?_
  refine gx_iald (v := 97) S hG 0 (fu_at (by omega) (fu_at (by omega) h4)) rfl (fin_l (by decide)) (by decide) dX10_pairs_21 ?_
  refine lv_aload_n S.1 S.2.1 dX10_pairs_22 rfl (lv_at hl 3 rfl) ?_
  refine gx_getN (C := RX9) (T := TX9) (N := 5) S hG (fu_at (by omega) (fu_at (by omega) h5)) i_X10_pairs_X9 rfl 0 (by decide) (List.mem_of_getElem? (i := 1) rfl) rfl dX10_pairs_23 ?_
  refine lv_iload S.1 S.2.1 dX10_pairs_26 (lv_at hl 4 rfl) ?_
  refine gx_iald (v := 97) S hG 0 (fu_at (by omega) (fu_at (by omega) h6)) rfl (fin_l (by decide)) (by decide) dX10_pairs_28 ?_
  refine lv_icmp_eq (tgt := 41) S.1 S.2.1 dX10_pairs_29 (by decide) (fun _ => ?_) (fun c => absurd (by decide) c)
  refine lv_aload_n S.1 S.2.1 dX10_pairs_41 rfl (lv_at hl 1 rfl) ?_
  refine gx_getN (C := RX9) (T := TX9) (N := 5) S hG (fu_at (by omega) (fu_at (by omega) h3)) i_X10_pairs_X9 rfl 2 (by decide) (List.mem_of_getElem? (i := 3) rfl) rfl dX10_pairs_42 ?_
  refine lv_iload_n S.1 S.2.1 dX10_pairs_45 rfl (lv_at hl 2 rfl) ?_
  refine gx_iald (v := 0) S hG 0 (fu_at (by omega) (fu_at (by omega) h7)) rfl (fin_l (by decide)) (by decide) dX10_pairs_46 ?_
  refine lv_aload_n S.1 S.2.1 dX10_pairs_47 rfl (lv_at hl 3 rfl) ?_
  refine gx_getN (C := RX9) (T := TX9) (N := 5) S hG (fu_at (by omega) (fu_at (by omega) h5)) i_X10_pairs_X9 rfl 2 (by decide) (List.mem_of_getElem? (i := 3) rfl) rfl dX10_pairs_48 ?_
  refine lv_iload S.1 S.2.1 dX10_pairs_51 (lv_at hl 4 rfl) ?_
  refine gx_iald (v := 0) S hG 0 (fu_at (by omega) (fu_at (by omega) h8)) rfl (fin_l (by decide)) (by decide) dX10_pairs_53 ?_
  refine lv_icmp_eq (tgt := 66) S.1 S.2.1 dX10_pairs_54 (by decide) (fun _ => ?_) (fun c => absurd (by decide) c)
  refine lv_aload_n S.1 S.2.1 dX10_pairs_66 rfl (lv_at hl 1 rfl) ?_
  refine lv_iload_n S.1 S.2.1 dX10_pairs_67 rfl (lv_at hl 2 rfl) ?_
  refine fx_cVNr (host := "TreeDifferModel") (As := [.int 0]) (rest := []) S hG (k1458_X9_kids (by omega) (fu_at (by omega) (fu_at (by omega) h3))) (fu_at (by omega) (fu_at (by omega) h3)) rfl ⟨(va_cnB 1 S.2.2.2.2 gX10_pairs_X9_kids_n173 rfl rfl rfl (hG.nest (show _ ∈ fen2.2.2.1 from by decide)) (S.2.2.2.2 (.initialized RX9) (by decide +kernel)) (by decide +kernel) ⟨Nat.le_of_ble_eq_true rfl, Nat.le_of_ble_eq_true rfl⟩), S.2.2.2.2 (.instanceMethod yX9_kids) (by decide +kernel), S.2.2.2.2 (.selects RX9 yX9_kids yX9_kids) (by decide +kernel)⟩ rfl hl.1 rfl (Nat.le_of_ble_eq_true rfl) dX10_pairs_68 ⟨Nat.le_of_ble_eq_true rfl, Nat.le_of_ble_eq_true rfl⟩ (fun rv_1 _ H locs hp hG => ?_)
  subst rv_1
  refine W.widen (k := 1) (n := 0) (by decide) (by decide) ?_
  refine lv_astore (lv' := [(5, .ref n), (0, .ref (N0 + 164)), (1, .ref (N0 + 213)), (2, .int 0), (3, .ref (N0 + 218)), (4, .int 0)]) S.1 S.2.1 dX10_pairs_71 hl (by decide) rfl (fun ls hl => ?_)
  refine lv_aload_n S.1 S.2.1 dX10_pairs_73 rfl (lv_at hl 4 rfl) ?_
  refine lv_iload S.1 S.2.1 dX10_pairs_74 (lv_at hl 5 rfl) ?_
  refine fx_cVNr (host := "TreeDifferModel") (As := [.int 0]) (rest := []) S hG (k1460_X9_kids (by omega) (fblk_sk 1 rfl (by omega) (fu_at (by omega) (fu_at (by omega) h5)))) (fblk_sk 1 rfl (by omega) (fu_at (by omega) (fu_at (by omega) h5))) rfl ⟨(va_cnB 1 S.2.2.2.2 gX10_pairs_X9_kids_n173 rfl rfl rfl (hG.nest (show _ ∈ fen2.2.2.1 from by decide)) (S.2.2.2.2 (.initialized RX9) (by decide +kernel)) (by decide +kernel) ⟨Nat.le_of_ble_eq_true rfl, Nat.le_of_ble_eq_true rfl⟩), S.2.2.2.2 (.instanceMethod yX9_kids) (by decide +kernel), S.2.2.2.2 (.selects RX9 yX9_kids yX9_kids) (by decide +kernel)⟩ rfl hl.1 rfl (Nat.le_of_ble_eq_true rfl) dX10_pairs_76 ⟨Nat.le_of_ble_eq_true rfl, Nat.le_of_ble_eq_true rfl⟩ (fun rv_2 _ H locs hp hG => ?_)
  subst rv_2
  refine W.widen (k := 2) (n := 0) (by decide) (by decide) ?_
  refine lv_astore (lv' := [(6, .ref (n + 1)), (5, .ref n), (0, .ref (N0 + 164)), (1, .ref (N0 + 213)), (2, .int 0), (3, .ref (N0 + 218)), (4, .int 0)]) S.1 S.2.1 dX10_pairs_79 hl (by decide) rfl (fun ls hl => ?_)
  refine lv_aload_n S.1 S.2.1 dX10_pairs_81 rfl (lv_at hl 2 rfl) ?_
  refine lv_aload_n S.1 S.2.1 dX10_pairs_82 rfl (lv_at hl 3 rfl) ?_
  refine lv_aload S.1 S.2.1 dX10_pairs_83 (lv_at hl 1 rfl) ?_
  refine lv_aload_n S.1 S.2.1 dX10_pairs_85 rfl (lv_at hl 5 rfl) ?_
  refine lv_aload S.1 S.2.1 dX10_pairs_86 (lv_at hl 0 rfl) ?_
  refine fx_cVr (As := [.ref (N0 + 213), .ref n, .ref (N0 + 218), .ref (n + 1)]) (rest := []) S hG (k1461_X10_left (by omega) (by omega) (fblk_sk 1 rfl (by omega) (fblk_at 0 (by omega) rfl)) (fblk_at 0 (by omega) rfl)) (fblk_sk 1 rfl (by omega) (fblk_sk 1 rfl (by omega) (fu_at (by omega) (fu_at (by omega) h0)))) rfl (cwV 4 S.2.2.2.2 gX10_pairs_X10_left rfl rfl rfl (by decide +kernel) ⟨Nat.le_of_ble_eq_true rfl, Nat.le_of_ble_eq_true rfl⟩) rfl hl.1 rfl (Nat.le_of_ble_eq_true rfl) dX10_pairs_88 ⟨Nat.le_of_ble_eq_true rfl, Nat.le_of_ble_eq_true rfl⟩ (fun rv_3 _ H locs hp hG => ?_)
  subst rv_3
  refine W.widen (k := 4) (n := 2) (by decide) (by decide) ?_
  refine lv_astore (lv' := [(7, .ref (n + 2)), (6, .ref (n + 1)), (5, .ref n), (0, .ref (N0 + 164)), (1, .ref (N0 + 213)), (2, .int 0), (3, .ref (N0 + 218)), (4, .int 0)]) S.1 S.2.1 dX10_pairs_91 hl (by decide) rfl (fun ls hl => ?_)
  refine lv_iconst (v := 0) S.1 S.2.1 dX10_pairs_93 (by decide) ?_
  refine lv_istore (lv' := [(8, .int 0), (7, .ref (n + 2)), (6, .ref (n + 1)), (5, .ref n), (0, .ref (N0 + 164)), (1, .ref (N0 + 213)), (2, .int 0), (3, .ref (N0 + 218)), (4, .int 0)]) S.1 S.2.1 dX10_pairs_94 hl (by decide) rfl (fun ls hl => ?_)
  refine lv_iconst (v := 0) S.1 S.2.1 dX10_pairs_96 (by decide) ?_
  refine lv_istore (lv' := [(9, .int 0), (8, .int 0), (7, .ref (n + 2)), (6, .ref (n + 1)), (5, .ref n), (0, .ref (N0 + 164)), (1, .ref (N0 + 213)), (2, .int 0), (3, .ref (N0 + 218)), (4, .int 0)]) S.1 S.2.1 dX10_pairs_97 hl (by decide) rfl (fun ls hl => ?_)
  refine lv_iload S.1 S.2.1 dX10_pairs_99 (lv_at hl 1 rfl) ?_
  refine lv_aload S.1 S.2.1 dX10_pairs_101 (lv_at hl 4 rfl) ?_
  refine gx_alen (v := 0) S hG 0 (fblk_sk 2 rfl (by omega) (fblk_sk 1 rfl (by omega) (fblk_at 0 (by omega) rfl))) rfl (rfl) dX10_pairs_103 ?_
  refine lv_icmp_lt (tgt := 115) S.1 S.2.1 dX10_pairs_104 (by decide) (fun c => absurd c (by decide)) (fun _ => ?_)
  refine lv_iload S.1 S.2.1 dX10_pairs_107 (lv_at hl 0 rfl) ?_
  refine lv_aload S.1 S.2.1 dX10_pairs_109 (lv_at hl 3 rfl) ?_
  refine gx_alen (v := 0) S hG 0 (fblk_sk 2 rfl (by omega) (fblk_at 0 (by omega) rfl)) rfl (rfl) dX10_pairs_111 ?_
  refine lv_icmp_ge (tgt := 314) S.1 S.2.1 dX10_pairs_112 (by decide) (fun _ => ?_) (fun c => absurd (by decide) c)
  have hG : fG N0 D vwCl (fty cI cC cL cD cII cTr cTm cIt cB) (fen ql) s (fblk (fu (fu F (N0 + 211) (.inl (cI, 20, .inl (upd (upd (upd (upd (upd (upd (upd (upd (upd (upd (upd (upd (upd (upd (upd (upd (upd (upd (upd (upd (upd (fun _ => 0) 0 (-1)) 1 (-1)) 2 (-1)) 3 (-1)) 4 (-1)) 5 (-1)) 6 (-1)) 7 (-1)) 8 (-1)) 9 (-1)) 10 (-1)) 11 (-1)) 12 (-1)) 13 (-1)) 14 (-1)) 15 (-1)) 16 (-1)) 17 (-1)) 18 (-1)) 19 (-1)) 0 0)))) (N0 + 212) (.inl (cI, 20, .inl (upd (upd (upd (upd (upd (upd (upd (upd (upd (upd (upd (upd (upd (upd (upd (upd (upd (upd (upd (upd (upd (fun _ => 0) 0 (-1)) 1 (-1)) 2 (-1)) 3 (-1)) 4 (-1)) 5 (-1)) 6 (-1)) 7 (-1)) 8 (-1)) 9 (-1)) 10 (-1)) 11 (-1)) 12 (-1)) 13 (-1)) 14 (-1)) 15 (-1)) 16 (-1)) 17 (-1)) 18 (-1)) 19 (-1)) 0 0)))) n [.inl (cI, 0, .inl (fun _ => 0)), .inl (cI, 0, .inl (fun _ => 0)), .inl (cII, 1, .inr (.inr (.inr (.inr (fun j => if j < 1 then some ((n + 3) + j) else none))))), .inl (cI, 1, .inl (fun _ => 0))]) (n + 4) H locs := hG.weak (fun a e h => by
    rcases fblk_cases 4 rfl h with ⟨k, rfl, hlt, hk⟩ | ⟨hout, h⟩
    · rcases (show k = 0 ∨ k = 1 ∨ k = 2 ∨ k = 3 by omega) with rfl | rfl | rfl | rfl
      · cases (show some (.inl (cI, 0, .inl (fun _ => 0))) = some e from hk); exact (fblk_sk 2 rfl (by omega) (fblk_sk 1 rfl (by omega) (fblk_at 0 (by omega) rfl)))
      · cases (show some (.inl (cI, 0, .inl (fun _ => 0))) = some e from hk); exact (fblk_sk 2 rfl (by omega) (fblk_at 0 (by omega) rfl))
      · cases (show some (.inl (cII, 1, .inr (.inr (.inr (.inr (fun j => if j < 1 then some ((n + 3) + j) else none)))))) = some e from hk); exact (fblk_at 0 (by omega) rfl)
      · cases (show some (.inl (cI, 1, .inl (fun _ => 0))) = some e from hk); exact (fblk_at 1 (by omega) rfl)
    · rcases fu_cases h with ⟨rfl, he⟩ | ⟨hne0, h⟩
      · cases he; exact (fblk_sk 2 rfl (by omega) (fblk_sk 1 rfl (by omega) (fblk_sk 1 rfl (by omega) fu_s)))
      · skip
        rcases fu_cases h with ⟨rfl, he⟩ | ⟨hne1, h⟩
        · cases he; exact (fblk_sk 2 rfl (by omega) (fblk_sk 1 rfl (by omega) (fblk_sk 1 rfl (by omega) (fu_at (by omega) fu_s))))
        · exact (fblk_sk 2 rfl (by omega) (fblk_sk 1 rfl (by omega) (fblk_sk 1 rfl (by omega) (fu_at (by omega) (fu_at (by omega) h))))))
  exact fx_vret S hr hlocks () hG trivial dX10_pairs_314
theorem i_X10_matches_X10 : ∀ w ∈ u_ws RX10 TX10 31, w ∈ wsX10_matches := by decide +kernel
set_option maxHeartbeats 16000000 in
theorem k1464_X10_matches {n : Nat} (hn : N0 + 231 ≤ n) (h0 : F (N0 + 164) = some (.inr (12, [.ref (N0 + 165), .int 0, .ref (N0 + 181), .int 0, .int 0, .int 0, .int (-1), .ref (ql 24), .ref (N0 + 182), .ref (N0 + 187), .ref (N0 + 208), .ref (N0 + 209), .ref (N0 + 210), .ref (N0 + 211), .ref (N0 + 212), .int 0, .ref (N0 + 213), .ref (N0 + 218), .ref (N0 + 223), .ref (N0 + 224), .ref (N0 + 225), .ref (N0 + 226), .ref (N0 + 227), .int 0, .int 0, .ref (N0 + 228), .null, .int (-1), .int 0, .int 0, .int 0]))) (h1 : F (N0 + 211) = some (.inl (cI, 20, .inl (fun _ => 0)))) (h2 : F (N0 + 212) = some (.inl (cI, 20, .inl (fun _ => 0)))) (h3 : F (N0 + 213) = some (.inr (11, [.ref (N0 + 214), .ref (N0 + 215), .ref (N0 + 216), .ref (N0 + 217), .int 1]))) (h4 : F (N0 + 218) = some (.inr (11, [.ref (N0 + 219), .ref (N0 + 220), .ref (N0 + 221), .ref (N0 + 222), .int 1]))) (h5 : F (N0 + 214) = some (.inl (cI, 20, .inl (upd (fun _ => 0) 0 97)))) (h6 : F (N0 + 219) = some (.inl (cI, 20, .inl (upd (fun _ => 0) 0 97)))) (h7 : F (N0 + 216) = some (.inl (cI, 20, .inl (upd (fun _ => 0) 0 0)))) (h8 : F (N0 + 221) = some (.inl (cI, 20, .inl (upd (fun _ => 0) 0 0)))) (h9 : F (N0 + 187) = some (.inl (cII, 20, .inr (.inr (.inr (.inr (fun j => if j < 20 then some ((N0 + 188) + j) else none))))))) (h10 : F (N0 + 188) = some (.inl (cI, 20, .inl (fun _ => 0)))) : Met l yX10_matches wsX10_matches ({ frames := 3, cells := 8, slots := 4, locals := 77 }) (va_Pc [.ref (N0 + 164), .ref (N0 + 213), .ref (N0 + 218)] (fP N0 D vwCl (fty cI cC cL cD cII cTr cTm cIt cB) (fen ql) F n)) (fQv N0 D vwCl (fty cI cC cL cD cII cTr cTm cIt cB) (fun (_ : Unit) => True) (fun _ => (fblk (fu (fu (fu (fu F (N0 + 164) (.inr (12, [.ref (N0 + 165), .int 0, .ref (N0 + 181), .int 0, .int 0, .int 0, .int (-1), .ref (ql 24), .ref (N0 + 182), .ref (N0 + 187), .ref (N0 + 208), .ref (N0 + 209), .ref (N0 + 210), .ref (N0 + 211), .ref (N0 + 212), .int 0, .ref (N0 + 213), .ref (N0 + 218), .ref (N0 + 223), .ref (N0 + 224), .ref (N0 + 225), .ref (N0 + 226), .ref (N0 + 227), .int 0, .int 0, .ref (N0 + 228), .null, .int (-1), .int 0, .int 0, .int 0]))) (N0 + 188) (.inl (cI, 20, .inl (upd (fun _ => 0) 0 0)))) (N0 + 211) (.inl (cI, 20, .inl (upd (upd (upd (upd (upd (upd (upd (upd (upd (upd (upd (upd (upd (upd (upd (upd (upd (upd (upd (upd (upd (fun _ => 0) 0 (-1)) 1 (-1)) 2 (-1)) 3 (-1)) 4 (-1)) 5 (-1)) 6 (-1)) 7 (-1)) 8 (-1)) 9 (-1)) 10 (-1)) 11 (-1)) 12 (-1)) 13 (-1)) 14 (-1)) 15 (-1)) 16 (-1)) 17 (-1)) 18 (-1)) 19 (-1)) 0 0)))) (N0 + 212) (.inl (cI, 20, .inl (upd (upd (upd (upd (upd (upd (upd (upd (upd (upd (upd (upd (upd (upd (upd (upd (upd (upd (upd (upd (upd (fun _ => 0) 0 (-1)) 1 (-1)) 2 (-1)) 3 (-1)) 4 (-1)) 5 (-1)) 6 (-1)) 7 (-1)) 8 (-1)) 9 (-1)) 10 (-1)) 11 (-1)) 12 (-1)) 13 (-1)) 14 (-1)) 15 (-1)) 16 (-1)) 17 (-1)) 18 (-1)) 19 (-1)) 0 0)))) n [.inl (cI, 0, .inl (fun _ => 0)), .inl (cI, 0, .inl (fun _ => 0)), .inl (cII, 1, .inr (.inr (.inr (.inr (fun j => if j < 1 then some ((n + 3) + j) else none))))), .inl (cI, 1, .inl (fun _ => 0)), .inl (cI, 0, .inl (fun _ => 0)), .inl (cI, 0, .inl (fun _ => 0)), .inl (cII, 1, .inr (.inr (.inr (.inr (fun j => if j < 1 then some ((n + 7) + j) else none))))), .inl (cI, 1, .inl (fun _ => 0))])) (fun _ => (n + 8))) 8 4 (fA N0) := by
  refine fx_start 4 rfl rfl (Nat.le_of_ble_eq_true rfl) ?_ rfl
  intro p e s m below meth c ls S hr hlocks hin hG hl
  have hl : lv_has ls 4 [(0, .ref (N0 + 164)), (1, .ref (N0 + 213)), (2, .ref (N0 + 218))] := hl
  have lt_h0 := hG.1.lt h0
  have lt_h1 := hG.1.lt h1
  have lt_h2 := hG.1.lt h2
  have lt_h3 := hG.1.lt h3
  have lt_h4 := hG.1.lt h4
  have lt_h5 := hG.1.lt h5
  have lt_h6 := hG.1.lt h6
  have lt_h7 := hG.1.lt h7
  have lt_h8 := hG.1.lt h8
  have lt_h9 := hG.1.lt h9
  have lt_h10 := hG.1.lt h10
  refine lv_aload_n S.1 S.2.1 dX10_matches_0 rfl (lv_at hl 0 rfl) ?_
  refine lv_iconst (v := 0) S.1 S.2.1 dX10_matches_1 (by decide) ?_
  refine gx_put (C := RX10) (T := TX10) (N := 31) (ty := .int) (v := .int 0) (fs' := [.ref (N0 + 165), .int 0, .ref (N0 + 181), .int 0, .int 0, .int 0, .int (-1), .ref (ql 24), .ref (N0 + 182), .ref (N0 + 187), .ref (N0 + 208), .ref (N0 + 209), .ref (N0 + 210), .ref (N0 + 211), .ref (N0 + 212), .int 0, .ref (N0 + 213), .ref (N0 + 218), .ref (N0 + 223), .ref (N0 + 224), .ref (N0 + 225), .ref (N0 + 226), .ref (N0 + 227), .int 0, .int 0, .ref (N0 + 228), .null, .int (-1), .int 0, .int 0, .int 0]) S hG h0 i_X10_matches_X10 rfl 15 (by decide) tyX10 tyX10_ok nmX10 (by decide +kernel) rfl (by decide +kernel) rfl rfl (Nat.le_of_ble_eq_true rfl) rfl dX10_matches_2 (fun H locs hG => ?_)
  refine lv_iconst (v := 0) S.1 S.2.1 dX10_matches_5 (by decide) ?_
  refine lv_istore_n (lv' := [(3, .int 0), (0, .ref (N0 + 164)), (1, .ref (N0 + 213)), (2, .ref (N0 + 218))]) S.1 S.2.1 dX10_matches_6 rfl hl (by decide) rfl (fun ls hl => ?_)
  refine lv_iload_n S.1 S.2.1 dX10_matches_7 rfl (lv_at hl 0 rfl) ?_
  refine lv_bipush (v := 20) S.1 S.2.1 dX10_matches_8 (by decide) ?_
  refine lv_icmp_ge (tgt := 33) S.1 S.2.1 dX10_matches_10 (by decide) (fun c => absurd c (by decide)) (fun _ => ?_)
  refine lv_aload_n S.1 S.2.1 dX10_matches_13 rfl (lv_at hl 1 rfl) ?_
  refine gx_get (C := RX10) (T := TX10) (N := 31) S hG fu_s i_X10_matches_X10 rfl 13 (by decide) (by decide +kernel) rfl dX10_matches_14 ?_
  refine lv_iload_n S.1 S.2.1 dX10_matches_17 rfl (lv_at hl 0 rfl) ?_
  refine lv_iconst (v := (-1)) S.1 S.2.1 dX10_matches_18 (by decide) ?_
  refine gx_iast (f' := upd (fun _ => 0) 0 (-1)) S hG 0 (fu_at (by omega) h1) rfl (fin_l (by decide)) dX10_matches_19 (rfl) (fun H locs hG => ?_)
  refine lv_aload_n S.1 S.2.1 dX10_matches_20 rfl (lv_at hl 1 rfl) ?_
  refine gx_get (C := RX10) (T := TX10) (N := 31) S hG (fu_at (by omega) fu_s) i_X10_matches_X10 rfl 14 (by decide) (by decide +kernel) rfl dX10_matches_21 ?_
  refine lv_iload_n S.1 S.2.1 dX10_matches_24 rfl (lv_at hl 0 rfl) ?_
  refine lv_iconst (v := (-1)) S.1 S.2.1 dX10_matches_25 (by decide) ?_
  refine gx_iast (f' := upd (fun _ => 0) 0 (-1)) S hG 0 (fu_at (by omega) (fu_at (by omega) h2)) rfl (fin_l (by decide)) dX10_matches_26 (rfl) (fun H locs hG => ?_)
  refine lv_iinc (v := 1) (lv' := [(3, .int 1), (0, .ref (N0 + 164)), (1, .ref (N0 + 213)), (2, .ref (N0 + 218))]) S.1 S.2.1 dX10_matches_27 hl (k := 0) rfl (by decide) (by decide) rfl (fun ls hl => ?_)
  refine lv_goto (tgt := 7) S.1 S.2.1 dX10_matches_30 (by decide) ?_
  refine lv_iload_n S.1 S.2.1 dX10_matches_7 rfl (lv_at hl 0 rfl) ?_
  refine lv_bipush (v := 20) S.1 S.2.1 dX10_matches_8 (by decide) ?_
  refine lv_icmp_ge (tgt := 33) S.1 S.2.1 dX10_matches_10 (by decide) (fun c => absurd c (by decide)) (fun _ => ?_)
  refine lv_aload_n S.1 S.2.1 dX10_matches_13 rfl (lv_at hl 1 rfl) ?_
  refine gx_get (C := RX10) (T := TX10) (N := 31) S hG (fu_at (by omega) (fu_at (by omega) fu_s)) i_X10_matches_X10 rfl 13 (by decide) (by decide +kernel) rfl dX10_matches_14 ?_
  refine lv_iload_n S.1 S.2.1 dX10_matches_17 rfl (lv_at hl 0 rfl) ?_
  refine lv_iconst (v := (-1)) S.1 S.2.1 dX10_matches_18 (by decide) ?_
  refine gx_iast (f' := upd (upd (fun _ => 0) 0 (-1)) 1 (-1)) S hG 0 (fu_at (by omega) fu_s) rfl (fin_l (by decide)) dX10_matches_19 (rfl) (fun H locs hG => ?_)
  refine lv_aload_n S.1 S.2.1 dX10_matches_20 rfl (lv_at hl 1 rfl) ?_
  refine gx_get (C := RX10) (T := TX10) (N := 31) S hG (fu_at (by omega) (fu_at (by omega) (fu_at (by omega) fu_s))) i_X10_matches_X10 rfl 14 (by decide) (by decide +kernel) rfl dX10_matches_21 ?_
  refine lv_iload_n S.1 S.2.1 dX10_matches_24 rfl (lv_at hl 0 rfl) ?_
  refine lv_iconst (v := (-1)) S.1 S.2.1 dX10_matches_25 (by decide) ?_
  refine gx_iast (f' := upd (upd (fun _ => 0) 0 (-1)) 1 (-1)) S hG 0 (fu_at (by omega) fu_s) rfl (fin_l (by decide)) dX10_matches_26 (rfl) (fun H locs hG => ?_)
  refine lv_iinc (v := 2) (lv' := [(3, .int 2), (0, .ref (N0 + 164)), (1, .ref (N0 + 213)), (2, .ref (N0 + 218))]) S.1 S.2.1 dX10_matches_27 hl (k := 0) rfl (by decide) (by decide) rfl (fun ls hl => ?_)
  refine lv_goto (tgt := 7) S.1 S.2.1 dX10_matches_30 (by decide) ?_
  refine lv_iload_n S.1 S.2.1 dX10_matches_7 rfl (lv_at hl 0 rfl) ?_
  refine lv_bipush (v := 20) S.1 S.2.1 dX10_matches_8 (by decide) ?_
  refine lv_icmp_ge (tgt := 33) S.1 S.2.1 dX10_matches_10 (by decide) (fun c => absurd c (by decide)) (fun _ => ?_)
  refine lv_aload_n S.1 S.2.1 dX10_matches_13 rfl (lv_at hl 1 rfl) ?_
  refine gx_get (C := RX10) (T := TX10) (N := 31) S hG (fu_at (by omega) (fu_at (by omega) (fu_at (by omega) (fu_at (by omega) fu_s)))) i_X10_matches_X10 rfl 13 (by decide) (by decide +kernel) rfl dX10_matches_14 ?_
  refine lv_iload_n S.1 S.2.1 dX10_matches_17 rfl (lv_at hl 0 rfl) ?_
  refine lv_iconst (v := (-1)) S.1 S.2.1 dX10_matches_18 (by decide) ?_
  refine gx_iast (f' := upd (upd (upd (fun _ => 0) 0 (-1)) 1 (-1)) 2 (-1)) S hG 0 (fu_at (by omega) fu_s) rfl (fin_l (by decide)) dX10_matches_19 (rfl) (fun H locs hG => ?_)
  refine lv_aload_n S.1 S.2.1 dX10_matches_20 rfl (lv_at hl 1 rfl) ?_
  refine gx_get (C := RX10) (T := TX10) (N := 31) S hG (fu_at (by omega) (fu_at (by omega) (fu_at (by omega) (fu_at (by omega) (fu_at (by omega) fu_s))))) i_X10_matches_X10 rfl 14 (by decide) (by decide +kernel) rfl dX10_matches_21 ?_
  refine lv_iload_n S.1 S.2.1 dX10_matches_24 rfl (lv_at hl 0 rfl) ?_
  refine lv_iconst (v := (-1)) S.1 S.2.1 dX10_matches_25 (by decide) ?_
  refine gx_iast (f' := upd (upd (upd (fun _ => 0) 0 (-1)) 1 (-1)) 2 (-1)) S hG 0 (fu_at (by omega) fu_s) rfl (fin_l (by decide)) dX10_matches_26 (rfl) (fun H locs hG => ?_)
  refine lv_iinc (v := 3) (lv' := [(3, .int 3), (0, .ref (N0 + 164)), (1, .ref (N0 + 213)), (2, .ref (N0 + 218))]) S.1 S.2.1 dX10_matches_27 hl (k := 0) rfl (by decide) (by decide) rfl (fun ls hl => ?_)
  refine lv_goto (tgt := 7) S.1 S.2.1 dX10_matches_30 (by decide) ?_
  refine lv_iload_n S.1 S.2.1 dX10_matches_7 rfl (lv_at hl 0 rfl) ?_
  refine lv_bipush (v := 20) S.1 S.2.1 dX10_matches_8 (by decide) ?_
  refine lv_icmp_ge (tgt := 33) S.1 S.2.1 dX10_matches_10 (by decide) (fun c => absurd c (by decide)) (fun _ => ?_)
  refine lv_aload_n S.1 S.2.1 dX10_matches_13 rfl (lv_at hl 1 rfl) ?_
  refine gx_get (C := RX10) (T := TX10) (N := 31) S hG (fu_at (by omega) (fu_at (by omega) (fu_at (by omega) (fu_at (by omega) (fu_at (by omega) (fu_at (by omega) fu_s)))))) i_X10_matches_X10 rfl 13 (by decide) (by decide +kernel) rfl dX10_matches_14 ?_
  refine lv_iload_n S.1 S.2.1 dX10_matches_17 rfl (lv_at hl 0 rfl) ?_
  refine lv_iconst (v := (-1)) S.1 S.2.1 dX10_matches_18 (by decide) ?_
  refine gx_iast (f' := upd (upd (upd (upd (fun _ => 0) 0 (-1)) 1 (-1)) 2 (-1)) 3 (-1)) S hG 0 (fu_at (by omega) fu_s) rfl (fin_l (by decide)) dX10_matches_19 (rfl) (fun H locs hG => ?_)
  refine lv_aload_n S.1 S.2.1 dX10_matches_20 rfl (lv_at hl 1 rfl) ?_
  refine gx_get (C := RX10) (T := TX10) (N := 31) S hG (fu_at (by omega) (fu_at (by omega) (fu_at (by omega) (fu_at (by omega) (fu_at (by omega) (fu_at (by omega) (fu_at (by omega) fu_s))))))) i_X10_matches_X10 rfl 14 (by decide) (by decide +kernel) rfl dX10_matches_21 ?_
  refine lv_iload_n S.1 S.2.1 dX10_matches_24 rfl (lv_at hl 0 rfl) ?_
  refine lv_iconst (v := (-1)) S.1 S.2.1 dX10_matches_25 (by decide) ?_
  refine gx_iast (f' := upd (upd (upd (upd (fun _ => 0) 0 (-1)) 1 (-1)) 2 (-1)) 3 (-1)) S hG 0 (fu_at (by omega) fu_s) rfl (fin_l (by decide)) dX10_matches_26 (rfl) (fun H locs hG => ?_)
  refine lv_iinc (v := 4) (lv' := [(3, .int 4), (0, .ref (N0 + 164)), (1, .ref (N0 + 213)), (2, .ref (N0 + 218))]) S.1 S.2.1 dX10_matches_27 hl (k := 0) rfl (by decide) (by decide) rfl (fun ls hl => ?_)
  refine lv_goto (tgt := 7) S.1 S.2.1 dX10_matches_30 (by decide) ?_
  refine lv_iload_n S.1 S.2.1 dX10_matches_7 rfl (lv_at hl 0 rfl) ?_
  refine lv_bipush (v := 20) S.1 S.2.1 dX10_matches_8 (by decide) ?_
  refine lv_icmp_ge (tgt := 33) S.1 S.2.1 dX10_matches_10 (by decide) (fun c => absurd c (by decide)) (fun _ => ?_)
  refine lv_aload_n S.1 S.2.1 dX10_matches_13 rfl (lv_at hl 1 rfl) ?_
  refine gx_get (C := RX10) (T := TX10) (N := 31) S hG (fu_at (by omega) (fu_at (by omega) (fu_at (by omega) (fu_at (by omega) (fu_at (by omega) (fu_at (by omega) (fu_at (by omega) (fu_at (by omega) fu_s)))))))) i_X10_matches_X10 rfl 13 (by decide) (by decide +kernel) rfl dX10_matches_14 ?_
  refine lv_iload_n S.1 S.2.1 dX10_matches_17 rfl (lv_at hl 0 rfl) ?_
  refine lv_iconst (v := (-1)) S.1 S.2.1 dX10_matches_18 (by decide) ?_
  refine gx_iast (f' := upd (upd (upd (upd (upd (fun _ => 0) 0 (-1)) 1 (-1)) 2 (-1)) 3 (-1)) 4 (-1)) S hG 0 (fu_at (by omega) fu_s) rfl (fin_l (by decide)) dX10_matches_19 (rfl) (fun H locs hG => ?_)
  refine lv_aload_n S.1 S.2.1 dX10_matches_20 rfl (lv_at hl 1 rfl) ?_
  refine gx_get (C := RX10) (T := TX10) (N := 31) S hG (fu_at (by omega) (fu_at (by omega) (fu_at (by omega) (fu_at (by omega) (fu_at (by omega) (fu_at (by omega) (fu_at (by omega) (fu_at (by omega) (fu_at (by omega) fu_s))))))))) i_X10_matches_X10 rfl 14 (by decide) (by decide +kernel) rfl dX10_matches_21 ?_
  refine lv_iload_n S.1 S.2.1 dX10_matches_24 rfl (lv_at hl 0 rfl) ?_
  refine lv_iconst (v := (-1)) S.1 S.2.1 dX10_matches_25 (by decide) ?_
  refine gx_iast (f' := upd (upd (upd (upd (upd (fun _ => 0) 0 (-1)) 1 (-1)) 2 (-1)) 3 (-1)) 4 (-1)) S hG 0 (fu_at (by omega) fu_s) rfl (fin_l (by decide)) dX10_matches_26 (rfl) (fun H locs hG => ?_)
  refine lv_iinc (v := 5) (lv' := [(3, .int 5), (0, .ref (N0 + 164)), (1, .ref (N0 + 213)), (2, .ref (N0 + 218))]) S.1 S.2.1 dX10_matches_27 hl (k := 0) rfl (by decide) (by decide) rfl (fun ls hl => ?_)
  refine lv_goto (tgt := 7) S.1 S.2.1 dX10_matches_30 (by decide) ?_
  refine lv_iload_n S.1 S.2.1 dX10_matches_7 rfl (lv_at hl 0 rfl) ?_
  refine lv_bipush (v := 20) S.1 S.2.1 dX10_matches_8 (by decide) ?_
  refine lv_icmp_ge (tgt := 33) S.1 S.2.1 dX10_matches_10 (by decide) (fun c => absurd c (by decide)) (fun _ => ?_)
  refine lv_aload_n S.1 S.2.1 dX10_matches_13 rfl (lv_at hl 1 rfl) ?_
  refine gx_get (C := RX10) (T := TX10) (N := 31) S hG (fu_at (by omega) (fu_at (by omega) (fu_at (by omega) (fu_at (by omega) (fu_at (by omega) (fu_at (by omega) (fu_at (by omega) (fu_at (by omega) (fu_at (by omega) (fu_at (by omega) fu_s)))))))))) i_X10_matches_X10 rfl 13 (by decide) (by decide +kernel) rfl dX10_matches_14 ?_
  refine lv_iload_n S.1 S.2.1 dX10_matches_17 rfl (lv_at hl 0 rfl) ?_
  refine lv_iconst (v := (-1)) S.1 S.2.1 dX10_matches_18 (by decide) ?_
  refine gx_iast (f' := upd (upd (upd (upd (upd (upd (fun _ => 0) 0 (-1)) 1 (-1)) 2 (-1)) 3 (-1)) 4 (-1)) 5 (-1)) S hG 0 (fu_at (by omega) fu_s) rfl (fin_l (by decide)) dX10_matches_19 (rfl) (fun H locs hG => ?_)
  refine lv_aload_n S.1 S.2.1 dX10_matches_20 rfl (lv_at hl 1 rfl) ?_
  refine gx_get (C := RX10) (T := TX10) (N := 31) S hG (fu_at (by omega) (fu_at (by omega) (fu_at (by omega) (fu_at (by omega) (fu_at (by omega) (fu_at (by omega) (fu_at (by omega) (fu_at (by omega) (fu_at (by omega) (fu_at (by omega) (fu_at (by omega) fu_s))))))))))) i_X10_matches_X10 rfl 14 (by decide) (by decide +kernel) rfl dX10_matches_21 ?_
  refine lv_iload_n S.1 S.2.1 dX10_matches_24 rfl (lv_at hl 0 rfl) ?_
  refine lv_iconst (v := (-1)) S.1 S.2.1 dX10_matches_25 (by decide) ?_
  refine gx_iast (f' := upd (upd (upd (upd (upd (upd (fun _ => 0) 0 (-1)) 1 (-1)) 2 (-1)) 3 (-1)) 4 (-1)) 5 (-1)) S hG 0 (fu_at (by omega) fu_s) rfl (fin_l (by decide)) dX10_matches_26 (rfl) (fun H locs hG => ?_)
  refine lv_iinc (v := 6) (lv' := [(3, .int 6), (0, .ref (N0 + 164)), (1, .ref (N0 + 213)), (2, .ref (N0 + 218))]) S.1 S.2.1 dX10_matches_27 hl (k := 0) rfl (by decide) (by decide) rfl (fun ls hl => ?_)
  refine lv_goto (tgt := 7) S.1 S.2.1 dX10_matches_30 (by decide) ?_
  refine lv_iload_n S.1 S.2.1 dX10_matches_7 rfl (lv_at hl 0 rfl) ?_
  refine lv_bipush (v := 20) S.1 S.2.1 dX10_matches_8 (by decide) ?_
  refine lv_icmp_ge (tgt := 33) S.1 S.2.1 dX10_matches_10 (by decide) (fun c => absurd c (by decide)) (fun _ => ?_)
  refine lv_aload_n S.1 S.2.1 dX10_matches_13 rfl (lv_at hl 1 rfl) ?_
  refine gx_get (C := RX10) (T := TX10) (N := 31) S hG (fu_at (by omega) (fu_at (by omega) (fu_at (by omega) (fu_at (by omega) (fu_at (by omega) (fu_at (by omega) (fu_at (by omega) (fu_at (by omega) (fu_at (by omega) (fu_at (by omega) (fu_at (by omega) (fu_at (by omega) fu_s)))))))))))) i_X10_matches_X10 rfl 13 (by decide) (by decide +kernel) rfl dX10_matches_14 ?_
  refine lv_iload_n S.1 S.2.1 dX10_matches_17 rfl (lv_at hl 0 rfl) ?_
  refine lv_iconst (v := (-1)) S.1 S.2.1 dX10_matches_18 (by decide) ?_
  refine gx_iast (f' := upd (upd (upd (upd (upd (upd (upd (fun _ => 0) 0 (-1)) 1 (-1)) 2 (-1)) 3 (-1)) 4 (-1)) 5 (-1)) 6 (-1)) S hG 0 (fu_at (by omega) fu_s) rfl (fin_l (by decide)) dX10_matches_19 (rfl) (fun H locs hG => ?_)
  refine lv_aload_n S.1 S.2.1 dX10_matches_20 rfl (lv_at hl 1 rfl) ?_
  refine gx_get (C := RX10) (T := TX10) (N := 31) S hG (fu_at (by omega) (fu_at (by omega) (fu_at (by omega) (fu_at (by omega) (fu_at (by omega) (fu_at (by omega) (fu_at (by omega) (fu_at (by omega) (fu_at (by omega) (fu_at (by omega) (fu_at (by omega) (fu_at (by omega) (fu_at (by omega) fu_s))))))))))))) i_X10_matches_X10 rfl 14 (by decide) (by decide +kernel) rfl dX10_matches_21 ?_
  refine lv_iload_n S.1 S.2.1 dX10_matches_24 rfl (lv_at hl 0 rfl) ?_
  refine lv_iconst (v := (-1)) S.1 S.2.1 dX10_matches_25 (by decide) ?_
  refine gx_iast (f' := upd (upd (upd (upd (upd (upd (upd (fun _ => 0) 0 (-1)) 1 (-1)) 2 (-1)) 3 (-1)) 4 (-1)) 5 (-1)) 6 (-1)) S hG 0 (fu_at (by omega) fu_s) rfl (fin_l (by decide)) dX10_matches_26 (rfl) (fun H locs hG => ?_)
  refine lv_iinc (v := 7) (lv' := [(3, .int 7), (0, .ref (N0 + 164)), (1, .ref (N0 + 213)), (2, .ref (N0 + 218))]) S.1 S.2.1 dX10_matches_27 hl (k := 0) rfl (by decide) (by decide) rfl (fun ls hl => ?_)
  refine lv_goto (tgt := 7) S.1 S.2.1 dX10_matches_30 (by decide) ?_
  refine lv_iload_n S.1 S.2.1 dX10_matches_7 rfl (lv_at hl 0 rfl) ?_
  refine lv_bipush (v := 20) S.1 S.2.1 dX10_matches_8 (by decide) ?_
  refine lv_icmp_ge (tgt := 33) S.1 S.2.1 dX10_matches_10 (by decide) (fun c => absurd c (by decide)) (fun _ => ?_)
  refine lv_aload_n S.1 S.2.1 dX10_matches_13 rfl (lv_at hl 1 rfl) ?_
  refine gx_get (C := RX10) (T := TX10) (N := 31) S hG (fu_at (by omega) (fu_at (by omega) (fu_at (by omega) (fu_at (by omega) (fu_at (by omega) (fu_at (by omega) (fu_at (by omega) (fu_at (by omega) (fu_at (by omega) (fu_at (by omega) (fu_at (by omega) (fu_at (by omega) (fu_at (by omega) (fu_at (by omega) fu_s)))))))))))))) i_X10_matches_X10 rfl 13 (by decide) (by decide +kernel) rfl dX10_matches_14 ?_
  refine lv_iload_n S.1 S.2.1 dX10_matches_17 rfl (lv_at hl 0 rfl) ?_
  refine lv_iconst (v := (-1)) S.1 S.2.1 dX10_matches_18 (by decide) ?_
  refine gx_iast (f' := upd (upd (upd (upd (upd (upd (upd (upd (fun _ => 0) 0 (-1)) 1 (-1)) 2 (-1)) 3 (-1)) 4 (-1)) 5 (-1)) 6 (-1)) 7 (-1)) S hG 0 (fu_at (by omega) fu_s) rfl (fin_l (by decide)) dX10_matches_19 (rfl) (fun H locs hG => ?_)
  refine lv_aload_n S.1 S.2.1 dX10_matches_20 rfl (lv_at hl 1 rfl) ?_
  refine gx_get (C := RX10) (T := TX10) (N := 31) S hG (fu_at (by omega) (fu_at (by omega) (fu_at (by omega) (fu_at (by omega) (fu_at (by omega) (fu_at (by omega) (fu_at (by omega) (fu_at (by omega) (fu_at (by omega) (fu_at (by omega) (fu_at (by omega) (fu_at (by omega) (fu_at (by omega) (fu_at (by omega) (fu_at (by omega) fu_s))))))))))))))) i_X10_matches_X10 rfl 14 (by decide) (by decide +kernel) rfl dX10_matches_21 ?_
  refine lv_iload_n S.1 S.2.1 dX10_matches_24 rfl (lv_at hl 0 rfl) ?_
  refine lv_iconst (v := (-1)) S.1 S.2.1 dX10_matches_25 (by decide) ?_
  refine gx_iast (f' := upd (upd (upd (upd (upd (upd (upd (upd (fun _ => 0) 0 (-1)) 1 (-1)) 2 (-1)) 3 (-1)) 4 (-1)) 5 (-1)) 6 (-1)) 7 (-1)) S hG 0 (fu_at (by omega) fu_s) rfl (fin_l (by decide)) dX10_matches_26 (rfl) (fun H locs hG => ?_)
  refine lv_iinc (v := 8) (lv' := [(3, .int 8), (0, .ref (N0 + 164)), (1, .ref (N0 + 213)), (2, .ref (N0 + 218))]) S.1 S.2.1 dX10_matches_27 hl (k := 0) rfl (by decide) (by decide) rfl (fun ls hl => ?_)
  refine lv_goto (tgt := 7) S.1 S.2.1 dX10_matches_30 (by decide) ?_
  refine lv_iload_n S.1 S.2.1 dX10_matches_7 rfl (lv_at hl 0 rfl) ?_
  refine lv_bipush (v := 20) S.1 S.2.1 dX10_matches_8 (by decide) ?_
  refine lv_icmp_ge (tgt := 33) S.1 S.2.1 dX10_matches_10 (by decide) (fun c => absurd c (by decide)) (fun _ => ?_)
  refine lv_aload_n S.1 S.2.1 dX10_matches_13 rfl (lv_at hl 1 rfl) ?_
  refine gx_get (C := RX10) (T := TX10) (N := 31) S hG (fu_at (by omega) (fu_at (by omega) (fu_at (by omega) (fu_at (by omega) (fu_at (by omega) (fu_at (by omega) (fu_at (by omega) (fu_at (by omega) (fu_at (by omega) (fu_at (by omega) (fu_at (by omega) (fu_at (by omega) (fu_at (by omega) (fu_at (by omega) (fu_at (by omega) (fu_at (by omega) fu_s)))))))))))))))) i_X10_matches_X10 rfl 13 (by decide) (by decide +kernel) rfl dX10_matches_14 ?_
  refine lv_iload_n S.1 S.2.1 dX10_matches_17 rfl (lv_at hl 0 rfl) ?_
  refine lv_iconst (v := (-1)) S.1 S.2.1 dX10_matches_18 (by decide) ?_
  refine gx_iast (f' := upd (upd (upd (upd (upd (upd (upd (upd (upd (fun _ => 0) 0 (-1)) 1 (-1)) 2 (-1)) 3 (-1)) 4 (-1)) 5 (-1)) 6 (-1)) 7 (-1)) 8 (-1)) S hG 0 (fu_at (by omega) fu_s) rfl (fin_l (by decide)) dX10_matches_19 (rfl) (fun H locs hG => ?_)
  refine lv_aload_n S.1 S.2.1 dX10_matches_20 rfl (lv_at hl 1 rfl) ?_
  refine gx_get (C := RX10) (T := TX10) (N := 31) S hG (fu_at (by omega) (fu_at (by omega) (fu_at (by omega) (fu_at (by omega) (fu_at (by omega) (fu_at (by omega) (fu_at (by omega) (fu_at (by omega) (fu_at (by omega) (fu_at (by omega) (fu_at (by omega) (fu_at (by omega) (fu_at (by omega) (fu_at (by omega) (fu_at (by omega) (fu_at (by omega) (fu_at (by omega) fu_s))))))))))))))))) i_X10_matches_X10 rfl 14 (by decide) (by decide +kernel) rfl dX10_matches_21 ?_
  refine lv_iload_n S.1 S.2.1 dX10_matches_24 rfl (lv_at hl 0 rfl) ?_
  refine lv_iconst (v := (-1)) S.1 S.2.1 dX10_matches_25 (by decide) ?_
  refine gx_iast (f' := upd (upd (upd (upd (upd (upd (upd (upd (upd (fun _ => 0) 0 (-1)) 1 (-1)) 2 (-1)) 3 (-1)) 4 (-1)) 5 (-1)) 6 (-1)) 7 (-1)) 8 (-1)) S hG 0 (fu_at (by omega) fu_s) rfl (fin_l (by decide)) dX10_matches_26 (rfl) (fun H locs hG => ?_)
  refine lv_iinc (v := 9) (lv' := [(3, .int 9), (0, .ref (N0 + 164)), (1, .ref (N0 + 213)), (2, .ref (N0 + 218))]) S.1 S.2.1 dX10_matches_27 hl (k := 0) rfl (by decide) (by decide) rfl (fun ls hl => ?_)
  refine lv_goto (tgt := 7) S.1 S.2.1 dX10_matches_30 (by decide) ?_
  refine lv_iload_n S.1 S.2.1 dX10_matches_7 rfl (lv_at hl 0 rfl) ?_
  refine lv_bipush (v := 20) S.1 S.2.1 dX10_matches_8 (by decide) ?_
  refine lv_icmp_ge (tgt := 33) S.1 S.2.1 dX10_matches_10 (by decide) (fun c => absurd c (by decide)) (fun _ => ?_)
  refine lv_aload_n S.1 S.2.1 dX10_matches_13 rfl (lv_at hl 1 rfl) ?_
  refine gx_get (C := RX10) (T := TX10) (N := 31) S hG (fu_at (by omega) (fu_at (by omega) (fu_at (by omega) (fu_at (by omega) (fu_at (by omega) (fu_at (by omega) (fu_at (by omega) (fu_at (by omega) (fu_at (by omega) (fu_at (by omega) (fu_at (by omega) (fu_at (by omega) (fu_at (by omega) (fu_at (by omega) (fu_at (by omega) (fu_at (by omega) (fu_at (by omega) (fu_at (by omega) fu_s)))))))))))))))))) i_X10_matches_X10 rfl 13 (by decide) (by decide +kernel) rfl dX10_matches_14 ?_
  refine lv_iload_n S.1 S.2.1 dX10_matches_17 rfl (lv_at hl 0 rfl) ?_
  refine lv_iconst (v := (-1)) S.1 S.2.1 dX10_matches_18 (by decide) ?_
  refine gx_iast (f' := upd (upd (upd (upd (upd (upd (upd (upd (upd (upd (fun _ => 0) 0 (-1)) 1 (-1)) 2 (-1)) 3 (-1)) 4 (-1)) 5 (-1)) 6 (-1)) 7 (-1)) 8 (-1)) 9 (-1)) S hG 0 (fu_at (by omega) fu_s) rfl (fin_l (by decide)) dX10_matches_19 (rfl) (fun H locs hG => ?_)
  refine lv_aload_n S.1 S.2.1 dX10_matches_20 rfl (lv_at hl 1 rfl) ?_
  refine gx_get (C := RX10) (T := TX10) (N := 31) S hG (fu_at (by omega) (fu_at (by omega) (fu_at (by omega) (fu_at (by omega) (fu_at (by omega) (fu_at (by omega) (fu_at (by omega) (fu_at (by omega) (fu_at (by omega) (fu_at (by omega) (fu_at (by omega) (fu_at (by omega) (fu_at (by omega) (fu_at (by omega) (fu_at (by omega) (fu_at (by omega) (fu_at (by omega) (fu_at (by omega) (fu_at (by omega) fu_s))))))))))))))))))) i_X10_matches_X10 rfl 14 (by decide) (by decide +kernel) rfl dX10_matches_21 ?_
  refine lv_iload_n S.1 S.2.1 dX10_matches_24 rfl (lv_at hl 0 rfl) ?_
  refine lv_iconst (v := (-1)) S.1 S.2.1 dX10_matches_25 (by decide) ?_
  refine gx_iast (f' := upd (upd (upd (upd (upd (upd (upd (upd (upd (upd (fun _ => 0) 0 (-1)) 1 (-1)) 2 (-1)) 3 (-1)) 4 (-1)) 5 (-1)) 6 (-1)) 7 (-1)) 8 (-1)) 9 (-1)) S hG 0 (fu_at (by omega) fu_s) rfl (fin_l (by decide)) dX10_matches_26 (rfl) (fun H locs hG => ?_)
  refine lv_iinc (v := 10) (lv' := [(3, .int 10), (0, .ref (N0 + 164)), (1, .ref (N0 + 213)), (2, .ref (N0 + 218))]) S.1 S.2.1 dX10_matches_27 hl (k := 0) rfl (by decide) (by decide) rfl (fun ls hl => ?_)
  refine lv_goto (tgt := 7) S.1 S.2.1 dX10_matches_30 (by decide) ?_
  refine lv_iload_n S.1 S.2.1 dX10_matches_7 rfl (lv_at hl 0 rfl) ?_
  refine lv_bipush (v := 20) S.1 S.2.1 dX10_matches_8 (by decide) ?_
  refine lv_icmp_ge (tgt := 33) S.1 S.2.1 dX10_matches_10 (by decide) (fun c => absurd c (by decide)) (fun _ => ?_)
  refine lv_aload_n S.1 S.2.1 dX10_matches_13 rfl (lv_at hl 1 rfl) ?_
  refine gx_get (C := RX10) (T := TX10) (N := 31) S hG (fu_at (by omega) (fu_at (by omega) (fu_at (by omega) (fu_at (by omega) (fu_at (by omega) (fu_at (by omega) (fu_at (by omega) (fu_at (by omega) (fu_at (by omega) (fu_at (by omega) (fu_at (by omega) (fu_at (by omega) (fu_at (by omega) (fu_at (by omega) (fu_at (by omega) (fu_at (by omega) (fu_at (by omega) (fu_at (by omega) (fu_at (by omega) (fu_at (by omega) fu_s)))))))))))))))))))) i_X10_matches_X10 rfl 13 (by decide) (by decide +kernel) rfl dX10_matches_14 ?_
  refine lv_iload_n S.1 S.2.1 dX10_matches_17 rfl (lv_at hl 0 rfl) ?_
  refine lv_iconst (v := (-1)) S.1 S.2.1 dX10_matches_18 (by decide) ?_
  refine gx_iast (f' := upd (upd (upd (upd (upd (upd (upd (upd (upd (upd (upd (fun _ => 0) 0 (-1)) 1 (-1)) 2 (-1)) 3 (-1)) 4 (-1)) 5 (-1)) 6 (-1)) 7 (-1)) 8 (-1)) 9 (-1)) 10 (-1)) S hG 0 (fu_at (by omega) fu_s) rfl (fin_l (by decide)) dX10_matches_19 (rfl) (fun H locs hG => ?_)
  refine lv_aload_n S.1 S.2.1 dX10_matches_20 rfl (lv_at hl 1 rfl) ?_
  refine gx_get (C := RX10) (T := TX10) (N := 31) S hG (fu_at (by omega) (fu_at (by omega) (fu_at (by omega) (fu_at (by omega) (fu_at (by omega) (fu_at (by omega) (fu_at (by omega) (fu_at (by omega) (fu_at (by omega) (fu_at (by omega) (fu_at (by omega) (fu_at (by omega) (fu_at (by omega) (fu_at (by omega) (fu_at (by omega) (fu_at (by omega) (fu_at (by omega) (fu_at (by omega) (fu_at (by omega) (fu_at (by omega) (fu_at (by omega) fu_s))))))))))))))))))))) i_X10_matches_X10 rfl 14 (by decide) (by decide +kernel) rfl dX10_matches_21 ?_
  refine lv_iload_n S.1 S.2.1 dX10_matches_24 rfl (lv_at hl 0 rfl) ?_
  refine lv_iconst (v := (-1)) S.1 S.2.1 dX10_matches_25 (by decide) ?_
  refine gx_iast (f' := upd (upd (upd (upd (upd (upd (upd (upd (upd (upd (upd (fun _ => 0) 0 (-1)) 1 (-1)) 2 (-1)) 3 (-1)) 4 (-1)) 5 (-1)) 6 (-1)) 7 (-1)) 8 (-1)) 9 (-1)) 10 (-1)) S hG 0 (fu_at (by omega) fu_s) rfl (fin_l (by decide)) dX10_matches_26 (rfl) (fun H locs hG => ?_)
  refine lv_iinc (v := 11) (lv' := [(3, .int 11), (0, .ref (N0 + 164)), (1, .ref (N0 + 213)), (2, .ref (N0 + 218))]) S.1 S.2.1 dX10_matches_27 hl (k := 0) rfl (by decide) (by decide) rfl (fun ls hl => ?_)
  refine lv_goto (tgt := 7) S.1 S.2.1 dX10_matches_30 (by decide) ?_
  refine lv_iload_n S.1 S.2.1 dX10_matches_7 rfl (lv_at hl 0 rfl) ?_
  refine lv_bipush (v := 20) S.1 S.2.1 dX10_matches_8 (by decide) ?_
  refine lv_icmp_ge (tgt := 33) S.1 S.2.1 dX10_matches_10 (by decide) (fun c => absurd c (by decide)) (fun _ => ?_)
  refine lv_aload_n S.1 S.2.1 dX10_matches_13 rfl (lv_at hl 1 rfl) ?_
  refine gx_get (C := RX10) (T := TX10) (N := 31) S hG (fu_at (by omega) (fu_at (by omega) (fu_at (by omega) (fu_at (by omega) (fu_at (by omega) (fu_at (by omega) (fu_at (by omega) (fu_at (by omega) (fu_at (by omega) (fu_at (by omega) (fu_at (by omega) (fu_at (by omega) (fu_at (by omega) (fu_at (by omega) (fu_at (by omega) (fu_at (by omega) (fu_at (by omega) (fu_at (by omega) (fu_at (by omega) (fu_at (by omega) (fu_at (by omega) (fu_at (by omega) fu_s)))))))))))))))))))))) i_X10_matches_X10 rfl 13 (by decide) (by decide +kernel) rfl dX10_matches_14 ?_
  refine lv_iload_n S.1 S.2.1 dX10_matches_17 rfl (lv_at hl 0 rfl) ?_
  refine lv_iconst (v := (-1)) S.1 S.2.1 dX10_matches_18 (by decide) ?_
  refine gx_iast (f' := upd (upd (upd (upd (upd (upd (upd (upd (upd (upd (upd (upd (fun _ => 0) 0 (-1)) 1 (-1)) 2 (-1)) 3 (-1)) 4 (-1)) 5 (-1)) 6 (-1)) 7 (-1)) 8 (-1)) 9 (-1)) 10 (-1)) 11 (-1)) S hG 0 (fu_at (by omega) fu_s) rfl (fin_l (by decide)) dX10_matches_19 (rfl) (fun H locs hG => ?_)
  refine lv_aload_n S.1 S.2.1 dX10_matches_20 rfl (lv_at hl 1 rfl) ?_
  refine gx_get (C := RX10) (T := TX10) (N := 31) S hG (fu_at (by omega) (fu_at (by omega) (fu_at (by omega) (fu_at (by omega) (fu_at (by omega) (fu_at (by omega) (fu_at (by omega) (fu_at (by omega) (fu_at (by omega) (fu_at (by omega) (fu_at (by omega) (fu_at (by omega) (fu_at (by omega) (fu_at (by omega) (fu_at (by omega) (fu_at (by omega) (fu_at (by omega) (fu_at (by omega) (fu_at (by omega) (fu_at (by omega) (fu_at (by omega) (fu_at (by omega) (fu_at (by omega) fu_s))))))))))))))))))))))) i_X10_matches_X10 rfl 14 (by decide) (by decide +kernel) rfl dX10_matches_21 ?_
  refine lv_iload_n S.1 S.2.1 dX10_matches_24 rfl (lv_at hl 0 rfl) ?_
  refine lv_iconst (v := (-1)) S.1 S.2.1 dX10_matches_25 (by decide) ?_
  refine gx_iast (f' := upd (upd (upd (upd (upd (upd (upd (upd (upd (upd (upd (upd (fun _ => 0) 0 (-1)) 1 (-1)) 2 (-1)) 3 (-1)) 4 (-1)) 5 (-1)) 6 (-1)) 7 (-1)) 8 (-1)) 9 (-1)) 10 (-1)) 11 (-1)) S hG 0 (fu_at (by omega) fu_s) rfl (fin_l (by decide)) dX10_matches_26 (rfl) (fun H locs hG => ?_)
  refine lv_iinc (v := 12) (lv' := [(3, .int 12), (0, .ref (N0 + 164)), (1, .ref (N0 + 213)), (2, .ref (N0 + 218))]) S.1 S.2.1 dX10_matches_27 hl (k := 0) rfl (by decide) (by decide) rfl (fun ls hl => ?_)
  refine lv_goto (tgt := 7) S.1 S.2.1 dX10_matches_30 (by decide) ?_
  refine lv_iload_n S.1 S.2.1 dX10_matches_7 rfl (lv_at hl 0 rfl) ?_
  refine lv_bipush (v := 20) S.1 S.2.1 dX10_matches_8 (by decide) ?_
  refine lv_icmp_ge (tgt := 33) S.1 S.2.1 dX10_matches_10 (by decide) (fun c => absurd c (by decide)) (fun _ => ?_)
  refine lv_aload_n S.1 S.2.1 dX10_matches_13 rfl (lv_at hl 1 rfl) ?_
  refine gx_get (C := RX10) (T := TX10) (N := 31) S hG (fu_at (by omega) (fu_at (by omega) (fu_at (by omega) (fu_at (by omega) (fu_at (by omega) (fu_at (by omega) (fu_at (by omega) (fu_at (by omega) (fu_at (by omega) (fu_at (by omega) (fu_at (by omega) (fu_at (by omega) (fu_at (by omega) (fu_at (by omega) (fu_at (by omega) (fu_at (by omega) (fu_at (by omega) (fu_at (by omega) (fu_at (by omega) (fu_at (by omega) (fu_at (by omega) (fu_at (by omega) (fu_at (by omega) (fu_at (by omega) fu_s)))))))))))))))))))))))) i_X10_matches_X10 rfl 13 (by decide) (by decide +kernel) rfl dX10_matches_14 ?_
  refine lv_iload_n S.1 S.2.1 dX10_matches_17 rfl (lv_at hl 0 rfl) ?_
  refine lv_iconst (v := (-1)) S.1 S.2.1 dX10_matches_18 (by decide) ?_
  refine gx_iast (f' := upd (upd (upd (upd (upd (upd (upd (upd (upd (upd (upd (upd (upd (fun _ => 0) 0 (-1)) 1 (-1)) 2 (-1)) 3 (-1)) 4 (-1)) 5 (-1)) 6 (-1)) 7 (-1)) 8 (-1)) 9 (-1)) 10 (-1)) 11 (-1)) 12 (-1)) S hG 0 (fu_at (by omega) fu_s) rfl (fin_l (by decide)) dX10_matches_19 (rfl) (fun H locs hG => ?_)
  refine lv_aload_n S.1 S.2.1 dX10_matches_20 rfl (lv_at hl 1 rfl) ?_
  refine gx_get (C := RX10) (T := TX10) (N := 31) S hG (fu_at (by omega) (fu_at (by omega) (fu_at (by omega) (fu_at (by omega) (fu_at (by omega) (fu_at (by omega) (fu_at (by omega) (fu_at (by omega) (fu_at (by omega) (fu_at (by omega) (fu_at (by omega) (fu_at (by omega) (fu_at (by omega) (fu_at (by omega) (fu_at (by omega) (fu_at (by omega) (fu_at (by omega) (fu_at (by omega) (fu_at (by omega) (fu_at (by omega) (fu_at (by omega) (fu_at (by omega) (fu_at (by omega) (fu_at (by omega) (fu_at (by omega) fu_s))))))))))))))))))))))))) i_X10_matches_X10 rfl 14 (by decide) (by decide +kernel) rfl dX10_matches_21 ?_
  refine lv_iload_n S.1 S.2.1 dX10_matches_24 rfl (lv_at hl 0 rfl) ?_
  refine lv_iconst (v := (-1)) S.1 S.2.1 dX10_matches_25 (by decide) ?_
  refine gx_iast (f' := upd (upd (upd (upd (upd (upd (upd (upd (upd (upd (upd (upd (upd (fun _ => 0) 0 (-1)) 1 (-1)) 2 (-1)) 3 (-1)) 4 (-1)) 5 (-1)) 6 (-1)) 7 (-1)) 8 (-1)) 9 (-1)) 10 (-1)) 11 (-1)) 12 (-1)) S hG 0 (fu_at (by omega) fu_s) rfl (fin_l (by decide)) dX10_matches_26 (rfl) (fun H locs hG => ?_)
  refine lv_iinc (v := 13) (lv' := [(3, .int 13), (0, .ref (N0 + 164)), (1, .ref (N0 + 213)), (2, .ref (N0 + 218))]) S.1 S.2.1 dX10_matches_27 hl (k := 0) rfl (by decide) (by decide) rfl (fun ls hl => ?_)
  refine lv_goto (tgt := 7) S.1 S.2.1 dX10_matches_30 (by decide) ?_
  refine lv_iload_n S.1 S.2.1 dX10_matches_7 rfl (lv_at hl 0 rfl) ?_
  refine lv_bipush (v := 20) S.1 S.2.1 dX10_matches_8 (by decide) ?_
  refine lv_icmp_ge (tgt := 33) S.1 S.2.1 dX10_matches_10 (by decide) (fun c => absurd c (by decide)) (fun _ => ?_)
  refine lv_aload_n S.1 S.2.1 dX10_matches_13 rfl (lv_at hl 1 rfl) ?_
  refine gx_get (C := RX10) (T := TX10) (N := 31) S hG (fu_at (by omega) (fu_at (by omega) (fu_at (by omega) (fu_at (by omega) (fu_at (by omega) (fu_at (by omega) (fu_at (by omega) (fu_at (by omega) (fu_at (by omega) (fu_at (by omega) (fu_at (by omega) (fu_at (by omega) (fu_at (by omega) (fu_at (by omega) (fu_at (by omega) (fu_at (by omega) (fu_at (by omega) (fu_at (by omega) (fu_at (by omega) (fu_at (by omega) (fu_at (by omega) (fu_at (by omega) (fu_at (by omega) (fu_at (by omega) (fu_at (by omega) (fu_at (by omega) fu_s)))))))))))))))))))))))))) i_X10_matches_X10 rfl 13 (by decide) (by decide +kernel) rfl dX10_matches_14 ?_
  refine lv_iload_n S.1 S.2.1 dX10_matches_17 rfl (lv_at hl 0 rfl) ?_
  refine lv_iconst (v := (-1)) S.1 S.2.1 dX10_matches_18 (by decide) ?_
  refine gx_iast (f' := upd (upd (upd (upd (upd (upd (upd (upd (upd (upd (upd (upd (upd (upd (fun _ => 0) 0 (-1)) 1 (-1)) 2 (-1)) 3 (-1)) 4 (-1)) 5 (-1)) 6 (-1)) 7 (-1)) 8 (-1)) 9 (-1)) 10 (-1)) 11 (-1)) 12 (-1)) 13 (-1)) S hG 0 (fu_at (by omega) fu_s) rfl (fin_l (by decide)) dX10_matches_19 (rfl) (fun H locs hG => ?_)
  refine lv_aload_n S.1 S.2.1 dX10_matches_20 rfl (lv_at hl 1 rfl) ?_
  refine gx_get (C := RX10) (T := TX10) (N := 31) S hG (fu_at (by omega) (fu_at (by omega) (fu_at (by omega) (fu_at (by omega) (fu_at (by omega) (fu_at (by omega) (fu_at (by omega) (fu_at (by omega) (fu_at (by omega) (fu_at (by omega) (fu_at (by omega) (fu_at (by omega) (fu_at (by omega) (fu_at (by omega) (fu_at (by omega) (fu_at (by omega) (fu_at (by omega) (fu_at (by omega) (fu_at (by omega) (fu_at (by omega) (fu_at (by omega) (fu_at (by omega) (fu_at (by omega) (fu_at (by omega) (fu_at (by omega) (fu_at (by omega) (fu_at (by omega) fu_s))))))))))))))))))))))))))) i_X10_matches_X10 rfl 14 (by decide) (by decide +kernel) rfl dX10_matches_21 ?_
  refine lv_iload_n S.1 S.2.1 dX10_matches_24 rfl (lv_at hl 0 rfl) ?_
  refine lv_iconst (v := (-1)) S.1 S.2.1 dX10_matches_25 (by decide) ?_
  refine gx_iast (f' := upd (upd (upd (upd (upd (upd (upd (upd (upd (upd (upd (upd (upd (upd (fun _ => 0) 0 (-1)) 1 (-1)) 2 (-1)) 3 (-1)) 4 (-1)) 5 (-1)) 6 (-1)) 7 (-1)) 8 (-1)) 9 (-1)) 10 (-1)) 11 (-1)) 12 (-1)) 13 (-1)) S hG 0 (fu_at (by omega) fu_s) rfl (fin_l (by decide)) dX10_matches_26 (rfl) (fun H locs hG => ?_)
  refine lv_iinc (v := 14) (lv' := [(3, .int 14), (0, .ref (N0 + 164)), (1, .ref (N0 + 213)), (2, .ref (N0 + 218))]) S.1 S.2.1 dX10_matches_27 hl (k := 0) rfl (by decide) (by decide) rfl (fun ls hl => ?_)
  refine lv_goto (tgt := 7) S.1 S.2.1 dX10_matches_30 (by decide) ?_
  refine lv_iload_n S.1 S.2.1 dX10_matches_7 rfl (lv_at hl 0 rfl) ?_
  refine lv_bipush (v := 20) S.1 S.2.1 dX10_matches_8 (by decide) ?_
  refine lv_icmp_ge (tgt := 33) S.1 S.2.1 dX10_matches_10 (by decide) (fun c => absurd c (by decide)) (fun _ => ?_)
  refine lv_aload_n S.1 S.2.1 dX10_matches_13 rfl (lv_at hl 1 rfl) ?_
  refine gx_get (C := RX10) (T := TX10) (N := 31) S hG (fu_at (by omega) (fu_at (by omega) (fu_at (by omega) (fu_at (by omega) (fu_at (by omega) (fu_at (by omega) (fu_at (by omega) (fu_at (by omega) (fu_at (by omega) (fu_at (by omega) (fu_at (by omega) (fu_at (by omega) (fu_at (by omega) (fu_at (by omega) (fu_at (by omega) (fu_at (by omega) (fu_at (by omega) (fu_at (by omega) (fu_at (by omega) (fu_at (by omega) (fu_at (by omega) (fu_at (by omega) (fu_at (by omega) (fu_at (by omega) (fu_at (by omega) (fu_at (by omega) (fu_at (by omega) (fu_at (by omega) fu_s)))))))))))))))))))))))))))) i_X10_matches_X10 rfl 13 (by decide) (by decide +kernel) rfl dX10_matches_14 ?_
  refine lv_iload_n S.1 S.2.1 dX10_matches_17 rfl (lv_at hl 0 rfl) ?_
  refine lv_iconst (v := (-1)) S.1 S.2.1 dX10_matches_18 (by decide) ?_
  refine gx_iast (f' := upd (upd (upd (upd (upd (upd (upd (upd (upd (upd (upd (upd (upd (upd (upd (fun _ => 0) 0 (-1)) 1 (-1)) 2 (-1)) 3 (-1)) 4 (-1)) 5 (-1)) 6 (-1)) 7 (-1)) 8 (-1)) 9 (-1)) 10 (-1)) 11 (-1)) 12 (-1)) 13 (-1)) 14 (-1)) S hG 0 (fu_at (by omega) fu_s) rfl (fin_l (by decide)) dX10_matches_19 (rfl) (fun H locs hG => ?_)
  refine lv_aload_n S.1 S.2.1 dX10_matches_20 rfl (lv_at hl 1 rfl) ?_
  refine gx_get (C := RX10) (T := TX10) (N := 31) S hG (fu_at (by omega) (fu_at (by omega) (fu_at (by omega) (fu_at (by omega) (fu_at (by omega) (fu_at (by omega) (fu_at (by omega) (fu_at (by omega) (fu_at (by omega) (fu_at (by omega) (fu_at (by omega) (fu_at (by omega) (fu_at (by omega) (fu_at (by omega) (fu_at (by omega) (fu_at (by omega) (fu_at (by omega) (fu_at (by omega) (fu_at (by omega) (fu_at (by omega) (fu_at (by omega) (fu_at (by omega) (fu_at (by omega) (fu_at (by omega) (fu_at (by omega) (fu_at (by omega) (fu_at (by omega) (fu_at (by omega) (fu_at (by omega) fu_s))))))))))))))))))))))))))))) i_X10_matches_X10 rfl 14 (by decide) (by decide +kernel) rfl dX10_matches_21 ?_
  refine lv_iload_n S.1 S.2.1 dX10_matches_24 rfl (lv_at hl 0 rfl) ?_
  refine lv_iconst (v := (-1)) S.1 S.2.1 dX10_matches_25 (by decide) ?_
  refine gx_iast (f' := upd (upd (upd (upd (upd (upd (upd (upd (upd (upd (upd (upd (upd (upd (upd (fun _ => 0) 0 (-1)) 1 (-1)) 2 (-1)) 3 (-1)) 4 (-1)) 5 (-1)) 6 (-1)) 7 (-1)) 8 (-1)) 9 (-1)) 10 (-1)) 11 (-1)) 12 (-1)) 13 (-1)) 14 (-1)) S hG 0 (fu_at (by omega) fu_s) rfl (fin_l (by decide)) dX10_matches_26 (rfl) (fun H locs hG => ?_)
  refine lv_iinc (v := 15) (lv' := [(3, .int 15), (0, .ref (N0 + 164)), (1, .ref (N0 + 213)), (2, .ref (N0 + 218))]) S.1 S.2.1 dX10_matches_27 hl (k := 0) rfl (by decide) (by decide) rfl (fun ls hl => ?_)
  refine lv_goto (tgt := 7) S.1 S.2.1 dX10_matches_30 (by decide) ?_
  refine lv_iload_n S.1 S.2.1 dX10_matches_7 rfl (lv_at hl 0 rfl) ?_
  refine lv_bipush (v := 20) S.1 S.2.1 dX10_matches_8 (by decide) ?_
  refine lv_icmp_ge (tgt := 33) S.1 S.2.1 dX10_matches_10 (by decide) (fun c => absurd c (by decide)) (fun _ => ?_)
  refine lv_aload_n S.1 S.2.1 dX10_matches_13 rfl (lv_at hl 1 rfl) ?_
  refine gx_get (C := RX10) (T := TX10) (N := 31) S hG (fu_at (by omega) (fu_at (by omega) (fu_at (by omega) (fu_at (by omega) (fu_at (by omega) (fu_at (by omega) (fu_at (by omega) (fu_at (by omega) (fu_at (by omega) (fu_at (by omega) (fu_at (by omega) (fu_at (by omega) (fu_at (by omega) (fu_at (by omega) (fu_at (by omega) (fu_at (by omega) (fu_at (by omega) (fu_at (by omega) (fu_at (by omega) (fu_at (by omega) (fu_at (by omega) (fu_at (by omega) (fu_at (by omega) (fu_at (by omega) (fu_at (by omega) (fu_at (by omega) (fu_at (by omega) (fu_at (by omega) (fu_at (by omega) (fu_at (by omega) fu_s)))))))))))))))))))))))))))))) i_X10_matches_X10 rfl 13 (by decide) (by decide +kernel) rfl dX10_matches_14 ?_
  refine lv_iload_n S.1 S.2.1 dX10_matches_17 rfl (lv_at hl 0 rfl) ?_
  refine lv_iconst (v := (-1)) S.1 S.2.1 dX10_matches_18 (by decide) ?_
  refine gx_iast (f' := upd (upd (upd (upd (upd (upd (upd (upd (upd (upd (upd (upd (upd (upd (upd (upd (fun _ => 0) 0 (-1)) 1 (-1)) 2 (-1)) 3 (-1)) 4 (-1)) 5 (-1)) 6 (-1)) 7 (-1)) 8 (-1)) 9 (-1)) 10 (-1)) 11 (-1)) 12 (-1)) 13 (-1)) 14 (-1)) 15 (-1)) S hG 0 (fu_at (by omega) fu_s) rfl (fin_l (by decide)) dX10_matches_19 (rfl) (fun H locs hG => ?_)
  refine lv_aload_n S.1 S.2.1 dX10_matches_20 rfl (lv_at hl 1 rfl) ?_
  refine gx_get (C := RX10) (T := TX10) (N := 31) S hG (fu_at (by omega) (fu_at (by omega) (fu_at (by omega) (fu_at (by omega) (fu_at (by omega) (fu_at (by omega) (fu_at (by omega) (fu_at (by omega) (fu_at (by omega) (fu_at (by omega) (fu_at (by omega) (fu_at (by omega) (fu_at (by omega) (fu_at (by omega) (fu_at (by omega) (fu_at (by omega) (fu_at (by omega) (fu_at (by omega) (fu_at (by omega) (fu_at (by omega) (fu_at (by omega) (fu_at (by omega) (fu_at (by omega) (fu_at (by omega) (fu_at (by omega) (fu_at (by omega) (fu_at (by omega) (fu_at (by omega) (fu_at (by omega) (fu_at (by omega) (fu_at (by omega) fu_s))))))))))))))))))))))))))))))) i_X10_matches_X10 rfl 14 (by decide) (by decide +kernel) rfl dX10_matches_21 ?_
  refine lv_iload_n S.1 S.2.1 dX10_matches_24 rfl (lv_at hl 0 rfl) ?_
  refine lv_iconst (v := (-1)) S.1 S.2.1 dX10_matches_25 (by decide) ?_
  refine gx_iast (f' := upd (upd (upd (upd (upd (upd (upd (upd (upd (upd (upd (upd (upd (upd (upd (upd (fun _ => 0) 0 (-1)) 1 (-1)) 2 (-1)) 3 (-1)) 4 (-1)) 5 (-1)) 6 (-1)) 7 (-1)) 8 (-1)) 9 (-1)) 10 (-1)) 11 (-1)) 12 (-1)) 13 (-1)) 14 (-1)) 15 (-1)) S hG 0 (fu_at (by omega) fu_s) rfl (fin_l (by decide)) dX10_matches_26 (rfl) (fun H locs hG => ?_)
  refine lv_iinc (v := 16) (lv' := [(3, .int 16), (0, .ref (N0 + 164)), (1, .ref (N0 + 213)), (2, .ref (N0 + 218))]) S.1 S.2.1 dX10_matches_27 hl (k := 0) rfl (by decide) (by decide) rfl (fun ls hl => ?_)
  refine lv_goto (tgt := 7) S.1 S.2.1 dX10_matches_30 (by decide) ?_
  refine lv_iload_n S.1 S.2.1 dX10_matches_7 rfl (lv_at hl 0 rfl) ?_
  refine lv_bipush (v := 20) S.1 S.2.1 dX10_matches_8 (by decide) ?_
  refine lv_icmp_ge (tgt := 33) S.1 S.2.1 dX10_matches_10 (by decide) (fun c => absurd c (by decide)) (fun _ => ?_)
  refine lv_aload_n S.1 S.2.1 dX10_matches_13 rfl (lv_at hl 1 rfl) ?_
  refine gx_get (C := RX10) (T := TX10) (N := 31) S hG (fu_at (by omega) (fu_at (by omega) (fu_at (by omega) (fu_at (by omega) (fu_at (by omega) (fu_at (by omega) (fu_at (by omega) (fu_at (by omega) (fu_at (by omega) (fu_at (by omega) (fu_at (by omega) (fu_at (by omega) (fu_at (by omega) (fu_at (by omega) (fu_at (by omega) (fu_at (by omega) (fu_at (by omega) (fu_at (by omega) (fu_at (by omega) (fu_at (by omega) (fu_at (by omega) (fu_at (by omega) (fu_at (by omega) (fu_at (by omega) (fu_at (by omega) (fu_at (by omega) (fu_at (by omega) (fu_at (by omega) (fu_at (by omega) (fu_at (by omega) (fu_at (by omega) (fu_at (by omega) fu_s)))))))))))))))))))))))))))))))) i_X10_matches_X10 rfl 13 (by decide) (by decide +kernel) rfl dX10_matches_14 ?_
  refine lv_iload_n S.1 S.2.1 dX10_matches_17 rfl (lv_at hl 0 rfl) ?_
  refine lv_iconst (v := (-1)) S.1 S.2.1 dX10_matches_18 (by decide) ?_
  refine gx_iast (f' := upd (upd (upd (upd (upd (upd (upd (upd (upd (upd (upd (upd (upd (upd (upd (upd (upd (fun _ => 0) 0 (-1)) 1 (-1)) 2 (-1)) 3 (-1)) 4 (-1)) 5 (-1)) 6 (-1)) 7 (-1)) 8 (-1)) 9 (-1)) 10 (-1)) 11 (-1)) 12 (-1)) 13 (-1)) 14 (-1)) 15 (-1)) 16 (-1)) S hG 0 (fu_at (by omega) fu_s) rfl (fin_l (by decide)) dX10_matches_19 (rfl) (fun H locs hG => ?_)
  refine lv_aload_n S.1 S.2.1 dX10_matches_20 rfl (lv_at hl 1 rfl) ?_
  refine gx_get (C := RX10) (T := TX10) (N := 31) S hG (fu_at (by omega) (fu_at (by omega) (fu_at (by omega) (fu_at (by omega) (fu_at (by omega) (fu_at (by omega) (fu_at (by omega) (fu_at (by omega) (fu_at (by omega) (fu_at (by omega) (fu_at (by omega) (fu_at (by omega) (fu_at (by omega) (fu_at (by omega) (fu_at (by omega) (fu_at (by omega) (fu_at (by omega) (fu_at (by omega) (fu_at (by omega) (fu_at (by omega) (fu_at (by omega) (fu_at (by omega) (fu_at (by omega) (fu_at (by omega) (fu_at (by omega) (fu_at (by omega) (fu_at (by omega) (fu_at (by omega) (fu_at (by omega) (fu_at (by omega) (fu_at (by omega) (fu_at (by omega) (fu_at (by omega) fu_s))))))))))))))))))))))))))))))))) i_X10_matches_X10 rfl 14 (by decide) (by decide +kernel) rfl dX10_matches_21 ?_
  refine lv_iload_n S.1 S.2.1 dX10_matches_24 rfl (lv_at hl 0 rfl) ?_
  refine lv_iconst (v := (-1)) S.1 S.2.1 dX10_matches_25 (by decide) ?_
  refine gx_iast (f' := upd (upd (upd (upd (upd (upd (upd (upd (upd (upd (upd (upd (upd (upd (upd (upd (upd (fun _ => 0) 0 (-1)) 1 (-1)) 2 (-1)) 3 (-1)) 4 (-1)) 5 (-1)) 6 (-1)) 7 (-1)) 8 (-1)) 9 (-1)) 10 (-1)) 11 (-1)) 12 (-1)) 13 (-1)) 14 (-1)) 15 (-1)) 16 (-1)) S hG 0 (fu_at (by omega) fu_s) rfl (fin_l (by decide)) dX10_matches_26 (rfl) (fun H locs hG => ?_)
  refine lv_iinc (v := 17) (lv' := [(3, .int 17), (0, .ref (N0 + 164)), (1, .ref (N0 + 213)), (2, .ref (N0 + 218))]) S.1 S.2.1 dX10_matches_27 hl (k := 0) rfl (by decide) (by decide) rfl (fun ls hl => ?_)
  refine lv_goto (tgt := 7) S.1 S.2.1 dX10_matches_30 (by decide) ?_
  refine lv_iload_n S.1 S.2.1 dX10_matches_7 rfl (lv_at hl 0 rfl) ?_
  refine lv_bipush (v := 20) S.1 S.2.1 dX10_matches_8 (by decide) ?_
  refine lv_icmp_ge (tgt := 33) S.1 S.2.1 dX10_matches_10 (by decide) (fun c => absurd c (by decide)) (fun _ => ?_)
  refine lv_aload_n S.1 S.2.1 dX10_matches_13 rfl (lv_at hl 1 rfl) ?_
  refine gx_get (C := RX10) (T := TX10) (N := 31) S hG (fu_at (by omega) (fu_at (by omega) (fu_at (by omega) (fu_at (by omega) (fu_at (by omega) (fu_at (by omega) (fu_at (by omega) (fu_at (by omega) (fu_at (by omega) (fu_at (by omega) (fu_at (by omega) (fu_at (by omega) (fu_at (by omega) (fu_at (by omega) (fu_at (by omega) (fu_at (by omega) (fu_at (by omega) (fu_at (by omega) (fu_at (by omega) (fu_at (by omega) (fu_at (by omega) (fu_at (by omega) (fu_at (by omega) (fu_at (by omega) (fu_at (by omega) (fu_at (by omega) (fu_at (by omega) (fu_at (by omega) (fu_at (by omega) (fu_at (by omega) (fu_at (by omega) (fu_at (by omega) (fu_at (by omega) (fu_at (by omega) fu_s)))))))))))))))))))))))))))))))))) i_X10_matches_X10 rfl 13 (by decide) (by decide +kernel) rfl dX10_matches_14 ?_
  refine lv_iload_n S.1 S.2.1 dX10_matches_17 rfl (lv_at hl 0 rfl) ?_
  refine lv_iconst (v := (-1)) S.1 S.2.1 dX10_matches_18 (by decide) ?_
  refine gx_iast (f' := upd (upd (upd (upd (upd (upd (upd (upd (upd (upd (upd (upd (upd (upd (upd (upd (upd (upd (fun _ => 0) 0 (-1)) 1 (-1)) 2 (-1)) 3 (-1)) 4 (-1)) 5 (-1)) 6 (-1)) 7 (-1)) 8 (-1)) 9 (-1)) 10 (-1)) 11 (-1)) 12 (-1)) 13 (-1)) 14 (-1)) 15 (-1)) 16 (-1)) 17 (-1)) S hG 0 (fu_at (by omega) fu_s) rfl (fin_l (by decide)) dX10_matches_19 (rfl) (fun H locs hG => ?_)
  refine lv_aload_n S.1 S.2.1 dX10_matches_20 rfl (lv_at hl 1 rfl) ?_
  refine gx_get (C := RX10) (T := TX10) (N := 31) S hG (fu_at (by omega) (fu_at (by omega) (fu_at (by omega) (fu_at (by omega) (fu_at (by omega) (fu_at (by omega) (fu_at (by omega) (fu_at (by omega) (fu_at (by omega) (fu_at (by omega) (fu_at (by omega) (fu_at (by omega) (fu_at (by omega) (fu_at (by omega) (fu_at (by omega) (fu_at (by omega) (fu_at (by omega) (fu_at (by omega) (fu_at (by omega) (fu_at (by omega) (fu_at (by omega) (fu_at (by omega) (fu_at (by omega) (fu_at (by omega) (fu_at (by omega) (fu_at (by omega) (fu_at (by omega) (fu_at (by omega) (fu_at (by omega) (fu_at (by omega) (fu_at (by omega) (fu_at (by omega) (fu_at (by omega) (fu_at (by omega) (fu_at (by omega) fu_s))))))))))))))))))))))))))))))))))) i_X10_matches_X10 rfl 14 (by decide) (by decide +kernel) rfl dX10_matches_21 ?_
  refine lv_iload_n S.1 S.2.1 dX10_matches_24 rfl (lv_at hl 0 rfl) ?_
  refine lv_iconst (v := (-1)) S.1 S.2.1 dX10_matches_25 (by decide) ?_
  refine gx_iast (f' := upd (upd (upd (upd (upd (upd (upd (upd (upd (upd (upd (upd (upd (upd (upd (upd (upd (upd (fun _ => 0) 0 (-1)) 1 (-1)) 2 (-1)) 3 (-1)) 4 (-1)) 5 (-1)) 6 (-1)) 7 (-1)) 8 (-1)) 9 (-1)) 10 (-1)) 11 (-1)) 12 (-1)) 13 (-1)) 14 (-1)) 15 (-1)) 16 (-1)) 17 (-1)) S hG 0 (fu_at (by omega) fu_s) rfl (fin_l (by decide)) dX10_matches_26 (rfl) (fun H locs hG => ?_)
  refine lv_iinc (v := 18) (lv' := [(3, .int 18), (0, .ref (N0 + 164)), (1, .ref (N0 + 213)), (2, .ref (N0 + 218))]) S.1 S.2.1 dX10_matches_27 hl (k := 0) rfl (by decide) (by decide) rfl (fun ls hl => ?_)
  refine lv_goto (tgt := 7) S.1 S.2.1 dX10_matches_30 (by decide) ?_
  refine lv_iload_n S.1 S.2.1 dX10_matches_7 rfl (lv_at hl 0 rfl) ?_
  refine lv_bipush (v := 20) S.1 S.2.1 dX10_matches_8 (by decide) ?_
  refine lv_icmp_ge (tgt := 33) S.1 S.2.1 dX10_matches_10 (by decide) (fun c => absurd c (by decide)) (fun _ => ?_)
  refine lv_aload_n S.1 S.2.1 dX10_matches_13 rfl (lv_at hl 1 rfl) ?_
  refine gx_get (C := RX10) (T := TX10) (N := 31) S hG (fu_at (by omega) (fu_at (by omega) (fu_at (by omega) (fu_at (by omega) (fu_at (by omega) (fu_at (by omega) (fu_at (by omega) (fu_at (by omega) (fu_at (by omega) (fu_at (by omega) (fu_at (by omega) (fu_at (by omega) (fu_at (by omega) (fu_at (by omega) (fu_at (by omega) (fu_at (by omega) (fu_at (by omega) (fu_at (by omega) (fu_at (by omega) (fu_at (by omega) (fu_at (by omega) (fu_at (by omega) (fu_at (by omega) (fu_at (by omega) (fu_at (by omega) (fu_at (by omega) (fu_at (by omega) (fu_at (by omega) (fu_at (by omega) (fu_at (by omega) (fu_at (by omega) (fu_at (by omega) (fu_at (by omega) (fu_at (by omega) (fu_at (by omega) (fu_at (by omega) fu_s)))))))))))))))))))))))))))))))))))) i_X10_matches_X10 rfl 13 (by decide) (by decide +kernel) rfl dX10_matches_14 ?_
  refine lv_iload_n S.1 S.2.1 dX10_matches_17 rfl (lv_at hl 0 rfl) ?_
  refine lv_iconst (v := (-1)) S.1 S.2.1 dX10_matches_18 (by decide) ?_
  refine gx_iast (f' := upd (upd (upd (upd (upd (upd (upd (upd (upd (upd (upd (upd (upd (upd (upd (upd (upd (upd (upd (fun _ => 0) 0 (-1)) 1 (-1)) 2 (-1)) 3 (-1)) 4 (-1)) 5 (-1)) 6 (-1)) 7 (-1)) 8 (-1)) 9 (-1)) 10 (-1)) 11 (-1)) 12 (-1)) 13 (-1)) 14 (-1)) 15 (-1)) 16 (-1)) 17 (-1)) 18 (-1)) S hG 0 (fu_at (by omega) fu_s) rfl (fin_l (by decide)) dX10_matches_19 (rfl) (fun H locs hG => ?_)
  refine lv_aload_n S.1 S.2.1 dX10_matches_20 rfl (lv_at hl 1 rfl) ?_
  refine gx_get (C := RX10) (T := TX10) (N := 31) S hG (fu_at (by omega) (fu_at (by omega) (fu_at (by omega) (fu_at (by omega) (fu_at (by omega) (fu_at (by omega) (fu_at (by omega) (fu_at (by omega) (fu_at (by omega) (fu_at (by omega) (fu_at (by omega) (fu_at (by omega) (fu_at (by omega) (fu_at (by omega) (fu_at (by omega) (fu_at (by omega) (fu_at (by omega) (fu_at (by omega) (fu_at (by omega) (fu_at (by omega) (fu_at (by omega) (fu_at (by omega) (fu_at (by omega) (fu_at (by omega) (fu_at (by omega) (fu_at (by omega) (fu_at (by omega) (fu_at (by omega) (fu_at (by omega) (fu_at (by omega) (fu_at (by omega) (fu_at (by omega) (fu_at (by omega) (fu_at (by omega) (fu_at (by omega) (fu_at (by omega) (fu_at (by omega) fu_s))))))))))))))))))))))))))))))))))))) i_X10_matches_X10 rfl 14 (by decide) (by decide +kernel) rfl dX10_matches_21 ?_
  refine lv_iload_n S.1 S.2.1 dX10_matches_24 rfl (lv_at hl 0 rfl) ?_
  refine lv_iconst (v := (-1)) S.1 S.2.1 dX10_matches_25 (by decide) ?_
  refine gx_iast (f' := upd (upd (upd (upd (upd (upd (upd (upd (upd (upd (upd (upd (upd (upd (upd (upd (upd (upd (upd (fun _ => 0) 0 (-1)) 1 (-1)) 2 (-1)) 3 (-1)) 4 (-1)) 5 (-1)) 6 (-1)) 7 (-1)) 8 (-1)) 9 (-1)) 10 (-1)) 11 (-1)) 12 (-1)) 13 (-1)) 14 (-1)) 15 (-1)) 16 (-1)) 17 (-1)) 18 (-1)) S hG 0 (fu_at (by omega) fu_s) rfl (fin_l (by decide)) dX10_matches_26 (rfl) (fun H locs hG => ?_)
  refine lv_iinc (v := 19) (lv' := [(3, .int 19), (0, .ref (N0 + 164)), (1, .ref (N0 + 213)), (2, .ref (N0 + 218))]) S.1 S.2.1 dX10_matches_27 hl (k := 0) rfl (by decide) (by decide) rfl (fun ls hl => ?_)
  refine lv_goto (tgt := 7) S.1 S.2.1 dX10_matches_30 (by decide) ?_
  refine lv_iload_n S.1 S.2.1 dX10_matches_7 rfl (lv_at hl 0 rfl) ?_
  refine lv_bipush (v := 20) S.1 S.2.1 dX10_matches_8 (by decide) ?_
  refine lv_icmp_ge (tgt := 33) S.1 S.2.1 dX10_matches_10 (by decide) (fun c => absurd c (by decide)) (fun _ => ?_)
  refine lv_aload_n S.1 S.2.1 dX10_matches_13 rfl (lv_at hl 1 rfl) ?_
  refine gx_get (C := RX10) (T := TX10) (N := 31) S hG (fu_at (by omega) (fu_at (by omega) (fu_at (by omega) (fu_at (by omega) (fu_at (by omega) (fu_at (by omega) (fu_at (by omega) (fu_at (by omega) (fu_at (by omega) (fu_at (by omega) (fu_at (by omega) (fu_at (by omega) (fu_at (by omega) (fu_at (by omega) (fu_at (by omega) (fu_at (by omega) (fu_at (by omega) (fu_at (by omega) (fu_at (by omega) (fu_at (by omega) (fu_at (by omega) (fu_at (by omega) (fu_at (by omega) (fu_at (by omega) (fu_at (by omega) (fu_at (by omega) (fu_at (by omega) (fu_at (by omega) (fu_at (by omega) (fu_at (by omega) (fu_at (by omega) (fu_at (by omega) (fu_at (by omega) (fu_at (by omega) (fu_at (by omega) (fu_at (by omega) (fu_at (by omega) (fu_at (by omega) fu_s)))))))))))))))))))))))))))))))))))))) i_X10_matches_X10 rfl 13 (by decide) (by decide +kernel) rfl dX10_matches_14 ?_
  refine lv_iload_n S.1 S.2.1 dX10_matches_17 rfl (lv_at hl 0 rfl) ?_
  refine lv_iconst (v := (-1)) S.1 S.2.1 dX10_matches_18 (by decide) ?_
  refine gx_iast (f' := upd (upd (upd (upd (upd (upd (upd (upd (upd (upd (upd (upd (upd (upd (upd (upd (upd (upd (upd (upd (fun _ => 0) 0 (-1)) 1 (-1)) 2 (-1)) 3 (-1)) 4 (-1)) 5 (-1)) 6 (-1)) 7 (-1)) 8 (-1)) 9 (-1)) 10 (-1)) 11 (-1)) 12 (-1)) 13 (-1)) 14 (-1)) 15 (-1)) 16 (-1)) 17 (-1)) 18 (-1)) 19 (-1)) S hG 0 (fu_at (by omega) fu_s) rfl (fin_l (by decide)) dX10_matches_19 (rfl) (fun H locs hG => ?_)
  refine lv_aload_n S.1 S.2.1 dX10_matches_20 rfl (lv_at hl 1 rfl) ?_
  refine gx_get (C := RX10) (T := TX10) (N := 31) S hG (fu_at (by omega) (fu_at (by omega) (fu_at (by omega) (fu_at (by omega) (fu_at (by omega) (fu_at (by omega) (fu_at (by omega) (fu_at (by omega) (fu_at (by omega) (fu_at (by omega) (fu_at (by omega) (fu_at (by omega) (fu_at (by omega) (fu_at (by omega) (fu_at (by omega) (fu_at (by omega) (fu_at (by omega) (fu_at (by omega) (fu_at (by omega) (fu_at (by omega) (fu_at (by omega) (fu_at (by omega) (fu_at (by omega) (fu_at (by omega) (fu_at (by omega) (fu_at (by omega) (fu_at (by omega) (fu_at (by omega) (fu_at (by omega) (fu_at (by omega) (fu_at (by omega) (fu_at (by omega) (fu_at (by omega) (fu_at (by omega) (fu_at (by omega) (fu_at (by omega) (fu_at (by omega) (fu_at (by omega) (fu_at (by omega) fu_s))))))))))))))))))))))))))))))))))))))) i_X10_matches_X10 rfl 14 (by decide) (by decide +kernel) rfl dX10_matches_21 ?_
  refine lv_iload_n S.1 S.2.1 dX10_matches_24 rfl (lv_at hl 0 rfl) ?_
  refine lv_iconst (v := (-1)) S.1 S.2.1 dX10_matches_25 (by decide) ?_
  refine gx_iast (f' := upd (upd (upd (upd (upd (upd (upd (upd (upd (upd (upd (upd (upd (upd (upd (upd (upd (upd (upd (upd (fun _ => 0) 0 (-1)) 1 (-1)) 2 (-1)) 3 (-1)) 4 (-1)) 5 (-1)) 6 (-1)) 7 (-1)) 8 (-1)) 9 (-1)) 10 (-1)) 11 (-1)) 12 (-1)) 13 (-1)) 14 (-1)) 15 (-1)) 16 (-1)) 17 (-1)) 18 (-1)) 19 (-1)) S hG 0 (fu_at (by omega) fu_s) rfl (fin_l (by decide)) dX10_matches_26 (rfl) (fun H locs hG => ?_)
  refine lv_iinc (v := 20) (lv' := [(3, .int 20), (0, .ref (N0 + 164)), (1, .ref (N0 + 213)), (2, .ref (N0 + 218))]) S.1 S.2.1 dX10_matches_27 hl (k := 0) rfl (by decide) (by decide) rfl (fun ls hl => ?_)
  refine lv_goto (tgt := 7) S.1 S.2.1 dX10_matches_30 (by decide) ?_
  refine lv_iload_n S.1 S.2.1 dX10_matches_7 rfl (lv_at hl 0 rfl) ?_
  refine lv_bipush (v := 20) S.1 S.2.1 dX10_matches_8 (by decide) ?_
  refine lv_icmp_ge (tgt := 33) S.1 S.2.1 dX10_matches_10 (by decide) (fun _ => ?_) (fun c => absurd (by decide) c)
  refine lv_aload_n S.1 S.2.1 dX10_matches_33 rfl (lv_at hl 1 rfl) ?_
  refine lv_aload_n S.1 S.2.1 dX10_matches_34 rfl (lv_at hl 2 rfl) ?_
  refine lv_aload_n S.1 S.2.1 dX10_matches_35 rfl (lv_at hl 3 rfl) ?_
  refine fx_cVi (As := [.ref (N0 + 213), .ref (N0 + 218)]) (rest := []) S hG (k1462_X10_fills (by omega) (fu_at (by omega) (fu_at (by omega) (fu_at (by omega) (fu_at (by omega) (fu_at (by omega) (fu_at (by omega) (fu_at (by omega) (fu_at (by omega) (fu_at (by omega) (fu_at (by omega) (fu_at (by omega) (fu_at (by omega) (fu_at (by omega) (fu_at (by omega) (fu_at (by omega) (fu_at (by omega) (fu_at (by omega) (fu_at (by omega) (fu_at (by omega) (fu_at (by omega) (fu_at (by omega) (fu_at (by omega) (fu_at (by omega) (fu_at (by omega) (fu_at (by omega) (fu_at (by omega) (fu_at (by omega) (fu_at (by omega) (fu_at (by omega) (fu_at (by omega) (fu_at (by omega) (fu_at (by omega) (fu_at (by omega) (fu_at (by omega) (fu_at (by omega) (fu_at (by omega) (fu_at (by omega) (fu_at (by omega) (fu_at (by omega) (fu_at (by omega) (fu_at (by omega) h3))))))))))))))))))))))))))))))))))))))))) (fu_at (by omega) (fu_at (by omega) (fu_at (by omega) (fu_at (by omega) (fu_at (by omega) (fu_at (by omega) (fu_at (by omega) (fu_at (by omega) (fu_at (by omega) (fu_at (by omega) (fu_at (by omega) (fu_at (by omega) (fu_at (by omega) (fu_at (by omega) (fu_at (by omega) (fu_at (by omega) (fu_at (by omega) (fu_at (by omega) (fu_at (by omega) (fu_at (by omega) (fu_at (by omega) (fu_at (by omega) (fu_at (by omega) (fu_at (by omega) (fu_at (by omega) (fu_at (by omega) (fu_at (by omega) (fu_at (by omega) (fu_at (by omega) (fu_at (by omega) (fu_at (by omega) (fu_at (by omega) (fu_at (by omega) (fu_at (by omega) (fu_at (by omega) (fu_at (by omega) (fu_at (by omega) (fu_at (by omega) (fu_at (by omega) (fu_at (by omega) (fu_at (by omega) h4))))))))))))))))))))))))))))))))))))))))) (fu_at (by omega) (fu_at (by omega) (fu_at (by omega) (fu_at (by omega) (fu_at (by omega) (fu_at (by omega) (fu_at (by omega) (fu_at (by omega) (fu_at (by omega) (fu_at (by omega) (fu_at (by omega) (fu_at (by omega) (fu_at (by omega) (fu_at (by omega) (fu_at (by omega) (fu_at (by omega) (fu_at (by omega) (fu_at (by omega) (fu_at (by omega) (fu_at (by omega) (fu_at (by omega) (fu_at (by omega) (fu_at (by omega) (fu_at (by omega) (fu_at (by omega) (fu_at (by omega) (fu_at (by omega) (fu_at (by omega) (fu_at (by omega) (fu_at (by omega) (fu_at (by omega) (fu_at (by omega) (fu_at (by omega) (fu_at (by omega) (fu_at (by omega) (fu_at (by omega) (fu_at (by omega) (fu_at (by omega) (fu_at (by omega) (fu_at (by omega) (fu_at (by omega) h5))))))))))))))))))))))))))))))))))))))))) (fu_at (by omega) (fu_at (by omega) (fu_at (by omega) (fu_at (by omega) (fu_at (by omega) (fu_at (by omega) (fu_at (by omega) (fu_at (by omega) (fu_at (by omega) (fu_at (by omega) (fu_at (by omega) (fu_at (by omega) (fu_at (by omega) (fu_at (by omega) (fu_at (by omega) (fu_at (by omega) (fu_at (by omega) (fu_at (by omega) (fu_at (by omega) (fu_at (by omega) (fu_at (by omega) (fu_at (by omega) (fu_at (by omega) (fu_at (by omega) (fu_at (by omega) (fu_at (by omega) (fu_at (by omega) (fu_at (by omega) (fu_at (by omega) (fu_at (by omega) (fu_at (by omega) (fu_at (by omega) (fu_at (by omega) (fu_at (by omega) (fu_at (by omega) (fu_at (by omega) (fu_at (by omega) (fu_at (by omega) (fu_at (by omega) (fu_at (by omega) (fu_at (by omega) h6))))))))))))))))))))))))))))))))))))))))) (fu_at (by omega) (fu_at (by omega) (fu_at (by omega) (fu_at (by omega) (fu_at (by omega) (fu_at (by omega) (fu_at (by omega) (fu_at (by omega) (fu_at (by omega) (fu_at (by omega) (fu_at (by omega) (fu_at (by omega) (fu_at (by omega) (fu_at (by omega) (fu_at (by omega) (fu_at (by omega) (fu_at (by omega) (fu_at (by omega) (fu_at (by omega) (fu_at (by omega) (fu_at (by omega) (fu_at (by omega) (fu_at (by omega) (fu_at (by omega) (fu_at (by omega) (fu_at (by omega) (fu_at (by omega) (fu_at (by omega) (fu_at (by omega) (fu_at (by omega) (fu_at (by omega) (fu_at (by omega) (fu_at (by omega) (fu_at (by omega) (fu_at (by omega) (fu_at (by omega) (fu_at (by omega) (fu_at (by omega) (fu_at (by omega) (fu_at (by omega) (fu_at (by omega) h7))))))))))))))))))))))))))))))))))))))))) (fu_at (by omega) (fu_at (by omega) (fu_at (by omega) (fu_at (by omega) (fu_at (by omega) (fu_at (by omega) (fu_at (by omega) (fu_at (by omega) (fu_at (by omega) (fu_at (by omega) (fu_at (by omega) (fu_at (by omega) (fu_at (by omega) (fu_at (by omega) (fu_at (by omega) (fu_at (by omega) (fu_at (by omega) (fu_at (by omega) (fu_at (by omega) (fu_at (by omega) (fu_at (by omega) (fu_at (by omega) (fu_at (by omega) (fu_at (by omega) (fu_at (by omega) (fu_at (by omega) (fu_at (by omega) (fu_at (by omega) (fu_at (by omega) (fu_at (by omega) (fu_at (by omega) (fu_at (by omega) (fu_at (by omega) (fu_at (by omega) (fu_at (by omega) (fu_at (by omega) (fu_at (by omega) (fu_at (by omega) (fu_at (by omega) (fu_at (by omega) (fu_at (by omega) h8))))))))))))))))))))))))))))))))))))))))) (fu_at (by omega) (fu_at (by omega) (fu_at (by omega) (fu_at (by omega) (fu_at (by omega) (fu_at (by omega) (fu_at (by omega) (fu_at (by omega) (fu_at (by omega) (fu_at (by omega) (fu_at (by omega) (fu_at (by omega) (fu_at (by omega) (fu_at (by omega) (fu_at (by omega) (fu_at (by omega) (fu_at (by omega) (fu_at (by omega) (fu_at (by omega) (fu_at (by omega) (fu_at (by omega) (fu_at (by omega) (fu_at (by omega) (fu_at (by omega) (fu_at (by omega) (fu_at (by omega) (fu_at (by omega) (fu_at (by omega) (fu_at (by omega) (fu_at (by omega) (fu_at (by omega) (fu_at (by omega) (fu_at (by omega) (fu_at (by omega) (fu_at (by omega) (fu_at (by omega) (fu_at (by omega) (fu_at (by omega) (fu_at (by omega) (fu_at (by omega) fu_s)))))))))))))))))))))))))))))))))))))))) (fu_at (by omega) (fu_at (by omega) (fu_at (by omega) (fu_at (by omega) (fu_at (by omega) (fu_at (by omega) (fu_at (by omega) (fu_at (by omega) (fu_at (by omega) (fu_at (by omega) (fu_at (by omega) (fu_at (by omega) (fu_at (by omega) (fu_at (by omega) (fu_at (by omega) (fu_at (by omega) (fu_at (by omega) (fu_at (by omega) (fu_at (by omega) (fu_at (by omega) (fu_at (by omega) (fu_at (by omega) (fu_at (by omega) (fu_at (by omega) (fu_at (by omega) (fu_at (by omega) (fu_at (by omega) (fu_at (by omega) (fu_at (by omega) (fu_at (by omega) (fu_at (by omega) (fu_at (by omega) (fu_at (by omega) (fu_at (by omega) (fu_at (by omega) (fu_at (by omega) (fu_at (by omega) (fu_at (by omega) (fu_at (by omega) (fu_at (by omega) (fu_at (by omega) h9))))))))))))))))))))))))))))))))))))))))) (fu_at (by omega) (fu_at (by omega) (fu_at (by omega) (fu_at (by omega) (fu_at (by omega) (fu_at (by omega) (fu_at (by omega) (fu_at (by omega) (fu_at (by omega) (fu_at (by omega) (fu_at (by omega) (fu_at (by omega) (fu_at (by omega) (fu_at (by omega) (fu_at (by omega) (fu_at (by omega) (fu_at (by omega) (fu_at (by omega) (fu_at (by omega) (fu_at (by omega) (fu_at (by omega) (fu_at (by omega) (fu_at (by omega) (fu_at (by omega) (fu_at (by omega) (fu_at (by omega) (fu_at (by omega) (fu_at (by omega) (fu_at (by omega) (fu_at (by omega) (fu_at (by omega) (fu_at (by omega) (fu_at (by omega) (fu_at (by omega) (fu_at (by omega) (fu_at (by omega) (fu_at (by omega) (fu_at (by omega) (fu_at (by omega) (fu_at (by omega) (fu_at (by omega) h10)))))))))))))))))))))))))))))))))))))))))) (fu_at (by omega) (fu_at (by omega) (fu_at (by omega) (fu_at (by omega) (fu_at (by omega) (fu_at (by omega) (fu_at (by omega) (fu_at (by omega) (fu_at (by omega) (fu_at (by omega) (fu_at (by omega) (fu_at (by omega) (fu_at (by omega) (fu_at (by omega) (fu_at (by omega) (fu_at (by omega) (fu_at (by omega) (fu_at (by omega) (fu_at (by omega) (fu_at (by omega) (fu_at (by omega) (fu_at (by omega) (fu_at (by omega) (fu_at (by omega) (fu_at (by omega) (fu_at (by omega) (fu_at (by omega) (fu_at (by omega) (fu_at (by omega) (fu_at (by omega) (fu_at (by omega) (fu_at (by omega) (fu_at (by omega) (fu_at (by omega) (fu_at (by omega) (fu_at (by omega) (fu_at (by omega) (fu_at (by omega) (fu_at (by omega) (fu_at (by omega) fu_s)))))))))))))))))))))))))))))))))))))))) rfl (cwV 2 S.2.2.2.2 gX10_matches_X10_fills rfl rfl rfl (by decide +kernel) ⟨Nat.le_of_ble_eq_true rfl, Nat.le_of_ble_eq_true rfl⟩) rfl hl.1 rfl (Nat.le_of_ble_eq_true rfl) dX10_matches_36 ⟨Nat.le_of_ble_eq_true rfl, Nat.le_of_ble_eq_true rfl⟩ (fun rv_1 _ H locs hp hG => ?_)
  subst rv_1
  refine W.widen (k := 4) (n := 2) (by decide) (by decide) ?_
  refine lv_pop S.1 S.2.1 dX10_matches_39 rfl ?_
  refine lv_aload_n S.1 S.2.1 dX10_matches_40 rfl (lv_at hl 1 rfl) ?_
  refine lv_aload_n S.1 S.2.1 dX10_matches_41 rfl (lv_at hl 2 rfl) ?_
  refine lv_iconst (v := 0) S.1 S.2.1 dX10_matches_42 (by decide) ?_
  refine lv_aload_n S.1 S.2.1 dX10_matches_43 rfl (lv_at hl 3 rfl) ?_
  refine lv_iconst (v := 0) S.1 S.2.1 dX10_matches_44 (by decide) ?_
  refine fx_cVv (As := [.ref (N0 + 213), .int 0, .ref (N0 + 218), .int 0]) (rest := []) S hG (k1463_X10_pairs (by omega) (fblk_sk 4 rfl (by omega) (fu_at (by omega) (fu_at (by omega) (fu_at (by omega) (fu_at (by omega) (fu_at (by omega) (fu_at (by omega) (fu_at (by omega) (fu_at (by omega) (fu_at (by omega) (fu_at (by omega) (fu_at (by omega) (fu_at (by omega) (fu_at (by omega) (fu_at (by omega) (fu_at (by omega) (fu_at (by omega) (fu_at (by omega) (fu_at (by omega) (fu_at (by omega) (fu_at (by omega) (fu_at (by omega) (fu_at (by omega) (fu_at (by omega) (fu_at (by omega) (fu_at (by omega) (fu_at (by omega) (fu_at (by omega) (fu_at (by omega) (fu_at (by omega) (fu_at (by omega) (fu_at (by omega) (fu_at (by omega) (fu_at (by omega) (fu_at (by omega) (fu_at (by omega) (fu_at (by omega) (fu_at (by omega) (fu_at (by omega) (fu_at (by omega) (fu_at (by omega) (fu_at (by omega) fu_s)))))))))))))))))))))))))))))))))))))))))) (fblk_sk 4 rfl (by omega) (fu_at (by omega) (fu_at (by omega) fu_s))) (fblk_sk 4 rfl (by omega) (fu_at (by omega) fu_s)) (fblk_sk 4 rfl (by omega) (fu_at (by omega) (fu_at (by omega) (fu_at (by omega) (fu_at (by omega) (fu_at (by omega) (fu_at (by omega) (fu_at (by omega) (fu_at (by omega) (fu_at (by omega) (fu_at (by omega) (fu_at (by omega) (fu_at (by omega) (fu_at (by omega) (fu_at (by omega) (fu_at (by omega) (fu_at (by omega) (fu_at (by omega) (fu_at (by omega) (fu_at (by omega) (fu_at (by omega) (fu_at (by omega) (fu_at (by omega) (fu_at (by omega) (fu_at (by omega) (fu_at (by omega) (fu_at (by omega) (fu_at (by omega) (fu_at (by omega) (fu_at (by omega) (fu_at (by omega) (fu_at (by omega) (fu_at (by omega) (fu_at (by omega) (fu_at (by omega) (fu_at (by omega) (fu_at (by omega) (fu_at (by omega) (fu_at (by omega) (fu_at (by omega) (fu_at (by omega) (fu_at (by omega) (fu_at (by omega) h3))))))))))))))))))))))))))))))))))))))))))) (fblk_sk 4 rfl (by omega) (fu_at (by omega) (fu_at (by omega) (fu_at (by omega) (fu_at (by omega) (fu_at (by omega) (fu_at (by omega) (fu_at (by omega) (fu_at (by omega) (fu_at (by omega) (fu_at (by omega) (fu_at (by omega) (fu_at (by omega) (fu_at (by omega) (fu_at (by omega) (fu_at (by omega) (fu_at (by omega) (fu_at (by omega) (fu_at (by omega) (fu_at (by omega) (fu_at (by omega) (fu_at (by omega) (fu_at (by omega) (fu_at (by omega) (fu_at (by omega) (fu_at (by omega) (fu_at (by omega) (fu_at (by omega) (fu_at (by omega) (fu_at (by omega) (fu_at (by omega) (fu_at (by omega) (fu_at (by omega) (fu_at (by omega) (fu_at (by omega) (fu_at (by omega) (fu_at (by omega) (fu_at (by omega) (fu_at (by omega) (fu_at (by omega) (fu_at (by omega) (fu_at (by omega) (fu_at (by omega) h5))))))))))))))))))))))))))))))))))))))))))) (fblk_sk 4 rfl (by omega) (fu_at (by omega) (fu_at (by omega) (fu_at (by omega) (fu_at (by omega) (fu_at (by omega) (fu_at (by omega) (fu_at (by omega) (fu_at (by omega) (fu_at (by omega) (fu_at (by omega) (fu_at (by omega) (fu_at (by omega) (fu_at (by omega) (fu_at (by omega) (fu_at (by omega) (fu_at (by omega) (fu_at (by omega) (fu_at (by omega) (fu_at (by omega) (fu_at (by omega) (fu_at (by omega) (fu_at (by omega) (fu_at (by omega) (fu_at (by omega) (fu_at (by omega) (fu_at (by omega) (fu_at (by omega) (fu_at (by omega) (fu_at (by omega) (fu_at (by omega) (fu_at (by omega) (fu_at (by omega) (fu_at (by omega) (fu_at (by omega) (fu_at (by omega) (fu_at (by omega) (fu_at (by omega) (fu_at (by omega) (fu_at (by omega) (fu_at (by omega) (fu_at (by omega) (fu_at (by omega) h4))))))))))))))))))))))))))))))))))))))))))) (fblk_sk 4 rfl (by omega) (fu_at (by omega) (fu_at (by omega) (fu_at (by omega) (fu_at (by omega) (fu_at (by omega) (fu_at (by omega) (fu_at (by omega) (fu_at (by omega) (fu_at (by omega) (fu_at (by omega) (fu_at (by omega) (fu_at (by omega) (fu_at (by omega) (fu_at (by omega) (fu_at (by omega) (fu_at (by omega) (fu_at (by omega) (fu_at (by omega) (fu_at (by omega) (fu_at (by omega) (fu_at (by omega) (fu_at (by omega) (fu_at (by omega) (fu_at (by omega) (fu_at (by omega) (fu_at (by omega) (fu_at (by omega) (fu_at (by omega) (fu_at (by omega) (fu_at (by omega) (fu_at (by omega) (fu_at (by omega) (fu_at (by omega) (fu_at (by omega) (fu_at (by omega) (fu_at (by omega) (fu_at (by omega) (fu_at (by omega) (fu_at (by omega) (fu_at (by omega) (fu_at (by omega) (fu_at (by omega) h6))))))))))))))))))))))))))))))))))))))))))) (fblk_sk 4 rfl (by omega) (fu_at (by omega) (fu_at (by omega) (fu_at (by omega) (fu_at (by omega) (fu_at (by omega) (fu_at (by omega) (fu_at (by omega) (fu_at (by omega) (fu_at (by omega) (fu_at (by omega) (fu_at (by omega) (fu_at (by omega) (fu_at (by omega) (fu_at (by omega) (fu_at (by omega) (fu_at (by omega) (fu_at (by omega) (fu_at (by omega) (fu_at (by omega) (fu_at (by omega) (fu_at (by omega) (fu_at (by omega) (fu_at (by omega) (fu_at (by omega) (fu_at (by omega) (fu_at (by omega) (fu_at (by omega) (fu_at (by omega) (fu_at (by omega) (fu_at (by omega) (fu_at (by omega) (fu_at (by omega) (fu_at (by omega) (fu_at (by omega) (fu_at (by omega) (fu_at (by omega) (fu_at (by omega) (fu_at (by omega) (fu_at (by omega) (fu_at (by omega) (fu_at (by omega) (fu_at (by omega) h7))))))))))))))))))))))))))))))))))))))))))) (fblk_sk 4 rfl (by omega) (fu_at (by omega) (fu_at (by omega) (fu_at (by omega) (fu_at (by omega) (fu_at (by omega) (fu_at (by omega) (fu_at (by omega) (fu_at (by omega) (fu_at (by omega) (fu_at (by omega) (fu_at (by omega) (fu_at (by omega) (fu_at (by omega) (fu_at (by omega) (fu_at (by omega) (fu_at (by omega) (fu_at (by omega) (fu_at (by omega) (fu_at (by omega) (fu_at (by omega) (fu_at (by omega) (fu_at (by omega) (fu_at (by omega) (fu_at (by omega) (fu_at (by omega) (fu_at (by omega) (fu_at (by omega) (fu_at (by omega) (fu_at (by omega) (fu_at (by omega) (fu_at (by omega) (fu_at (by omega) (fu_at (by omega) (fu_at (by omega) (fu_at (by omega) (fu_at (by omega) (fu_at (by omega) (fu_at (by omega) (fu_at (by omega) (fu_at (by omega) (fu_at (by omega) (fu_at (by omega) h8)))))))))))))))))))))))))))))))))))))))))))) (fblk_sk 4 rfl (by omega) (fu_at (by omega) (fu_at (by omega) (fu_at (by omega) (fu_at (by omega) (fu_at (by omega) (fu_at (by omega) (fu_at (by omega) (fu_at (by omega) (fu_at (by omega) (fu_at (by omega) (fu_at (by omega) (fu_at (by omega) (fu_at (by omega) (fu_at (by omega) (fu_at (by omega) (fu_at (by omega) (fu_at (by omega) (fu_at (by omega) (fu_at (by omega) (fu_at (by omega) (fu_at (by omega) (fu_at (by omega) (fu_at (by omega) (fu_at (by omega) (fu_at (by omega) (fu_at (by omega) (fu_at (by omega) (fu_at (by omega) (fu_at (by omega) (fu_at (by omega) (fu_at (by omega) (fu_at (by omega) (fu_at (by omega) (fu_at (by omega) (fu_at (by omega) (fu_at (by omega) (fu_at (by omega) (fu_at (by omega) (fu_at (by omega) (fu_at (by omega) (fu_at (by omega) fu_s)))))))))))))))))))))))))))))))))))))))))) rfl (cwV 4 S.2.2.2.2 gX10_matches_X10_pairs rfl rfl rfl (by decide +kernel) ⟨Nat.le_of_ble_eq_true rfl, Nat.le_of_ble_eq_true rfl⟩) rfl hl.1 rfl (Nat.le_of_ble_eq_true rfl) dX10_matches_45 ⟨Nat.le_of_ble_eq_true rfl, Nat.le_of_ble_eq_true rfl⟩ (fun _ H locs hp hG => ?_)
  refine W.widen (k := 8) (n := 4) (by decide) (by decide) ?_
  have hG : fG N0 D vwCl (fty cI cC cL cD cII cTr cTm cIt cB) (fen ql) s (fblk (fu (fu (fu (fu F (N0 + 164) (.inr (12, [.ref (N0 + 165), .int 0, .ref (N0 + 181), .int 0, .int 0, .int 0, .int (-1), .ref (ql 24), .ref (N0 + 182), .ref (N0 + 187), .ref (N0 + 208), .ref (N0 + 209), .ref (N0 + 210), .ref (N0 + 211), .ref (N0 + 212), .int 0, .ref (N0 + 213), .ref (N0 + 218), .ref (N0 + 223), .ref (N0 + 224), .ref (N0 + 225), .ref (N0 + 226), .ref (N0 + 227), .int 0, .int 0, .ref (N0 + 228), .null, .int (-1), .int 0, .int 0, .int 0]))) (N0 + 188) (.inl (cI, 20, .inl (upd (fun _ => 0) 0 0)))) (N0 + 211) (.inl (cI, 20, .inl (upd (upd (upd (upd (upd (upd (upd (upd (upd (upd (upd (upd (upd (upd (upd (upd (upd (upd (upd (upd (upd (fun _ => 0) 0 (-1)) 1 (-1)) 2 (-1)) 3 (-1)) 4 (-1)) 5 (-1)) 6 (-1)) 7 (-1)) 8 (-1)) 9 (-1)) 10 (-1)) 11 (-1)) 12 (-1)) 13 (-1)) 14 (-1)) 15 (-1)) 16 (-1)) 17 (-1)) 18 (-1)) 19 (-1)) 0 0)))) (N0 + 212) (.inl (cI, 20, .inl (upd (upd (upd (upd (upd (upd (upd (upd (upd (upd (upd (upd (upd (upd (upd (upd (upd (upd (upd (upd (upd (fun _ => 0) 0 (-1)) 1 (-1)) 2 (-1)) 3 (-1)) 4 (-1)) 5 (-1)) 6 (-1)) 7 (-1)) 8 (-1)) 9 (-1)) 10 (-1)) 11 (-1)) 12 (-1)) 13 (-1)) 14 (-1)) 15 (-1)) 16 (-1)) 17 (-1)) 18 (-1)) 19 (-1)) 0 0)))) n [.inl (cI, 0, .inl (fun _ => 0)), .inl (cI, 0, .inl (fun _ => 0)), .inl (cII, 1, .inr (.inr (.inr (.inr (fun j => if j < 1 then some ((n + 3) + j) else none))))), .inl (cI, 1, .inl (fun _ => 0)), .inl (cI, 0, .inl (fun _ => 0)), .inl (cI, 0, .inl (fun _ => 0)), .inl (cII, 1, .inr (.inr (.inr (.inr (fun j => if j < 1 then some ((n + 7) + j) else none))))), .inl (cI, 1, .inl (fun _ => 0))]) (n + 8) H locs := hG.weak (fun a e h => by
    rcases fblk_cases 8 rfl h with ⟨k, rfl, hlt, hk⟩ | ⟨hout, h⟩
    · rcases (show k = 0 ∨ k = 1 ∨ k = 2 ∨ k = 3 ∨ k = 4 ∨ k = 5 ∨ k = 6 ∨ k = 7 by omega) with rfl | rfl | rfl | rfl | rfl | rfl | rfl | rfl
      · cases (show some (.inl (cI, 0, .inl (fun _ => 0))) = some e from hk); exact (fblk_sk 4 rfl (by omega) (fu_at (by omega) (fu_at (by omega) (fblk_at 0 (by omega) rfl))))
      · cases (show some (.inl (cI, 0, .inl (fun _ => 0))) = some e from hk); exact (fblk_sk 4 rfl (by omega) (fu_at (by omega) (fu_at (by omega) (fblk_at 1 (by omega) rfl))))
      · cases (show some (.inl (cII, 1, .inr (.inr (.inr (.inr (fun j => if j < 1 then some ((n + 3) + j) else none)))))) = some e from hk); exact (fblk_sk 4 rfl (by omega) (fu_at (by omega) (fu_at (by omega) (fblk_at 2 (by omega) rfl))))
      · cases (show some (.inl (cI, 1, .inl (fun _ => 0))) = some e from hk); exact (fblk_sk 4 rfl (by omega) (fu_at (by omega) (fu_at (by omega) (fblk_at 3 (by omega) rfl))))
      · cases (show some (.inl (cI, 0, .inl (fun _ => 0))) = some e from hk); exact (fblk_at 0 (by omega) rfl)
      · cases (show some (.inl (cI, 0, .inl (fun _ => 0))) = some e from hk); exact (fblk_at 1 (by omega) rfl)
      · cases (show some (.inl (cII, 1, .inr (.inr (.inr (.inr (fun j => if j < 1 then some ((n + 7) + j) else none)))))) = some e from hk); exact (fblk_at 2 (by omega) rfl)
      · cases (show some (.inl (cI, 1, .inl (fun _ => 0))) = some e from hk); exact (fblk_at 3 (by omega) rfl)
    · rcases fu_cases h with ⟨rfl, he⟩ | ⟨hne0, h⟩
      · cases he; exact (fblk_sk 4 rfl (by omega) fu_s)
      · skip
        rcases fu_cases h with ⟨rfl, he⟩ | ⟨hne1, h⟩
        · cases he; exact (fblk_sk 4 rfl (by omega) (fu_at (by omega) fu_s))
        · skip
          rcases fu_cases h with ⟨rfl, he⟩ | ⟨hne2, h⟩
          · cases he; exact (fblk_sk 4 rfl (by omega) (fu_at (by omega) (fu_at (by omega) (fblk_sk 4 rfl (by omega) fu_s))))
          · skip
            rcases fu_cases h with ⟨rfl, he⟩ | ⟨hne3, h⟩
            · cases he; exact (fblk_sk 4 rfl (by omega) (fu_at (by omega) (fu_at (by omega) (fblk_sk 4 rfl (by omega) (fu_at (by omega) (fu_at (by omega) (fu_at (by omega) (fu_at (by omega) (fu_at (by omega) (fu_at (by omega) (fu_at (by omega) (fu_at (by omega) (fu_at (by omega) (fu_at (by omega) (fu_at (by omega) (fu_at (by omega) (fu_at (by omega) (fu_at (by omega) (fu_at (by omega) (fu_at (by omega) (fu_at (by omega) (fu_at (by omega) (fu_at (by omega) (fu_at (by omega) (fu_at (by omega) (fu_at (by omega) (fu_at (by omega) (fu_at (by omega) (fu_at (by omega) (fu_at (by omega) (fu_at (by omega) (fu_at (by omega) (fu_at (by omega) (fu_at (by omega) (fu_at (by omega) (fu_at (by omega) (fu_at (by omega) (fu_at (by omega) (fu_at (by omega) (fu_at (by omega) (fu_at (by omega) (fu_at (by omega) (fu_at (by omega) (fu_at (by omega) (fu_at (by omega) fu_s)))))))))))))))))))))))))))))))))))))))))))))
            · exact (fblk_sk 4 rfl (by omega) (fu_at (by omega) (fu_at (by omega) (fblk_sk 4 rfl (by omega) (fu_at (by omega) (fu_at (by omega) (fu_at (by omega) (fu_at (by omega) (fu_at (by omega) (fu_at (by omega) (fu_at (by omega) (fu_at (by omega) (fu_at (by omega) (fu_at (by omega) (fu_at (by omega) (fu_at (by omega) (fu_at (by omega) (fu_at (by omega) (fu_at (by omega) (fu_at (by omega) (fu_at (by omega) (fu_at (by omega) (fu_at (by omega) (fu_at (by omega) (fu_at (by omega) (fu_at (by omega) (fu_at (by omega) (fu_at (by omega) (fu_at (by omega) (fu_at (by omega) (fu_at (by omega) (fu_at (by omega) (fu_at (by omega) (fu_at (by omega) (fu_at (by omega) (fu_at (by omega) (fu_at (by omega) (fu_at (by omega) (fu_at (by omega) (fu_at (by omega) (fu_at (by omega) (fu_at (by omega) (fu_at (by omega) (fu_at (by omega) (fu_at (by omega) (fu_at (by omega) h)))))))))))))))))))))))))))))))))))))))))))))))
  exact fx_vret S hr hlocks () hG trivial dX10_matches_48
theorem i_X10_recognizes_X10 : ∀ w ∈ u_ws RX10 TX10 31, w ∈ wsX10_recognizes := by decide +kernel
theorem k1465_X10_recognizes {n : Nat} (hn : N0 + 231 ≤ n) (h0 : F (N0 + 164) = some (.inr (12, [.ref (N0 + 165), .int 0, .ref (N0 + 181), .int 0, .int 0, .int 0, .int (-1), .ref (ql 24), .ref (N0 + 182), .ref (N0 + 187), .ref (N0 + 208), .ref (N0 + 209), .ref (N0 + 210), .ref (N0 + 211), .ref (N0 + 212), .int 0, .ref (N0 + 213), .ref (N0 + 218), .ref (N0 + 223), .ref (N0 + 224), .ref (N0 + 225), .ref (N0 + 226), .ref (N0 + 227), .int 0, .int 0, .ref (N0 + 228), .null, .int (-1), .int 0, .int 0, .int 0]))) : Met l yX10_recognizes wsX10_recognizes ({ frames := 0, cells := 0, slots := 0, locals := 0 }) (va_Pc [.ref (N0 + 164)] (fP N0 D vwCl (fty cI cC cL cD cII cTr cTm cIt cB) (fen ql) F n)) (fQv N0 D vwCl (fty cI cC cL cD cII cTr cTm cIt cB) (fun (_ : Unit) => True) (fun _ => F) (fun _ => n)) 0 0 (fA N0) := by
  refine fx_start 3 rfl rfl (Nat.le_of_ble_eq_true rfl) ?_ rfl
  intro p e s m below meth c ls S hr hlocks hin hG hl
  have hl : lv_has ls 3 [(0, .ref (N0 + 164))] := hl
  have lt_h0 := hG.1.lt h0
  refine lv_iconst (v := 0) S.1 S.2.1 dX10_recognizes_0 (by decide) ?_
  refine lv_istore_n (lv' := [(1, .int 0), (0, .ref (N0 + 164))]) S.1 S.2.1 dX10_recognizes_1 rfl hl (by decide) rfl (fun ls hl => ?_)
  refine lv_iload_n S.1 S.2.1 dX10_recognizes_2 rfl (lv_at hl 0 rfl) ?_
  refine lv_aload_n S.1 S.2.1 dX10_recognizes_3 rfl (lv_at hl 1 rfl) ?_
  refine gx_get (C := RX10) (T := TX10) (N := 31) S hG h0 i_X10_recognizes_X10 rfl 15 (by decide) (by decide +kernel) rfl dX10_recognizes_4 ?_
  refine lv_icmp_ge (tgt := 123) S.1 S.2.1 dX10_recognizes_7 (by decide) (fun _ => ?_) (fun c => absurd (by decide) c)
  exact fx_vret S hr hlocks () hG trivial dX10_recognizes_123
theorem i_X10_diff_X10 : ∀ w ∈ u_ws RX10 TX10 31, w ∈ wsX10_diff := by decide +kernel
set_option maxHeartbeats 16000000 in
theorem k1466_X10_diff {n : Nat} (hn : N0 + 231 ≤ n) (h0 : F (N0 + 164) = some (.inr (12, [.ref (N0 + 165), .int 0, .ref (N0 + 181), .int 0, .int 0, .int 0, .int (-1), .ref (ql 24), .ref (N0 + 182), .ref (N0 + 187), .ref (N0 + 208), .ref (N0 + 209), .ref (N0 + 210), .ref (N0 + 211), .ref (N0 + 212), .int 0, .ref (N0 + 213), .ref (N0 + 218), .ref (N0 + 223), .ref (N0 + 224), .ref (N0 + 225), .ref (N0 + 226), .ref (N0 + 227), .int 0, .int 0, .ref (N0 + 228), .null, .int (-1), .int 0, .int 0, .int 0]))) (h1 : F (N0 + 165) = some (.inl (cTm, 3, .inr (.inr (.inr (.inr (va_up (va_up (va_up (fun _ => none) 0 (some (N0 + 166))) 1 (some (N0 + 171))) 2 (some (N0 + 176))))))))) (h2 : F (N0 + 166) = some (.inr (11, [.ref (N0 + 167), .ref (N0 + 168), .ref (N0 + 169), .ref (N0 + 170), .int 1]))) (h3 : F (N0 + 213) = some (.inr (11, [.ref (N0 + 214), .ref (N0 + 215), .ref (N0 + 216), .ref (N0 + 217), .int 0]))) (h4 : F (N0 + 167) = some (.inl (cI, 20, .inl (upd (fun _ => 0) 0 97)))) (h5 : F (N0 + 168) = some (.inl (cI, 20, .inl (upd (fun _ => 0) 0 0)))) (h6 : F (N0 + 169) = some (.inl (cI, 20, .inl (upd (fun _ => 0) 0 0)))) (h7 : F (N0 + 170) = some (.inl (cI, 20, .inl (upd (fun _ => 0) 0 (-1))))) (h8 : F (N0 + 214) = some (.inl (cI, 20, .inl (fun _ => 0)))) (h9 : F (N0 + 215) = some (.inl (cI, 20, .inl (fun _ => 0)))) (h10 : F (N0 + 216) = some (.inl (cI, 20, .inl (fun _ => 0)))) (h11 : F (N0 + 217) = some (.inl (cI, 20, .inl (fun _ => 0)))) (h12 : F (N0 + 218) = some (.inr (11, [.ref (N0 + 219), .ref (N0 + 220), .ref (N0 + 221), .ref (N0 + 222), .int 0]))) (h13 : F (N0 + 219) = some (.inl (cI, 20, .inl (fun _ => 0)))) (h14 : F (N0 + 220) = some (.inl (cI, 20, .inl (fun _ => 0)))) (h15 : F (N0 + 221) = some (.inl (cI, 20, .inl (fun _ => 0)))) (h16 : F (N0 + 222) = some (.inl (cI, 20, .inl (fun _ => 0)))) (h17 : F (N0 + 211) = some (.inl (cI, 20, .inl (fun _ => 0)))) (h18 : F (N0 + 212) = some (.inl (cI, 20, .inl (fun _ => 0)))) (h19 : F (N0 + 187) = some (.inl (cII, 20, .inr (.inr (.inr (.inr (fun j => if j < 20 then some ((N0 + 188) + j) else none))))))) (h20 : F (N0 + 188) = some (.inl (cI, 20, .inl (fun _ => 0)))) (h21 : F (N0 + 226) = some (.inl (cI, 20, .inl (fun _ => 0)))) (h22 : F (N0 + 227) = some (.inl (cI, 20, .inl (fun _ => 0)))) : Met l yX10_diff wsX10_diff ({ frames := 4, cells := 8, slots := 4, locals := 100 }) (va_Pc [.ref (N0 + 164), .int 0, .int 0] (fP N0 D vwCl (fty cI cC cL cD cII cTr cTm cIt cB) (fen ql) F n)) (fQi N0 D vwCl (fty cI cC cL cD cII cTr cTm cIt cB) (fun (r : Int32) (_ : Unit) => r = 0) (fun _ => (fblk (fu (fu (fu (fu (fu (fu (fu (fu (fu (fu (fu (fu (fu (fu (fu (fu F (N0 + 213) (.inr (11, [.ref (N0 + 214), .ref (N0 + 215), .ref (N0 + 216), .ref (N0 + 217), .int 1]))) (N0 + 214) (.inl (cI, 20, .inl (upd (fun _ => 0) 0 97)))) (N0 + 215) (.inl (cI, 20, .inl (upd (fun _ => 0) 0 0)))) (N0 + 216) (.inl (cI, 20, .inl (upd (fun _ => 0) 0 0)))) (N0 + 217) (.inl (cI, 20, .inl (upd (fun _ => 0) 0 (-1))))) (N0 + 218) (.inr (11, [.ref (N0 + 219), .ref (N0 + 220), .ref (N0 + 221), .ref (N0 + 222), .int 1]))) (N0 + 219) (.inl (cI, 20, .inl (upd (fun _ => 0) 0 97)))) (N0 + 220) (.inl (cI, 20, .inl (upd (fun _ => 0) 0 0)))) (N0 + 221) (.inl (cI, 20, .inl (upd (fun _ => 0) 0 0)))) (N0 + 222) (.inl (cI, 20, .inl (upd (fun _ => 0) 0 (-1))))) (N0 + 188) (.inl (cI, 20, .inl (upd (fun _ => 0) 0 0)))) (N0 + 211) (.inl (cI, 20, .inl (upd (upd (upd (upd (upd (upd (upd (upd (upd (upd (upd (upd (upd (upd (upd (upd (upd (upd (upd (upd (upd (fun _ => 0) 0 (-1)) 1 (-1)) 2 (-1)) 3 (-1)) 4 (-1)) 5 (-1)) 6 (-1)) 7 (-1)) 8 (-1)) 9 (-1)) 10 (-1)) 11 (-1)) 12 (-1)) 13 (-1)) 14 (-1)) 15 (-1)) 16 (-1)) 17 (-1)) 18 (-1)) 19 (-1)) 0 0)))) (N0 + 212) (.inl (cI, 20, .inl (upd (upd (upd (upd (upd (upd (upd (upd (upd (upd (upd (upd (upd (upd (upd (upd (upd (upd (upd (upd (upd (fun _ => 0) 0 (-1)) 1 (-1)) 2 (-1)) 3 (-1)) 4 (-1)) 5 (-1)) 6 (-1)) 7 (-1)) 8 (-1)) 9 (-1)) 10 (-1)) 11 (-1)) 12 (-1)) 13 (-1)) 14 (-1)) 15 (-1)) 16 (-1)) 17 (-1)) 18 (-1)) 19 (-1)) 0 0)))) (N0 + 226) (.inl (cI, 20, .inl (upd (upd (upd (upd (upd (upd (upd (upd (upd (upd (upd (upd (upd (upd (upd (upd (upd (upd (upd (upd (fun _ => 0) 0 0) 1 (-1)) 2 (-1)) 3 (-1)) 4 (-1)) 5 (-1)) 6 (-1)) 7 (-1)) 8 (-1)) 9 (-1)) 10 (-1)) 11 (-1)) 12 (-1)) 13 (-1)) 14 (-1)) 15 (-1)) 16 (-1)) 17 (-1)) 18 (-1)) 19 (-1))))) (N0 + 227) (.inl (cI, 20, .inl (upd (upd (upd (upd (upd (upd (upd (upd (upd (upd (upd (upd (upd (upd (upd (upd (upd (upd (upd (upd (fun _ => 0) 0 0) 1 (-1)) 2 (-1)) 3 (-1)) 4 (-1)) 5 (-1)) 6 (-1)) 7 (-1)) 8 (-1)) 9 (-1)) 10 (-1)) 11 (-1)) 12 (-1)) 13 (-1)) 14 (-1)) 15 (-1)) 16 (-1)) 17 (-1)) 18 (-1)) 19 (-1))))) (N0 + 164) (.inr (12, [.ref (N0 + 165), .int 0, .ref (N0 + 181), .int 0, .int 0, .int 0, .int (-1), .ref (ql 24), .ref (N0 + 182), .ref (N0 + 187), .ref (N0 + 208), .ref (N0 + 209), .ref (N0 + 210), .ref (N0 + 211), .ref (N0 + 212), .int 0, .ref (N0 + 213), .ref (N0 + 218), .ref (N0 + 223), .ref (N0 + 224), .ref (N0 + 225), .ref (N0 + 226), .ref (N0 + 227), .int 1, .int 0, .ref (N0 + 228), .null, .int (-1), .int 0, .int 0, .int 0]))) n [.inl (cI, 0, .inl (fun _ => 0)), .inl (cI, 0, .inl (fun _ => 0)), .inl (cII, 1, .inr (.inr (.inr (.inr (fun j => if j < 1 then some ((n + 3) + j) else none))))), .inl (cI, 1, .inl (fun _ => 0)), .inl (cI, 0, .inl (fun _ => 0)), .inl (cI, 0, .inl (fun _ => 0)), .inl (cII, 1, .inr (.inr (.inr (.inr (fun j => if j < 1 then some ((n + 7) + j) else none))))), .inl (cI, 1, .inl (fun _ => 0))])) (fun _ => (n + 8))) 8 4 (fA N0) := by
  refine fx_start 4 rfl rfl (Nat.le_of_ble_eq_true rfl) ?_ rfl
  intro p e s m below meth c ls S hr hlocks hin hG hl
  have hl : lv_has ls 4 [(0, .ref (N0 + 164)), (1, .int 0), (2, .int 0)] := hl
  have lt_h0 := hG.1.lt h0
  have lt_h1 := hG.1.lt h1
  have lt_h2 := hG.1.lt h2
  have lt_h3 := hG.1.lt h3
  have lt_h4 := hG.1.lt h4
  have lt_h5 := hG.1.lt h5
  have lt_h6 := hG.1.lt h6
  have lt_h7 := hG.1.lt h7
  have lt_h8 := hG.1.lt h8
  have lt_h9 := hG.1.lt h9
  have lt_h10 := hG.1.lt h10
  have lt_h11 := hG.1.lt h11
  have lt_h12 := hG.1.lt h12
  have lt_h13 := hG.1.lt h13
  have lt_h14 := hG.1.lt h14
  have lt_h15 := hG.1.lt h15
  have lt_h16 := hG.1.lt h16
  have lt_h17 := hG.1.lt h17
  have lt_h18 := hG.1.lt h18
  have lt_h19 := hG.1.lt h19
  have lt_h20 := hG.1.lt h20
  have lt_h21 := hG.1.lt h21
  have lt_h22 := hG.1.lt h22
  refine lv_aload_n S.1 S.2.1 dX10_diff_0 rfl (lv_at hl 0 rfl) ?_
  refine lv_iload_n S.1 S.2.1 dX10_diff_1 rfl (lv_at hl 1 rfl) ?_
  refine lv_iload_n S.1 S.2.1 dX10_diff_2 rfl (lv_at hl 2 rfl) ?_
  refine fx_cVi (As := [.int 0, .int 0]) (rest := []) S hG (k460_X10_areNone (by omega) h0) h0 rfl (cwV 2 S.2.2.2.2 gX10_diff_X10_areNone rfl rfl rfl (by decide +kernel) ⟨Nat.le_of_ble_eq_true rfl, Nat.le_of_ble_eq_true rfl⟩) rfl hl.1 rfl (Nat.le_of_ble_eq_true rfl) dX10_diff_3 ⟨Nat.le_of_ble_eq_true rfl, Nat.le_of_ble_eq_true rfl⟩ (fun rv_1 _ H locs hp hG => ?_)
  subst rv_1
  refine lv_if_eq (tgt := 11) S.1 S.2.1 dX10_diff_6 (by decide) (fun _ => ?_) (fun c => absurd (by decide) c)
  refine lv_aload_n S.1 S.2.1 dX10_diff_11 rfl (lv_at hl 0 rfl) ?_
  refine gx_get (C := RX10) (T := TX10) (N := 31) S hG fu_s i_X10_diff_X10 rfl 16 (by decide) (by decide +kernel) rfl dX10_diff_12 ?_
  refine lv_aload_n S.1 S.2.1 dX10_diff_15 rfl (lv_at hl 0 rfl) ?_
  refine gx_get (C := RX10) (T := TX10) (N := 31) S hG fu_s i_X10_diff_X10 rfl 0 (by decide) (by decide +kernel) rfl dX10_diff_16 ?_
  refine lv_iload_n S.1 S.2.1 dX10_diff_19 rfl (lv_at hl 1 rfl) ?_
  refine gx_aldq (x := (N0 + 166)) S hG 6 rfl (fu_at (by omega) h1) rfl (fin_l (by decide)) (rfl) dX10_diff_20 ?_
  refine fx_cVNv (host := "TreeDifferModel") (As := [.ref (N0 + 166)]) (rest := []) S hG (k1454_X9_copies (by omega) (fu_at (by omega) h2) (fu_at (by omega) h3) (fu_at (by omega) h4) (fu_at (by omega) h5) (fu_at (by omega) h6) (fu_at (by omega) h7) (fu_at (by omega) h8) (fu_at (by omega) h9) (fu_at (by omega) h10) (fu_at (by omega) h11)) (fu_at (by omega) h3) rfl ⟨(va_cnB 1 S.2.2.2.2 gX10_diff_X9_copies_n157 rfl rfl rfl (hG.nest (show _ ∈ fen2.2.2.1 from by decide)) (S.2.2.2.2 (.initialized RX9) (by decide +kernel)) (by decide +kernel) ⟨Nat.le_of_ble_eq_true rfl, Nat.le_of_ble_eq_true rfl⟩), S.2.2.2.2 (.instanceMethod yX9_copies) (by decide +kernel), S.2.2.2.2 (.selects RX9 yX9_copies yX9_copies) (by decide +kernel)⟩ rfl hl.1 rfl (Nat.le_of_ble_eq_true rfl) dX10_diff_21 ⟨Nat.le_of_ble_eq_true rfl, Nat.le_of_ble_eq_true rfl⟩ (fun _ H locs hp hG => ?_)
  refine lv_aload_n S.1 S.2.1 dX10_diff_24 rfl (lv_at hl 0 rfl) ?_
  refine gx_get (C := RX10) (T := TX10) (N := 31) S hG (fu_at (by omega) (fu_at (by omega) (fu_at (by omega) (fu_at (by omega) (fu_at (by omega) fu_s))))) i_X10_diff_X10 rfl 17 (by decide) (by decide +kernel) rfl dX10_diff_25 ?_
  refine lv_aload_n S.1 S.2.1 dX10_diff_28 rfl (lv_at hl 0 rfl) ?_
  refine gx_get (C := RX10) (T := TX10) (N := 31) S hG (fu_at (by omega) (fu_at (by omega) (fu_at (by omega) (fu_at (by omega) (fu_at (by omega) fu_s))))) i_X10_diff_X10 rfl 0 (by decide) (by decide +kernel) rfl dX10_diff_29 ?_
  refine lv_iload_n S.1 S.2.1 dX10_diff_32 rfl (lv_at hl 2 rfl) ?_
  refine gx_aldq (x := (N0 + 166)) S hG 6 rfl (fu_at (by omega) (fu_at (by omega) (fu_at (by omega) (fu_at (by omega) (fu_at (by omega) (fu_at (by omega) h1)))))) rfl (fin_l (by decide)) (rfl) dX10_diff_33 ?_
  refine fx_cVNv (host := "TreeDifferModel") (As := [.ref (N0 + 166)]) (rest := []) S hG (k1456_X9_copies (by omega) (fu_at (by omega) (fu_at (by omega) (fu_at (by omega) (fu_at (by omega) (fu_at (by omega) (fu_at (by omega) h2)))))) (fu_at (by omega) (fu_at (by omega) (fu_at (by omega) (fu_at (by omega) (fu_at (by omega) (fu_at (by omega) h12)))))) (fu_at (by omega) (fu_at (by omega) (fu_at (by omega) (fu_at (by omega) (fu_at (by omega) (fu_at (by omega) h4)))))) (fu_at (by omega) (fu_at (by omega) (fu_at (by omega) (fu_at (by omega) (fu_at (by omega) (fu_at (by omega) h5)))))) (fu_at (by omega) (fu_at (by omega) (fu_at (by omega) (fu_at (by omega) (fu_at (by omega) (fu_at (by omega) h6)))))) (fu_at (by omega) (fu_at (by omega) (fu_at (by omega) (fu_at (by omega) (fu_at (by omega) (fu_at (by omega) h7)))))) (fu_at (by omega) (fu_at (by omega) (fu_at (by omega) (fu_at (by omega) (fu_at (by omega) (fu_at (by omega) h13)))))) (fu_at (by omega) (fu_at (by omega) (fu_at (by omega) (fu_at (by omega) (fu_at (by omega) (fu_at (by omega) h14)))))) (fu_at (by omega) (fu_at (by omega) (fu_at (by omega) (fu_at (by omega) (fu_at (by omega) (fu_at (by omega) h15)))))) (fu_at (by omega) (fu_at (by omega) (fu_at (by omega) (fu_at (by omega) (fu_at (by omega) (fu_at (by omega) h16))))))) (fu_at (by omega) (fu_at (by omega) (fu_at (by omega) (fu_at (by omega) (fu_at (by omega) (fu_at (by omega) h12)))))) rfl ⟨(va_cnB 1 S.2.2.2.2 gX10_diff_X9_copies_n157 rfl rfl rfl (hG.nest (show _ ∈ fen2.2.2.1 from by decide)) (S.2.2.2.2 (.initialized RX9) (by decide +kernel)) (by decide +kernel) ⟨Nat.le_of_ble_eq_true rfl, Nat.le_of_ble_eq_true rfl⟩), S.2.2.2.2 (.instanceMethod yX9_copies) (by decide +kernel), S.2.2.2.2 (.selects RX9 yX9_copies yX9_copies) (by decide +kernel)⟩ rfl hl.1 rfl (Nat.le_of_ble_eq_true rfl) dX10_diff_34 ⟨Nat.le_of_ble_eq_true rfl, Nat.le_of_ble_eq_true rfl⟩ (fun _ H locs hp hG => ?_)
  refine lv_aload_n S.1 S.2.1 dX10_diff_37 rfl (lv_at hl 0 rfl) ?_
  refine lv_aload_n S.1 S.2.1 dX10_diff_38 rfl (lv_at hl 0 rfl) ?_
  refine gx_get (C := RX10) (T := TX10) (N := 31) S hG (fu_at (by omega) (fu_at (by omega) (fu_at (by omega) (fu_at (by omega) (fu_at (by omega) (fu_at (by omega) (fu_at (by omega) (fu_at (by omega) (fu_at (by omega) (fu_at (by omega) fu_s)))))))))) i_X10_diff_X10 rfl 16 (by decide) (by decide +kernel) rfl dX10_diff_39 ?_
  refine lv_aload_n S.1 S.2.1 dX10_diff_42 rfl (lv_at hl 0 rfl) ?_
  refine gx_get (C := RX10) (T := TX10) (N := 31) S hG (fu_at (by omega) (fu_at (by omega) (fu_at (by omega) (fu_at (by omega) (fu_at (by omega) (fu_at (by omega) (fu_at (by omega) (fu_at (by omega) (fu_at (by omega) (fu_at (by omega) fu_s)))))))))) i_X10_diff_X10 rfl 17 (by decide) (by decide +kernel) rfl dX10_diff_43 ?_
  refine fx_cVv (As := [.ref (N0 + 213), .ref (N0 + 218)]) (rest := []) S hG (k1464_X10_matches (by omega) (fu_at (by omega) (fu_at (by omega) (fu_at (by omega) (fu_at (by omega) (fu_at (by omega) (fu_at (by omega) (fu_at (by omega) (fu_at (by omega) (fu_at (by omega) (fu_at (by omega) fu_s)))))))))) (fu_at (by omega) (fu_at (by omega) (fu_at (by omega) (fu_at (by omega) (fu_at (by omega) (fu_at (by omega) (fu_at (by omega) (fu_at (by omega) (fu_at (by omega) (fu_at (by omega) (fu_at (by omega) h17))))))))))) (fu_at (by omega) (fu_at (by omega) (fu_at (by omega) (fu_at (by omega) (fu_at (by omega) (fu_at (by omega) (fu_at (by omega) (fu_at (by omega) (fu_at (by omega) (fu_at (by omega) (fu_at (by omega) h18))))))))))) (fu_at (by omega) (fu_at (by omega) (fu_at (by omega) (fu_at (by omega) (fu_at (by omega) (fu_at (by omega) (fu_at (by omega) (fu_at (by omega) (fu_at (by omega) fu_s))))))))) (fu_at (by omega) (fu_at (by omega) (fu_at (by omega) (fu_at (by omega) fu_s)))) (fu_at (by omega) (fu_at (by omega) (fu_at (by omega) (fu_at (by omega) (fu_at (by omega) (fu_at (by omega) (fu_at (by omega) (fu_at (by omega) fu_s)))))))) (fu_at (by omega) (fu_at (by omega) (fu_at (by omega) fu_s))) (fu_at (by omega) (fu_at (by omega) (fu_at (by omega) (fu_at (by omega) (fu_at (by omega) (fu_at (by omega) fu_s)))))) (fu_at (by omega) fu_s) (fu_at (by omega) (fu_at (by omega) (fu_at (by omega) (fu_at (by omega) (fu_at (by omega) (fu_at (by omega) (fu_at (by omega) (fu_at (by omega) (fu_at (by omega) (fu_at (by omega) (fu_at (by omega) h19))))))))))) (fu_at (by omega) (fu_at (by omega) (fu_at (by omega) (fu_at (by omega) (fu_at (by omega) (fu_at (by omega) (fu_at (by omega) (fu_at (by omega) (fu_at (by omega) (fu_at (by omega) (fu_at (by omega) h20)))))))))))) (fu_at (by omega) (fu_at (by omega) (fu_at (by omega) (fu_at (by omega) (fu_at (by omega) (fu_at (by omega) (fu_at (by omega) (fu_at (by omega) (fu_at (by omega) (fu_at (by omega) fu_s)))))))))) rfl (cwV 2 S.2.2.2.2 gX10_diff_X10_matches rfl rfl rfl (by decide +kernel) ⟨Nat.le_of_ble_eq_true rfl, Nat.le_of_ble_eq_true rfl⟩) rfl hl.1 rfl (Nat.le_of_ble_eq_true rfl) dX10_diff_46 ⟨Nat.le_of_ble_eq_true rfl, Nat.le_of_ble_eq_true rfl⟩ (fun _ H locs hp hG => ?_)
  refine W.widen (k := 8) (n := 4) (by decide) (by decide) ?_
  refine lv_aload_n S.1 S.2.1 dX10_diff_49 rfl (lv_at hl 0 rfl) ?_
  refine fx_cVv (As := []) (rest := []) S hG (k1465_X10_recognizes (by omega) (fblk_sk 8 rfl (by omega) (fu_at (by omega) (fu_at (by omega) (fu_at (by omega) fu_s))))) (fblk_sk 8 rfl (by omega) (fu_at (by omega) (fu_at (by omega) (fu_at (by omega) fu_s)))) rfl (cwV 0 S.2.2.2.2 gX10_diff_X10_recognizes rfl rfl rfl (by decide +kernel) ⟨Nat.le_of_ble_eq_true rfl, Nat.le_of_ble_eq_true rfl⟩) rfl hl.1 rfl (Nat.le_of_ble_eq_true rfl) dX10_diff_50 ⟨Nat.le_of_ble_eq_true rfl, Nat.le_of_ble_eq_true rfl⟩ (fun _ H locs hp hG => ?_)
  refine lv_aload_n S.1 S.2.1 dX10_diff_53 rfl (lv_at hl 0 rfl) ?_
  refine lv_iconst (v := 0) S.1 S.2.1 dX10_diff_54 (by decide) ?_
  refine gx_put (C := RX10) (T := TX10) (N := 31) (ty := .int) (v := .int 0) (fs' := [.ref (N0 + 165), .int 0, .ref (N0 + 181), .int 0, .int 0, .int 0, .int (-1), .ref (ql 24), .ref (N0 + 182), .ref (N0 + 187), .ref (N0 + 208), .ref (N0 + 209), .ref (N0 + 210), .ref (N0 + 211), .ref (N0 + 212), .int 0, .ref (N0 + 213), .ref (N0 + 218), .ref (N0 + 223), .ref (N0 + 224), .ref (N0 + 225), .ref (N0 + 226), .ref (N0 + 227), .int 0, .int 0, .ref (N0 + 228), .null, .int (-1), .int 0, .int 0, .int 0]) S hG (fblk_sk 8 rfl (by omega) (fu_at (by omega) (fu_at (by omega) (fu_at (by omega) fu_s)))) i_X10_diff_X10 rfl 24 (by decide) tyX10 tyX10_ok nmX10 (by decide +kernel) rfl (by decide +kernel) rfl rfl (Nat.le_of_ble_eq_true rfl) rfl dX10_diff_55 (fun H locs hG => ?_)
  refine lv_iconst (v := 0) S.1 S.2.1 dX10_diff_58 (by decide) ?_
  refine lv_istore_n (lv' := [(3, .int 0), (0, .ref (N0 + 164)), (1, .int 0), (2, .int 0)]) S.1 S.2.1 dX10_diff_59 rfl hl (by decide) rfl (fun ls hl => ?_)
  refine lv_iload_n S.1 S.2.1 dX10_diff_60 rfl (lv_at hl 0 rfl) ?_
  refine lv_aload_n S.1 S.2.1 dX10_diff_61 rfl (lv_at hl 1 rfl) ?_
  refine gx_get (C := RX10) (T := TX10) (N := 31) S hG fu_s i_X10_diff_X10 rfl 15 (by decide) (by decide +kernel) rfl dX10_diff_62 ?_
  refine lv_icmp_ge (tgt := 143) S.1 S.2.1 dX10_diff_65 (by decide) (fun _ => ?_) (fun c => absurd (by decide) c)
  refine lv_iconst (v := 0) S.1 S.2.1 dX10_diff_143 (by decide) ?_
  refine lv_istore_n (lv' := [(3, .int 0), (0, .ref (N0 + 164)), (1, .int 0), (2, .int 0)]) S.1 S.2.1 dX10_diff_144 rfl hl (by decide) rfl (fun ls hl => ?_)
  refine lv_iload_n S.1 S.2.1 dX10_diff_145 rfl (lv_at hl 0 rfl) ?_
  refine lv_bipush (v := 20) S.1 S.2.1 dX10_diff_146 (by decide) ?_
  refine lv_icmp_ge (tgt := 181) S.1 S.2.1 dX10_diff_148 (by decide) (fun c => absurd c (by decide)) (fun _ => ?_)
  refine lv_aload_n S.1 S.2.1 dX10_diff_151 rfl (lv_at hl 1 rfl) ?_
  refine gx_get (C := RX10) (T := TX10) (N := 31) S hG fu_s i_X10_diff_X10 rfl 21 (by decide) (by decide +kernel) rfl dX10_diff_152 ?_
  refine lv_iload_n S.1 S.2.1 dX10_diff_155 rfl (lv_at hl 0 rfl) ?_
  refine lv_aload_n S.1 S.2.1 dX10_diff_156 rfl (lv_at hl 1 rfl) ?_
  refine gx_get (C := RX10) (T := TX10) (N := 31) S hG fu_s i_X10_diff_X10 rfl 13 (by decide) (by decide +kernel) rfl dX10_diff_157 ?_
  refine lv_iload_n S.1 S.2.1 dX10_diff_160 rfl (lv_at hl 0 rfl) ?_
  refine gx_iald (v := 0) S hG 0 (fu_at (by omega) (fblk_sk 8 rfl (by omega) (fu_at (by omega) fu_s))) rfl (fin_l (by decide)) (by decide) dX10_diff_161 ?_
  refine gx_iast (f' := upd (fun _ => 0) 0 0) S hG 0 (fu_at (by omega) (fblk_sk 8 rfl (by omega) (fu_at (by omega) (fu_at (by omega) (fu_at (by omega) (fu_at (by omega) (fu_at (by omega) (fu_at (by omega) (fu_at (by omega) (fu_at (by omega) (fu_at (by omega) (fu_at (by omega) (fu_at (by omega) (fu_at (by omega) (fu_at (by omega) (fu_at (by omega) (fu_at (by omega) h21))))))))))))))))) rfl (fin_l (by decide)) dX10_diff_162 (rfl) (fun H locs hG => ?_)
  refine lv_aload_n S.1 S.2.1 dX10_diff_163 rfl (lv_at hl 1 rfl) ?_
  refine gx_get (C := RX10) (T := TX10) (N := 31) S hG (fu_at (by omega) fu_s) i_X10_diff_X10 rfl 22 (by decide) (by decide +kernel) rfl dX10_diff_164 ?_
  refine lv_iload_n S.1 S.2.1 dX10_diff_167 rfl (lv_at hl 0 rfl) ?_
  refine lv_aload_n S.1 S.2.1 dX10_diff_168 rfl (lv_at hl 1 rfl) ?_
  refine gx_get (C := RX10) (T := TX10) (N := 31) S hG (fu_at (by omega) fu_s) i_X10_diff_X10 rfl 14 (by decide) (by decide +kernel) rfl dX10_diff_169 ?_
  refine lv_iload_n S.1 S.2.1 dX10_diff_172 rfl (lv_at hl 0 rfl) ?_
  refine gx_iald (v := 0) S hG 0 (fu_at (by omega) (fu_at (by omega) (fblk_sk 8 rfl (by omega) fu_s))) rfl (fin_l (by decide)) (by decide) dX10_diff_173 ?_
  refine gx_iast (f' := upd (fun _ => 0) 0 0) S hG 0 (fu_at (by omega) (fu_at (by omega) (fblk_sk 8 rfl (by omega) (fu_at (by omega) (fu_at (by omega) (fu_at (by omega) (fu_at (by omega) (fu_at (by omega) (fu_at (by omega) (fu_at (by omega) (fu_at (by omega) (fu_at (by omega) (fu_at (by omega) (fu_at (by omega) (fu_at (by omega) (fu_at (by omega) (fu_at (by omega) (fu_at (by omega) h22)))))))))))))))))) rfl (fin_l (by decide)) dX10_diff_174 (rfl) (fun H locs hG => ?_)
  refine lv_iinc (v := 1) (lv' := [(3, .int 1), (0, .ref (N0 + 164)), (1, .int 0), (2, .int 0)]) S.1 S.2.1 dX10_diff_175 hl (k := 0) rfl (by decide) (by decide) rfl (fun ls hl => ?_)
  refine lv_goto (tgt := 145) S.1 S.2.1 dX10_diff_178 (by decide) ?_
  refine lv_iload_n S.1 S.2.1 dX10_diff_145 rfl (lv_at hl 0 rfl) ?_
  refine lv_bipush (v := 20) S.1 S.2.1 dX10_diff_146 (by decide) ?_
  refine lv_icmp_ge (tgt := 181) S.1 S.2.1 dX10_diff_148 (by decide) (fun c => absurd c (by decide)) (fun _ => ?_)
  refine lv_aload_n S.1 S.2.1 dX10_diff_151 rfl (lv_at hl 1 rfl) ?_
  refine gx_get (C := RX10) (T := TX10) (N := 31) S hG (fu_at (by omega) (fu_at (by omega) fu_s)) i_X10_diff_X10 rfl 21 (by decide) (by decide +kernel) rfl dX10_diff_152 ?_
  refine lv_iload_n S.1 S.2.1 dX10_diff_155 rfl (lv_at hl 0 rfl) ?_
  refine lv_aload_n S.1 S.2.1 dX10_diff_156 rfl (lv_at hl 1 rfl) ?_
  refine gx_get (C := RX10) (T := TX10) (N := 31) S hG (fu_at (by omega) (fu_at (by omega) fu_s)) i_X10_diff_X10 rfl 13 (by decide) (by decide +kernel) rfl dX10_diff_157 ?_
  refine lv_iload_n S.1 S.2.1 dX10_diff_160 rfl (lv_at hl 0 rfl) ?_
  refine gx_iald (v := (-1)) S hG 0 (fu_at (by omega) (fu_at (by omega) (fu_at (by omega) (fblk_sk 8 rfl (by omega) (fu_at (by omega) fu_s))))) rfl (fin_l (by decide)) (by decide) dX10_diff_161 ?_
  refine gx_iast (f' := upd (upd (fun _ => 0) 0 0) 1 (-1)) S hG 0 (fu_at (by omega) fu_s) rfl (fin_l (by decide)) dX10_diff_162 (rfl) (fun H locs hG => ?_)
  refine lv_aload_n S.1 S.2.1 dX10_diff_163 rfl (lv_at hl 1 rfl) ?_
  refine gx_get (C := RX10) (T := TX10) (N := 31) S hG (fu_at (by omega) (fu_at (by omega) (fu_at (by omega) fu_s))) i_X10_diff_X10 rfl 22 (by decide) (by decide +kernel) rfl dX10_diff_164 ?_
  refine lv_iload_n S.1 S.2.1 dX10_diff_167 rfl (lv_at hl 0 rfl) ?_
  refine lv_aload_n S.1 S.2.1 dX10_diff_168 rfl (lv_at hl 1 rfl) ?_
  refine gx_get (C := RX10) (T := TX10) (N := 31) S hG (fu_at (by omega) (fu_at (by omega) (fu_at (by omega) fu_s))) i_X10_diff_X10 rfl 14 (by decide) (by decide +kernel) rfl dX10_diff_169 ?_
  refine lv_iload_n S.1 S.2.1 dX10_diff_172 rfl (lv_at hl 0 rfl) ?_
  refine gx_iald (v := (-1)) S hG 0 (fu_at (by omega) (fu_at (by omega) (fu_at (by omega) (fu_at (by omega) (fblk_sk 8 rfl (by omega) fu_s))))) rfl (fin_l (by decide)) (by decide) dX10_diff_173 ?_
  refine gx_iast (f' := upd (upd (fun _ => 0) 0 0) 1 (-1)) S hG 0 (fu_at (by omega) fu_s) rfl (fin_l (by decide)) dX10_diff_174 (rfl) (fun H locs hG => ?_)
  refine lv_iinc (v := 2) (lv' := [(3, .int 2), (0, .ref (N0 + 164)), (1, .int 0), (2, .int 0)]) S.1 S.2.1 dX10_diff_175 hl (k := 0) rfl (by decide) (by decide) rfl (fun ls hl => ?_)
  refine lv_goto (tgt := 145) S.1 S.2.1 dX10_diff_178 (by decide) ?_
  refine lv_iload_n S.1 S.2.1 dX10_diff_145 rfl (lv_at hl 0 rfl) ?_
  refine lv_bipush (v := 20) S.1 S.2.1 dX10_diff_146 (by decide) ?_
  refine lv_icmp_ge (tgt := 181) S.1 S.2.1 dX10_diff_148 (by decide) (fun c => absurd c (by decide)) (fun _ => ?_)
  refine lv_aload_n S.1 S.2.1 dX10_diff_151 rfl (lv_at hl 1 rfl) ?_
  refine gx_get (C := RX10) (T := TX10) (N := 31) S hG (fu_at (by omega) (fu_at (by omega) (fu_at (by omega) (fu_at (by omega) fu_s)))) i_X10_diff_X10 rfl 21 (by decide) (by decide +kernel) rfl dX10_diff_152 ?_
  refine lv_iload_n S.1 S.2.1 dX10_diff_155 rfl (lv_at hl 0 rfl) ?_
  refine lv_aload_n S.1 S.2.1 dX10_diff_156 rfl (lv_at hl 1 rfl) ?_
  refine gx_get (C := RX10) (T := TX10) (N := 31) S hG (fu_at (by omega) (fu_at (by omega) (fu_at (by omega) (fu_at (by omega) fu_s)))) i_X10_diff_X10 rfl 13 (by decide) (by decide +kernel) rfl dX10_diff_157 ?_
  refine lv_iload_n S.1 S.2.1 dX10_diff_160 rfl (lv_at hl 0 rfl) ?_
  refine gx_iald (v := (-1)) S hG 0 (fu_at (by omega) (fu_at (by omega) (fu_at (by omega) (fu_at (by omega) (fu_at (by omega) (fblk_sk 8 rfl (by omega) (fu_at (by omega) fu_s))))))) rfl (fin_l (by decide)) (by decide) dX10_diff_161 ?_
  refine gx_iast (f' := upd (upd (upd (fun _ => 0) 0 0) 1 (-1)) 2 (-1)) S hG 0 (fu_at (by omega) fu_s) rfl (fin_l (by decide)) dX10_diff_162 (rfl) (fun H locs hG => ?_)
  refine lv_aload_n S.1 S.2.1 dX10_diff_163 rfl (lv_at hl 1 rfl) ?_
  refine gx_get (C := RX10) (T := TX10) (N := 31) S hG (fu_at (by omega) (fu_at (by omega) (fu_at (by omega) (fu_at (by omega) (fu_at (by omega) fu_s))))) i_X10_diff_X10 rfl 22 (by decide) (by decide +kernel) rfl dX10_diff_164 ?_
  refine lv_iload_n S.1 S.2.1 dX10_diff_167 rfl (lv_at hl 0 rfl) ?_
  refine lv_aload_n S.1 S.2.1 dX10_diff_168 rfl (lv_at hl 1 rfl) ?_
  refine gx_get (C := RX10) (T := TX10) (N := 31) S hG (fu_at (by omega) (fu_at (by omega) (fu_at (by omega) (fu_at (by omega) (fu_at (by omega) fu_s))))) i_X10_diff_X10 rfl 14 (by decide) (by decide +kernel) rfl dX10_diff_169 ?_
  refine lv_iload_n S.1 S.2.1 dX10_diff_172 rfl (lv_at hl 0 rfl) ?_
  refine gx_iald (v := (-1)) S hG 0 (fu_at (by omega) (fu_at (by omega) (fu_at (by omega) (fu_at (by omega) (fu_at (by omega) (fu_at (by omega) (fblk_sk 8 rfl (by omega) fu_s))))))) rfl (fin_l (by decide)) (by decide) dX10_diff_173 ?_
  refine gx_iast (f' := upd (upd (upd (fun _ => 0) 0 0) 1 (-1)) 2 (-1)) S hG 0 (fu_at (by omega) fu_s) rfl (fin_l (by decide)) dX10_diff_174 (rfl) (fun H locs hG => ?_)
  refine lv_iinc (v := 3) (lv' := [(3, .int 3), (0, .ref (N0 + 164)), (1, .int 0), (2, .int 0)]) S.1 S.2.1 dX10_diff_175 hl (k := 0) rfl (by decide) (by decide) rfl (fun ls hl => ?_)
  refine lv_goto (tgt := 145) S.1 S.2.1 dX10_diff_178 (by decide) ?_
  refine lv_iload_n S.1 S.2.1 dX10_diff_145 rfl (lv_at hl 0 rfl) ?_
  refine lv_bipush (v := 20) S.1 S.2.1 dX10_diff_146 (by decide) ?_
  refine lv_icmp_ge (tgt := 181) S.1 S.2.1 dX10_diff_148 (by decide) (fun c => absurd c (by decide)) (fun _ => ?_)
  refine lv_aload_n S.1 S.2.1 dX10_diff_151 rfl (lv_at hl 1 rfl) ?_
  refine gx_get (C := RX10) (T := TX10) (N := 31) S hG (fu_at (by omega) (fu_at (by omega) (fu_at (by omega) (fu_at (by omega) (fu_at (by omega) (fu_at (by omega) fu_s)))))) i_X10_diff_X10 rfl 21 (by decide) (by decide +kernel) rfl dX10_diff_152 ?_
  refine lv_iload_n S.1 S.2.1 dX10_diff_155 rfl (lv_at hl 0 rfl) ?_
  refine lv_aload_n S.1 S.2.1 dX10_diff_156 rfl (lv_at hl 1 rfl) ?_
  refine gx_get (C := RX10) (T := TX10) (N := 31) S hG (fu_at (by omega) (fu_at (by omega) (fu_at (by omega) (fu_at (by omega) (fu_at (by omega) (fu_at (by omega) fu_s)))))) i_X10_diff_X10 rfl 13 (by decide) (by decide +kernel) rfl dX10_diff_157 ?_
  refine lv_iload_n S.1 S.2.1 dX10_diff_160 rfl (lv_at hl 0 rfl) ?_
  refine gx_iald (v := (-1)) S hG 0 (fu_at (by omega) (fu_at (by omega) (fu_at (by omega) (fu_at (by omega) (fu_at (by omega) (fu_at (by omega) (fu_at (by omega) (fblk_sk 8 rfl (by omega) (fu_at (by omega) fu_s))))))))) rfl (fin_l (by decide)) (by decide) dX10_diff_161 ?_
  refine gx_iast (f' := upd (upd (upd (upd (fun _ => 0) 0 0) 1 (-1)) 2 (-1)) 3 (-1)) S hG 0 (fu_at (by omega) fu_s) rfl (fin_l (by decide)) dX10_diff_162 (rfl) (fun H locs hG => ?_)
  refine lv_aload_n S.1 S.2.1 dX10_diff_163 rfl (lv_at hl 1 rfl) ?_
  refine gx_get (C := RX10) (T := TX10) (N := 31) S hG (fu_at (by omega) (fu_at (by omega) (fu_at (by omega) (fu_at (by omega) (fu_at (by omega) (fu_at (by omega) (fu_at (by omega) fu_s))))))) i_X10_diff_X10 rfl 22 (by decide) (by decide +kernel) rfl dX10_diff_164 ?_
  refine lv_iload_n S.1 S.2.1 dX10_diff_167 rfl (lv_at hl 0 rfl) ?_
  refine lv_aload_n S.1 S.2.1 dX10_diff_168 rfl (lv_at hl 1 rfl) ?_
  refine gx_get (C := RX10) (T := TX10) (N := 31) S hG (fu_at (by omega) (fu_at (by omega) (fu_at (by omega) (fu_at (by omega) (fu_at (by omega) (fu_at (by omega) (fu_at (by omega) fu_s))))))) i_X10_diff_X10 rfl 14 (by decide) (by decide +kernel) rfl dX10_diff_169 ?_
  refine lv_iload_n S.1 S.2.1 dX10_diff_172 rfl (lv_at hl 0 rfl) ?_
  refine gx_iald (v := (-1)) S hG 0 (fu_at (by omega) (fu_at (by omega) (fu_at (by omega) (fu_at (by omega) (fu_at (by omega) (fu_at (by omega) (fu_at (by omega) (fu_at (by omega) (fblk_sk 8 rfl (by omega) fu_s))))))))) rfl (fin_l (by decide)) (by decide) dX10_diff_173 ?_
  refine gx_iast (f' := upd (upd (upd (upd (fun _ => 0) 0 0) 1 (-1)) 2 (-1)) 3 (-1)) S hG 0 (fu_at (by omega) fu_s) rfl (fin_l (by decide)) dX10_diff_174 (rfl) (fun H locs hG => ?_)
  refine lv_iinc (v := 4) (lv' := [(3, .int 4), (0, .ref (N0 + 164)), (1, .int 0), (2, .int 0)]) S.1 S.2.1 dX10_diff_175 hl (k := 0) rfl (by decide) (by decide) rfl (fun ls hl => ?_)
  refine lv_goto (tgt := 145) S.1 S.2.1 dX10_diff_178 (by decide) ?_
  refine lv_iload_n S.1 S.2.1 dX10_diff_145 rfl (lv_at hl 0 rfl) ?_
  refine lv_bipush (v := 20) S.1 S.2.1 dX10_diff_146 (by decide) ?_
  refine lv_icmp_ge (tgt := 181) S.1 S.2.1 dX10_diff_148 (by decide) (fun c => absurd c (by decide)) (fun _ => ?_)
  refine lv_aload_n S.1 S.2.1 dX10_diff_151 rfl (lv_at hl 1 rfl) ?_
  refine gx_get (C := RX10) (T := TX10) (N := 31) S hG (fu_at (by omega) (fu_at (by omega) (fu_at (by omega) (fu_at (by omega) (fu_at (by omega) (fu_at (by omega) (fu_at (by omega) (fu_at (by omega) fu_s)))))))) i_X10_diff_X10 rfl 21 (by decide) (by decide +kernel) rfl dX10_diff_152 ?_
  refine lv_iload_n S.1 S.2.1 dX10_diff_155 rfl (lv_at hl 0 rfl) ?_
  refine lv_aload_n S.1 S.2.1 dX10_diff_156 rfl (lv_at hl 1 rfl) ?_
  refine gx_get (C := RX10) (T := TX10) (N := 31) S hG (fu_at (by omega) (fu_at (by omega) (fu_at (by omega) (fu_at (by omega) (fu_at (by omega) (fu_at (by omega) (fu_at (by omega) (fu_at (by omega) fu_s)))))))) i_X10_diff_X10 rfl 13 (by decide) (by decide +kernel) rfl dX10_diff_157 ?_
  refine lv_iload_n S.1 S.2.1 dX10_diff_160 rfl (lv_at hl 0 rfl) ?_
  refine gx_iald (v := (-1)) S hG 0 (fu_at (by omega) (fu_at (by omega) (fu_at (by omega) (fu_at (by omega) (fu_at (by omega) (fu_at (by omega) (fu_at (by omega) (fu_at (by omega) (fu_at (by omega) (fblk_sk 8 rfl (by omega) (fu_at (by omega) fu_s))))))))))) rfl (fin_l (by decide)) (by decide) dX10_diff_161 ?_
  refine gx_iast (f' := upd (upd (upd (upd (upd (fun _ => 0) 0 0) 1 (-1)) 2 (-1)) 3 (-1)) 4 (-1)) S hG 0 (fu_at (by omega) fu_s) rfl (fin_l (by decide)) dX10_diff_162 (rfl) (fun H locs hG => ?_)
  refine lv_aload_n S.1 S.2.1 dX10_diff_163 rfl (lv_at hl 1 rfl) ?_
  refine gx_get (C := RX10) (T := TX10) (N := 31) S hG (fu_at (by omega) (fu_at (by omega) (fu_at (by omega) (fu_at (by omega) (fu_at (by omega) (fu_at (by omega) (fu_at (by omega) (fu_at (by omega) (fu_at (by omega) fu_s))))))))) i_X10_diff_X10 rfl 22 (by decide) (by decide +kernel) rfl dX10_diff_164 ?_
  refine lv_iload_n S.1 S.2.1 dX10_diff_167 rfl (lv_at hl 0 rfl) ?_
  refine lv_aload_n S.1 S.2.1 dX10_diff_168 rfl (lv_at hl 1 rfl) ?_
  refine gx_get (C := RX10) (T := TX10) (N := 31) S hG (fu_at (by omega) (fu_at (by omega) (fu_at (by omega) (fu_at (by omega) (fu_at (by omega) (fu_at (by omega) (fu_at (by omega) (fu_at (by omega) (fu_at (by omega) fu_s))))))))) i_X10_diff_X10 rfl 14 (by decide) (by decide +kernel) rfl dX10_diff_169 ?_
  refine lv_iload_n S.1 S.2.1 dX10_diff_172 rfl (lv_at hl 0 rfl) ?_
  refine gx_iald (v := (-1)) S hG 0 (fu_at (by omega) (fu_at (by omega) (fu_at (by omega) (fu_at (by omega) (fu_at (by omega) (fu_at (by omega) (fu_at (by omega) (fu_at (by omega) (fu_at (by omega) (fu_at (by omega) (fblk_sk 8 rfl (by omega) fu_s))))))))))) rfl (fin_l (by decide)) (by decide) dX10_diff_173 ?_
  refine gx_iast (f' := upd (upd (upd (upd (upd (fun _ => 0) 0 0) 1 (-1)) 2 (-1)) 3 (-1)) 4 (-1)) S hG 0 (fu_at (by omega) fu_s) rfl (fin_l (by decide)) dX10_diff_174 (rfl) (fun H locs hG => ?_)
  refine lv_iinc (v := 5) (lv' := [(3, .int 5), (0, .ref (N0 + 164)), (1, .int 0), (2, .int 0)]) S.1 S.2.1 dX10_diff_175 hl (k := 0) rfl (by decide) (by decide) rfl (fun ls hl => ?_)
  refine lv_goto (tgt := 145) S.1 S.2.1 dX10_diff_178 (by decide) ?_
  refine lv_iload_n S.1 S.2.1 dX10_diff_145 rfl (lv_at hl 0 rfl) ?_
  refine lv_bipush (v := 20) S.1 S.2.1 dX10_diff_146 (by decide) ?_
  refine lv_icmp_ge (tgt := 181) S.1 S.2.1 dX10_diff_148 (by decide) (fun c => absurd c (by decide)) (fun _ => ?_)
  refine lv_aload_n S.1 S.2.1 dX10_diff_151 rfl (lv_at hl 1 rfl) ?_
  refine gx_get (C := RX10) (T := TX10) (N := 31) S hG (fu_at (by omega) (fu_at (by omega) (fu_at (by omega) (fu_at (by omega) (fu_at (by omega) (fu_at (by omega) (fu_at (by omega) (fu_at (by omega) (fu_at (by omega) (fu_at (by omega) fu_s)))))))))) i_X10_diff_X10 rfl 21 (by decide) (by decide +kernel) rfl dX10_diff_152 ?_
  refine lv_iload_n S.1 S.2.1 dX10_diff_155 rfl (lv_at hl 0 rfl) ?_
  refine lv_aload_n S.1 S.2.1 dX10_diff_156 rfl (lv_at hl 1 rfl) ?_
  refine gx_get (C := RX10) (T := TX10) (N := 31) S hG (fu_at (by omega) (fu_at (by omega) (fu_at (by omega) (fu_at (by omega) (fu_at (by omega) (fu_at (by omega) (fu_at (by omega) (fu_at (by omega) (fu_at (by omega) (fu_at (by omega) fu_s)))))))))) i_X10_diff_X10 rfl 13 (by decide) (by decide +kernel) rfl dX10_diff_157 ?_
  refine lv_iload_n S.1 S.2.1 dX10_diff_160 rfl (lv_at hl 0 rfl) ?_
  refine gx_iald (v := (-1)) S hG 0 (fu_at (by omega) (fu_at (by omega) (fu_at (by omega) (fu_at (by omega) (fu_at (by omega) (fu_at (by omega) (fu_at (by omega) (fu_at (by omega) (fu_at (by omega) (fu_at (by omega) (fu_at (by omega) (fblk_sk 8 rfl (by omega) (fu_at (by omega) fu_s))))))))))))) rfl (fin_l (by decide)) (by decide) dX10_diff_161 ?_
  refine gx_iast (f' := upd (upd (upd (upd (upd (upd (fun _ => 0) 0 0) 1 (-1)) 2 (-1)) 3 (-1)) 4 (-1)) 5 (-1)) S hG 0 (fu_at (by omega) fu_s) rfl (fin_l (by decide)) dX10_diff_162 (rfl) (fun H locs hG => ?_)
  refine lv_aload_n S.1 S.2.1 dX10_diff_163 rfl (lv_at hl 1 rfl) ?_
  refine gx_get (C := RX10) (T := TX10) (N := 31) S hG (fu_at (by omega) (fu_at (by omega) (fu_at (by omega) (fu_at (by omega) (fu_at (by omega) (fu_at (by omega) (fu_at (by omega) (fu_at (by omega) (fu_at (by omega) (fu_at (by omega) (fu_at (by omega) fu_s))))))))))) i_X10_diff_X10 rfl 22 (by decide) (by decide +kernel) rfl dX10_diff_164 ?_
  refine lv_iload_n S.1 S.2.1 dX10_diff_167 rfl (lv_at hl 0 rfl) ?_
  refine lv_aload_n S.1 S.2.1 dX10_diff_168 rfl (lv_at hl 1 rfl) ?_
  refine gx_get (C := RX10) (T := TX10) (N := 31) S hG (fu_at (by omega) (fu_at (by omega) (fu_at (by omega) (fu_at (by omega) (fu_at (by omega) (fu_at (by omega) (fu_at (by omega) (fu_at (by omega) (fu_at (by omega) (fu_at (by omega) (fu_at (by omega) fu_s))))))))))) i_X10_diff_X10 rfl 14 (by decide) (by decide +kernel) rfl dX10_diff_169 ?_
  refine lv_iload_n S.1 S.2.1 dX10_diff_172 rfl (lv_at hl 0 rfl) ?_
  refine gx_iald (v := (-1)) S hG 0 (fu_at (by omega) (fu_at (by omega) (fu_at (by omega) (fu_at (by omega) (fu_at (by omega) (fu_at (by omega) (fu_at (by omega) (fu_at (by omega) (fu_at (by omega) (fu_at (by omega) (fu_at (by omega) (fu_at (by omega) (fblk_sk 8 rfl (by omega) fu_s))))))))))))) rfl (fin_l (by decide)) (by decide) dX10_diff_173 ?_
  refine gx_iast (f' := upd (upd (upd (upd (upd (upd (fun _ => 0) 0 0) 1 (-1)) 2 (-1)) 3 (-1)) 4 (-1)) 5 (-1)) S hG 0 (fu_at (by omega) fu_s) rfl (fin_l (by decide)) dX10_diff_174 (rfl) (fun H locs hG => ?_)
  refine lv_iinc (v := 6) (lv' := [(3, .int 6), (0, .ref (N0 + 164)), (1, .int 0), (2, .int 0)]) S.1 S.2.1 dX10_diff_175 hl (k := 0) rfl (by decide) (by decide) rfl (fun ls hl => ?_)
  refine lv_goto (tgt := 145) S.1 S.2.1 dX10_diff_178 (by decide) ?_
  refine lv_iload_n S.1 S.2.1 dX10_diff_145 rfl (lv_at hl 0 rfl) ?_
  refine lv_bipush (v := 20) S.1 S.2.1 dX10_diff_146 (by decide) ?_
  refine lv_icmp_ge (tgt := 181) S.1 S.2.1 dX10_diff_148 (by decide) (fun c => absurd c (by decide)) (fun _ => ?_)
  refine lv_aload_n S.1 S.2.1 dX10_diff_151 rfl (lv_at hl 1 rfl) ?_
  refine gx_get (C := RX10) (T := TX10) (N := 31) S hG (fu_at (by omega) (fu_at (by omega) (fu_at (by omega) (fu_at (by omega) (fu_at (by omega) (fu_at (by omega) (fu_at (by omega) (fu_at (by omega) (fu_at (by omega) (fu_at (by omega) (fu_at (by omega) (fu_at (by omega) fu_s)))))))))))) i_X10_diff_X10 rfl 21 (by decide) (by decide +kernel) rfl dX10_diff_152 ?_
  refine lv_iload_n S.1 S.2.1 dX10_diff_155 rfl (lv_at hl 0 rfl) ?_
  refine lv_aload_n S.1 S.2.1 dX10_diff_156 rfl (lv_at hl 1 rfl) ?_
  refine gx_get (C := RX10) (T := TX10) (N := 31) S hG (fu_at (by omega) (fu_at (by omega) (fu_at (by omega) (fu_at (by omega) (fu_at (by omega) (fu_at (by omega) (fu_at (by omega) (fu_at (by omega) (fu_at (by omega) (fu_at (by omega) (fu_at (by omega) (fu_at (by omega) fu_s)))))))))))) i_X10_diff_X10 rfl 13 (by decide) (by decide +kernel) rfl dX10_diff_157 ?_
  refine lv_iload_n S.1 S.2.1 dX10_diff_160 rfl (lv_at hl 0 rfl) ?_
  refine gx_iald (v := (-1)) S hG 0 (fu_at (by omega) (fu_at (by omega) (fu_at (by omega) (fu_at (by omega) (fu_at (by omega) (fu_at (by omega) (fu_at (by omega) (fu_at (by omega) (fu_at (by omega) (fu_at (by omega) (fu_at (by omega) (fu_at (by omega) (fu_at (by omega) (fblk_sk 8 rfl (by omega) (fu_at (by omega) fu_s))))))))))))))) rfl (fin_l (by decide)) (by decide) dX10_diff_161 ?_
  refine gx_iast (f' := upd (upd (upd (upd (upd (upd (upd (fun _ => 0) 0 0) 1 (-1)) 2 (-1)) 3 (-1)) 4 (-1)) 5 (-1)) 6 (-1)) S hG 0 (fu_at (by omega) fu_s) rfl (fin_l (by decide)) dX10_diff_162 (rfl) (fun H locs hG => ?_)
  refine lv_aload_n S.1 S.2.1 dX10_diff_163 rfl (lv_at hl 1 rfl) ?_
  refine gx_get (C := RX10) (T := TX10) (N := 31) S hG (fu_at (by omega) (fu_at (by omega) (fu_at (by omega) (fu_at (by omega) (fu_at (by omega) (fu_at (by omega) (fu_at (by omega) (fu_at (by omega) (fu_at (by omega) (fu_at (by omega) (fu_at (by omega) (fu_at (by omega) (fu_at (by omega) fu_s))))))))))))) i_X10_diff_X10 rfl 22 (by decide) (by decide +kernel) rfl dX10_diff_164 ?_
  refine lv_iload_n S.1 S.2.1 dX10_diff_167 rfl (lv_at hl 0 rfl) ?_
  refine lv_aload_n S.1 S.2.1 dX10_diff_168 rfl (lv_at hl 1 rfl) ?_
  refine gx_get (C := RX10) (T := TX10) (N := 31) S hG (fu_at (by omega) (fu_at (by omega) (fu_at (by omega) (fu_at (by omega) (fu_at (by omega) (fu_at (by omega) (fu_at (by omega) (fu_at (by omega) (fu_at (by omega) (fu_at (by omega) (fu_at (by omega) (fu_at (by omega) (fu_at (by omega) fu_s))))))))))))) i_X10_diff_X10 rfl 14 (by decide) (by decide +kernel) rfl dX10_diff_169 ?_
  refine lv_iload_n S.1 S.2.1 dX10_diff_172 rfl (lv_at hl 0 rfl) ?_
  refine gx_iald (v := (-1)) S hG 0 (fu_at (by omega) (fu_at (by omega) (fu_at (by omega) (fu_at (by omega) (fu_at (by omega) (fu_at (by omega) (fu_at (by omega) (fu_at (by omega) (fu_at (by omega) (fu_at (by omega) (fu_at (by omega) (fu_at (by omega) (fu_at (by omega) (fu_at (by omega) (fblk_sk 8 rfl (by omega) fu_s))))))))))))))) rfl (fin_l (by decide)) (by decide) dX10_diff_173 ?_
  refine gx_iast (f' := upd (upd (upd (upd (upd (upd (upd (fun _ => 0) 0 0) 1 (-1)) 2 (-1)) 3 (-1)) 4 (-1)) 5 (-1)) 6 (-1)) S hG 0 (fu_at (by omega) fu_s) rfl (fin_l (by decide)) dX10_diff_174 (rfl) (fun H locs hG => ?_)
  refine lv_iinc (v := 7) (lv' := [(3, .int 7), (0, .ref (N0 + 164)), (1, .int 0), (2, .int 0)]) S.1 S.2.1 dX10_diff_175 hl (k := 0) rfl (by decide) (by decide) rfl (fun ls hl => ?_)
  refine lv_goto (tgt := 145) S.1 S.2.1 dX10_diff_178 (by decide) ?_
  refine lv_iload_n S.1 S.2.1 dX10_diff_145 rfl (lv_at hl 0 rfl) ?_
  refine lv_bipush (v := 20) S.1 S.2.1 dX10_diff_146 (by decide) ?_
  refine lv_icmp_ge (tgt := 181) S.1 S.2.1 dX10_diff_148 (by decide) (fun c => absurd c (by decide)) (fun _ => ?_)
  refine lv_aload_n S.1 S.2.1 dX10_diff_151 rfl (lv_at hl 1 rfl) ?_
  refine gx_get (C := RX10) (T := TX10) (N := 31) S hG (fu_at (by omega) (fu_at (by omega) (fu_at (by omega) (fu_at (by omega) (fu_at (by omega) (fu_at (by omega) (fu_at (by omega) (fu_at (by omega) (fu_at (by omega) (fu_at (by omega) (fu_at (by omega) (fu_at (by omega) (fu_at (by omega) (fu_at (by omega) fu_s)))))))))))))) i_X10_diff_X10 rfl 21 (by decide) (by decide +kernel) rfl dX10_diff_152 ?_
  refine lv_iload_n S.1 S.2.1 dX10_diff_155 rfl (lv_at hl 0 rfl) ?_
  refine lv_aload_n S.1 S.2.1 dX10_diff_156 rfl (lv_at hl 1 rfl) ?_
  refine gx_get (C := RX10) (T := TX10) (N := 31) S hG (fu_at (by omega) (fu_at (by omega) (fu_at (by omega) (fu_at (by omega) (fu_at (by omega) (fu_at (by omega) (fu_at (by omega) (fu_at (by omega) (fu_at (by omega) (fu_at (by omega) (fu_at (by omega) (fu_at (by omega) (fu_at (by omega) (fu_at (by omega) fu_s)))))))))))))) i_X10_diff_X10 rfl 13 (by decide) (by decide +kernel) rfl dX10_diff_157 ?_
  refine lv_iload_n S.1 S.2.1 dX10_diff_160 rfl (lv_at hl 0 rfl) ?_
  refine gx_iald (v := (-1)) S hG 0 (fu_at (by omega) (fu_at (by omega) (fu_at (by omega) (fu_at (by omega) (fu_at (by omega) (fu_at (by omega) (fu_at (by omega) (fu_at (by omega) (fu_at (by omega) (fu_at (by omega) (fu_at (by omega) (fu_at (by omega) (fu_at (by omega) (fu_at (by omega) (fu_at (by omega) (fblk_sk 8 rfl (by omega) (fu_at (by omega) fu_s))))))))))))))))) rfl (fin_l (by decide)) (by decide) dX10_diff_161 ?_
  refine gx_iast (f' := upd (upd (upd (upd (upd (upd (upd (upd (fun _ => 0) 0 0) 1 (-1)) 2 (-1)) 3 (-1)) 4 (-1)) 5 (-1)) 6 (-1)) 7 (-1)) S hG 0 (fu_at (by omega) fu_s) rfl (fin_l (by decide)) dX10_diff_162 (rfl) (fun H locs hG => ?_)
  refine lv_aload_n S.1 S.2.1 dX10_diff_163 rfl (lv_at hl 1 rfl) ?_
  refine gx_get (C := RX10) (T := TX10) (N := 31) S hG (fu_at (by omega) (fu_at (by omega) (fu_at (by omega) (fu_at (by omega) (fu_at (by omega) (fu_at (by omega) (fu_at (by omega) (fu_at (by omega) (fu_at (by omega) (fu_at (by omega) (fu_at (by omega) (fu_at (by omega) (fu_at (by omega) (fu_at (by omega) (fu_at (by omega) fu_s))))))))))))))) i_X10_diff_X10 rfl 22 (by decide) (by decide +kernel) rfl dX10_diff_164 ?_
  refine lv_iload_n S.1 S.2.1 dX10_diff_167 rfl (lv_at hl 0 rfl) ?_
  refine lv_aload_n S.1 S.2.1 dX10_diff_168 rfl (lv_at hl 1 rfl) ?_
  refine gx_get (C := RX10) (T := TX10) (N := 31) S hG (fu_at (by omega) (fu_at (by omega) (fu_at (by omega) (fu_at (by omega) (fu_at (by omega) (fu_at (by omega) (fu_at (by omega) (fu_at (by omega) (fu_at (by omega) (fu_at (by omega) (fu_at (by omega) (fu_at (by omega) (fu_at (by omega) (fu_at (by omega) (fu_at (by omega) fu_s))))))))))))))) i_X10_diff_X10 rfl 14 (by decide) (by decide +kernel) rfl dX10_diff_169 ?_
  refine lv_iload_n S.1 S.2.1 dX10_diff_172 rfl (lv_at hl 0 rfl) ?_
  refine gx_iald (v := (-1)) S hG 0 (fu_at (by omega) (fu_at (by omega) (fu_at (by omega) (fu_at (by omega) (fu_at (by omega) (fu_at (by omega) (fu_at (by omega) (fu_at (by omega) (fu_at (by omega) (fu_at (by omega) (fu_at (by omega) (fu_at (by omega) (fu_at (by omega) (fu_at (by omega) (fu_at (by omega) (fu_at (by omega) (fblk_sk 8 rfl (by omega) fu_s))))))))))))))))) rfl (fin_l (by decide)) (by decide) dX10_diff_173 ?_
  refine gx_iast (f' := upd (upd (upd (upd (upd (upd (upd (upd (fun _ => 0) 0 0) 1 (-1)) 2 (-1)) 3 (-1)) 4 (-1)) 5 (-1)) 6 (-1)) 7 (-1)) S hG 0 (fu_at (by omega) fu_s) rfl (fin_l (by decide)) dX10_diff_174 (rfl) (fun H locs hG => ?_)
  refine lv_iinc (v := 8) (lv' := [(3, .int 8), (0, .ref (N0 + 164)), (1, .int 0), (2, .int 0)]) S.1 S.2.1 dX10_diff_175 hl (k := 0) rfl (by decide) (by decide) rfl (fun ls hl => ?_)
  refine lv_goto (tgt := 145) S.1 S.2.1 dX10_diff_178 (by decide) ?_
  refine lv_iload_n S.1 S.2.1 dX10_diff_145 rfl (lv_at hl 0 rfl) ?_
  refine lv_bipush (v := 20) S.1 S.2.1 dX10_diff_146 (by decide) ?_
  refine lv_icmp_ge (tgt := 181) S.1 S.2.1 dX10_diff_148 (by decide) (fun c => absurd c (by decide)) (fun _ => ?_)
  refine lv_aload_n S.1 S.2.1 dX10_diff_151 rfl (lv_at hl 1 rfl) ?_
  refine gx_get (C := RX10) (T := TX10) (N := 31) S hG (fu_at (by omega) (fu_at (by omega) (fu_at (by omega) (fu_at (by omega) (fu_at (by omega) (fu_at (by omega) (fu_at (by omega) (fu_at (by omega) (fu_at (by omega) (fu_at (by omega) (fu_at (by omega) (fu_at (by omega) (fu_at (by omega) (fu_at (by omega) (fu_at (by omega) (fu_at (by omega) fu_s)))))))))))))))) i_X10_diff_X10 rfl 21 (by decide) (by decide +kernel) rfl dX10_diff_152 ?_
  refine lv_iload_n S.1 S.2.1 dX10_diff_155 rfl (lv_at hl 0 rfl) ?_
  refine lv_aload_n S.1 S.2.1 dX10_diff_156 rfl (lv_at hl 1 rfl) ?_
  refine gx_get (C := RX10) (T := TX10) (N := 31) S hG (fu_at (by omega) (fu_at (by omega) (fu_at (by omega) (fu_at (by omega) (fu_at (by omega) (fu_at (by omega) (fu_at (by omega) (fu_at (by omega) (fu_at (by omega) (fu_at (by omega) (fu_at (by omega) (fu_at (by omega) (fu_at (by omega) (fu_at (by omega) (fu_at (by omega) (fu_at (by omega) fu_s)))))))))))))))) i_X10_diff_X10 rfl 13 (by decide) (by decide +kernel) rfl dX10_diff_157 ?_
  refine lv_iload_n S.1 S.2.1 dX10_diff_160 rfl (lv_at hl 0 rfl) ?_
  refine gx_iald (v := (-1)) S hG 0 (fu_at (by omega) (fu_at (by omega) (fu_at (by omega) (fu_at (by omega) (fu_at (by omega) (fu_at (by omega) (fu_at (by omega) (fu_at (by omega) (fu_at (by omega) (fu_at (by omega) (fu_at (by omega) (fu_at (by omega) (fu_at (by omega) (fu_at (by omega) (fu_at (by omega) (fu_at (by omega) (fu_at (by omega) (fblk_sk 8 rfl (by omega) (fu_at (by omega) fu_s))))))))))))))))))) rfl (fin_l (by decide)) (by decide) dX10_diff_161 ?_
  refine gx_iast (f' := upd (upd (upd (upd (upd (upd (upd (upd (upd (fun _ => 0) 0 0) 1 (-1)) 2 (-1)) 3 (-1)) 4 (-1)) 5 (-1)) 6 (-1)) 7 (-1)) 8 (-1)) S hG 0 (fu_at (by omega) fu_s) rfl (fin_l (by decide)) dX10_diff_162 (rfl) (fun H locs hG => ?_)
  refine lv_aload_n S.1 S.2.1 dX10_diff_163 rfl (lv_at hl 1 rfl) ?_
  refine gx_get (C := RX10) (T := TX10) (N := 31) S hG (fu_at (by omega) (fu_at (by omega) (fu_at (by omega) (fu_at (by omega) (fu_at (by omega) (fu_at (by omega) (fu_at (by omega) (fu_at (by omega) (fu_at (by omega) (fu_at (by omega) (fu_at (by omega) (fu_at (by omega) (fu_at (by omega) (fu_at (by omega) (fu_at (by omega) (fu_at (by omega) (fu_at (by omega) fu_s))))))))))))))))) i_X10_diff_X10 rfl 22 (by decide) (by decide +kernel) rfl dX10_diff_164 ?_
  refine lv_iload_n S.1 S.2.1 dX10_diff_167 rfl (lv_at hl 0 rfl) ?_
  refine lv_aload_n S.1 S.2.1 dX10_diff_168 rfl (lv_at hl 1 rfl) ?_
  refine gx_get (C := RX10) (T := TX10) (N := 31) S hG (fu_at (by omega) (fu_at (by omega) (fu_at (by omega) (fu_at (by omega) (fu_at (by omega) (fu_at (by omega) (fu_at (by omega) (fu_at (by omega) (fu_at (by omega) (fu_at (by omega) (fu_at (by omega) (fu_at (by omega) (fu_at (by omega) (fu_at (by omega) (fu_at (by omega) (fu_at (by omega) (fu_at (by omega) fu_s))))))))))))))))) i_X10_diff_X10 rfl 14 (by decide) (by decide +kernel) rfl dX10_diff_169 ?_
  refine lv_iload_n S.1 S.2.1 dX10_diff_172 rfl (lv_at hl 0 rfl) ?_
  refine gx_iald (v := (-1)) S hG 0 (fu_at (by omega) (fu_at (by omega) (fu_at (by omega) (fu_at (by omega) (fu_at (by omega) (fu_at (by omega) (fu_at (by omega) (fu_at (by omega) (fu_at (by omega) (fu_at (by omega) (fu_at (by omega) (fu_at (by omega) (fu_at (by omega) (fu_at (by omega) (fu_at (by omega) (fu_at (by omega) (fu_at (by omega) (fu_at (by omega) (fblk_sk 8 rfl (by omega) fu_s))))))))))))))))))) rfl (fin_l (by decide)) (by decide) dX10_diff_173 ?_
  refine gx_iast (f' := upd (upd (upd (upd (upd (upd (upd (upd (upd (fun _ => 0) 0 0) 1 (-1)) 2 (-1)) 3 (-1)) 4 (-1)) 5 (-1)) 6 (-1)) 7 (-1)) 8 (-1)) S hG 0 (fu_at (by omega) fu_s) rfl (fin_l (by decide)) dX10_diff_174 (rfl) (fun H locs hG => ?_)
  refine lv_iinc (v := 9) (lv' := [(3, .int 9), (0, .ref (N0 + 164)), (1, .int 0), (2, .int 0)]) S.1 S.2.1 dX10_diff_175 hl (k := 0) rfl (by decide) (by decide) rfl (fun ls hl => ?_)
  refine lv_goto (tgt := 145) S.1 S.2.1 dX10_diff_178 (by decide) ?_
  refine lv_iload_n S.1 S.2.1 dX10_diff_145 rfl (lv_at hl 0 rfl) ?_
  refine lv_bipush (v := 20) S.1 S.2.1 dX10_diff_146 (by decide) ?_
  refine lv_icmp_ge (tgt := 181) S.1 S.2.1 dX10_diff_148 (by decide) (fun c => absurd c (by decide)) (fun _ => ?_)
  refine lv_aload_n S.1 S.2.1 dX10_diff_151 rfl (lv_at hl 1 rfl) ?_
  refine gx_get (C := RX10) (T := TX10) (N := 31) S hG (fu_at (by omega) (fu_at (by omega) (fu_at (by omega) (fu_at (by omega) (fu_at (by omega) (fu_at (by omega) (fu_at (by omega) (fu_at (by omega) (fu_at (by omega) (fu_at (by omega) (fu_at (by omega) (fu_at (by omega) (fu_at (by omega) (fu_at (by omega) (fu_at (by omega) (fu_at (by omega) (fu_at (by omega) (fu_at (by omega) fu_s)))))))))))))))))) i_X10_diff_X10 rfl 21 (by decide) (by decide +kernel) rfl dX10_diff_152 ?_
  refine lv_iload_n S.1 S.2.1 dX10_diff_155 rfl (lv_at hl 0 rfl) ?_
  refine lv_aload_n S.1 S.2.1 dX10_diff_156 rfl (lv_at hl 1 rfl) ?_
  refine gx_get (C := RX10) (T := TX10) (N := 31) S hG (fu_at (by omega) (fu_at (by omega) (fu_at (by omega) (fu_at (by omega) (fu_at (by omega) (fu_at (by omega) (fu_at (by omega) (fu_at (by omega) (fu_at (by omega) (fu_at (by omega) (fu_at (by omega) (fu_at (by omega) (fu_at (by omega) (fu_at (by omega) (fu_at (by omega) (fu_at (by omega) (fu_at (by omega) (fu_at (by omega) fu_s)))))))))))))))))) i_X10_diff_X10 rfl 13 (by decide) (by decide +kernel) rfl dX10_diff_157 ?_
  refine lv_iload_n S.1 S.2.1 dX10_diff_160 rfl (lv_at hl 0 rfl) ?_
  refine gx_iald (v := (-1)) S hG 0 (fu_at (by omega) (fu_at (by omega) (fu_at (by omega) (fu_at (by omega) (fu_at (by omega) (fu_at (by omega) (fu_at (by omega) (fu_at (by omega) (fu_at (by omega) (fu_at (by omega) (fu_at (by omega) (fu_at (by omega) (fu_at (by omega) (fu_at (by omega) (fu_at (by omega) (fu_at (by omega) (fu_at (by omega) (fu_at (by omega) (fu_at (by omega) (fblk_sk 8 rfl (by omega) (fu_at (by omega) fu_s))))))))))))))))))))) rfl (fin_l (by decide)) (by decide) dX10_diff_161 ?_
  refine gx_iast (f' := upd (upd (upd (upd (upd (upd (upd (upd (upd (upd (fun _ => 0) 0 0) 1 (-1)) 2 (-1)) 3 (-1)) 4 (-1)) 5 (-1)) 6 (-1)) 7 (-1)) 8 (-1)) 9 (-1)) S hG 0 (fu_at (by omega) fu_s) rfl (fin_l (by decide)) dX10_diff_162 (rfl) (fun H locs hG => ?_)
  refine lv_aload_n S.1 S.2.1 dX10_diff_163 rfl (lv_at hl 1 rfl) ?_
  refine gx_get (C := RX10) (T := TX10) (N := 31) S hG (fu_at (by omega) (fu_at (by omega) (fu_at (by omega) (fu_at (by omega) (fu_at (by omega) (fu_at (by omega) (fu_at (by omega) (fu_at (by omega) (fu_at (by omega) (fu_at (by omega) (fu_at (by omega) (fu_at (by omega) (fu_at (by omega) (fu_at (by omega) (fu_at (by omega) (fu_at (by omega) (fu_at (by omega) (fu_at (by omega) (fu_at (by omega) fu_s))))))))))))))))))) i_X10_diff_X10 rfl 22 (by decide) (by decide +kernel) rfl dX10_diff_164 ?_
  refine lv_iload_n S.1 S.2.1 dX10_diff_167 rfl (lv_at hl 0 rfl) ?_
  refine lv_aload_n S.1 S.2.1 dX10_diff_168 rfl (lv_at hl 1 rfl) ?_
  refine gx_get (C := RX10) (T := TX10) (N := 31) S hG (fu_at (by omega) (fu_at (by omega) (fu_at (by omega) (fu_at (by omega) (fu_at (by omega) (fu_at (by omega) (fu_at (by omega) (fu_at (by omega) (fu_at (by omega) (fu_at (by omega) (fu_at (by omega) (fu_at (by omega) (fu_at (by omega) (fu_at (by omega) (fu_at (by omega) (fu_at (by omega) (fu_at (by omega) (fu_at (by omega) (fu_at (by omega) fu_s))))))))))))))))))) i_X10_diff_X10 rfl 14 (by decide) (by decide +kernel) rfl dX10_diff_169 ?_
  refine lv_iload_n S.1 S.2.1 dX10_diff_172 rfl (lv_at hl 0 rfl) ?_
  refine gx_iald (v := (-1)) S hG 0 (fu_at (by omega) (fu_at (by omega) (fu_at (by omega) (fu_at (by omega) (fu_at (by omega) (fu_at (by omega) (fu_at (by omega) (fu_at (by omega) (fu_at (by omega) (fu_at (by omega) (fu_at (by omega) (fu_at (by omega) (fu_at (by omega) (fu_at (by omega) (fu_at (by omega) (fu_at (by omega) (fu_at (by omega) (fu_at (by omega) (fu_at (by omega) (fu_at (by omega) (fblk_sk 8 rfl (by omega) fu_s))))))))))))))))))))) rfl (fin_l (by decide)) (by decide) dX10_diff_173 ?_
  refine gx_iast (f' := upd (upd (upd (upd (upd (upd (upd (upd (upd (upd (fun _ => 0) 0 0) 1 (-1)) 2 (-1)) 3 (-1)) 4 (-1)) 5 (-1)) 6 (-1)) 7 (-1)) 8 (-1)) 9 (-1)) S hG 0 (fu_at (by omega) fu_s) rfl (fin_l (by decide)) dX10_diff_174 (rfl) (fun H locs hG => ?_)
  refine lv_iinc (v := 10) (lv' := [(3, .int 10), (0, .ref (N0 + 164)), (1, .int 0), (2, .int 0)]) S.1 S.2.1 dX10_diff_175 hl (k := 0) rfl (by decide) (by decide) rfl (fun ls hl => ?_)
  refine lv_goto (tgt := 145) S.1 S.2.1 dX10_diff_178 (by decide) ?_
  refine lv_iload_n S.1 S.2.1 dX10_diff_145 rfl (lv_at hl 0 rfl) ?_
  refine lv_bipush (v := 20) S.1 S.2.1 dX10_diff_146 (by decide) ?_
  refine lv_icmp_ge (tgt := 181) S.1 S.2.1 dX10_diff_148 (by decide) (fun c => absurd c (by decide)) (fun _ => ?_)
  refine lv_aload_n S.1 S.2.1 dX10_diff_151 rfl (lv_at hl 1 rfl) ?_
  refine gx_get (C := RX10) (T := TX10) (N := 31) S hG (fu_at (by omega) (fu_at (by omega) (fu_at (by omega) (fu_at (by omega) (fu_at (by omega) (fu_at (by omega) (fu_at (by omega) (fu_at (by omega) (fu_at (by omega) (fu_at (by omega) (fu_at (by omega) (fu_at (by omega) (fu_at (by omega) (fu_at (by omega) (fu_at (by omega) (fu_at (by omega) (fu_at (by omega) (fu_at (by omega) (fu_at (by omega) (fu_at (by omega) fu_s)))))))))))))))))))) i_X10_diff_X10 rfl 21 (by decide) (by decide +kernel) rfl dX10_diff_152 ?_
  refine lv_iload_n S.1 S.2.1 dX10_diff_155 rfl (lv_at hl 0 rfl) ?_
  refine lv_aload_n S.1 S.2.1 dX10_diff_156 rfl (lv_at hl 1 rfl) ?_
  refine gx_get (C := RX10) (T := TX10) (N := 31) S hG (fu_at (by omega) (fu_at (by omega) (fu_at (by omega) (fu_at (by omega) (fu_at (by omega) (fu_at (by omega) (fu_at (by omega) (fu_at (by omega) (fu_at (by omega) (fu_at (by omega) (fu_at (by omega) (fu_at (by omega) (fu_at (by omega) (fu_at (by omega) (fu_at (by omega) (fu_at (by omega) (fu_at (by omega) (fu_at (by omega) (fu_at (by omega) (fu_at (by omega) fu_s)))))))))))))))))))) i_X10_diff_X10 rfl 13 (by decide) (by decide +kernel) rfl dX10_diff_157 ?_
  refine lv_iload_n S.1 S.2.1 dX10_diff_160 rfl (lv_at hl 0 rfl) ?_
  refine gx_iald (v := (-1)) S hG 0 (fu_at (by omega) (fu_at (by omega) (fu_at (by omega) (fu_at (by omega) (fu_at (by omega) (fu_at (by omega) (fu_at (by omega) (fu_at (by omega) (fu_at (by omega) (fu_at (by omega) (fu_at (by omega) (fu_at (by omega) (fu_at (by omega) (fu_at (by omega) (fu_at (by omega) (fu_at (by omega) (fu_at (by omega) (fu_at (by omega) (fu_at (by omega) (fu_at (by omega) (fu_at (by omega) (fblk_sk 8 rfl (by omega) (fu_at (by omega) fu_s))))))))))))))))))))))) rfl (fin_l (by decide)) (by decide) dX10_diff_161 ?_
  refine gx_iast (f' := upd (upd (upd (upd (upd (upd (upd (upd (upd (upd (upd (fun _ => 0) 0 0) 1 (-1)) 2 (-1)) 3 (-1)) 4 (-1)) 5 (-1)) 6 (-1)) 7 (-1)) 8 (-1)) 9 (-1)) 10 (-1)) S hG 0 (fu_at (by omega) fu_s) rfl (fin_l (by decide)) dX10_diff_162 (rfl) (fun H locs hG => ?_)
  refine lv_aload_n S.1 S.2.1 dX10_diff_163 rfl (lv_at hl 1 rfl) ?_
  refine gx_get (C := RX10) (T := TX10) (N := 31) S hG (fu_at (by omega) (fu_at (by omega) (fu_at (by omega) (fu_at (by omega) (fu_at (by omega) (fu_at (by omega) (fu_at (by omega) (fu_at (by omega) (fu_at (by omega) (fu_at (by omega) (fu_at (by omega) (fu_at (by omega) (fu_at (by omega) (fu_at (by omega) (fu_at (by omega) (fu_at (by omega) (fu_at (by omega) (fu_at (by omega) (fu_at (by omega) (fu_at (by omega) (fu_at (by omega) fu_s))))))))))))))))))))) i_X10_diff_X10 rfl 22 (by decide) (by decide +kernel) rfl dX10_diff_164 ?_
  refine lv_iload_n S.1 S.2.1 dX10_diff_167 rfl (lv_at hl 0 rfl) ?_
  refine lv_aload_n S.1 S.2.1 dX10_diff_168 rfl (lv_at hl 1 rfl) ?_
  refine gx_get (C := RX10) (T := TX10) (N := 31) S hG (fu_at (by omega) (fu_at (by omega) (fu_at (by omega) (fu_at (by omega) (fu_at (by omega) (fu_at (by omega) (fu_at (by omega) (fu_at (by omega) (fu_at (by omega) (fu_at (by omega) (fu_at (by omega) (fu_at (by omega) (fu_at (by omega) (fu_at (by omega) (fu_at (by omega) (fu_at (by omega) (fu_at (by omega) (fu_at (by omega) (fu_at (by omega) (fu_at (by omega) (fu_at (by omega) fu_s))))))))))))))))))))) i_X10_diff_X10 rfl 14 (by decide) (by decide +kernel) rfl dX10_diff_169 ?_
  refine lv_iload_n S.1 S.2.1 dX10_diff_172 rfl (lv_at hl 0 rfl) ?_
  refine gx_iald (v := (-1)) S hG 0 (fu_at (by omega) (fu_at (by omega) (fu_at (by omega) (fu_at (by omega) (fu_at (by omega) (fu_at (by omega) (fu_at (by omega) (fu_at (by omega) (fu_at (by omega) (fu_at (by omega) (fu_at (by omega) (fu_at (by omega) (fu_at (by omega) (fu_at (by omega) (fu_at (by omega) (fu_at (by omega) (fu_at (by omega) (fu_at (by omega) (fu_at (by omega) (fu_at (by omega) (fu_at (by omega) (fu_at (by omega) (fblk_sk 8 rfl (by omega) fu_s))))))))))))))))))))))) rfl (fin_l (by decide)) (by decide) dX10_diff_173 ?_
  refine gx_iast (f' := upd (upd (upd (upd (upd (upd (upd (upd (upd (upd (upd (fun _ => 0) 0 0) 1 (-1)) 2 (-1)) 3 (-1)) 4 (-1)) 5 (-1)) 6 (-1)) 7 (-1)) 8 (-1)) 9 (-1)) 10 (-1)) S hG 0 (fu_at (by omega) fu_s) rfl (fin_l (by decide)) dX10_diff_174 (rfl) (fun H locs hG => ?_)
  refine lv_iinc (v := 11) (lv' := [(3, .int 11), (0, .ref (N0 + 164)), (1, .int 0), (2, .int 0)]) S.1 S.2.1 dX10_diff_175 hl (k := 0) rfl (by decide) (by decide) rfl (fun ls hl => ?_)
  refine lv_goto (tgt := 145) S.1 S.2.1 dX10_diff_178 (by decide) ?_
  refine lv_iload_n S.1 S.2.1 dX10_diff_145 rfl (lv_at hl 0 rfl) ?_
  refine lv_bipush (v := 20) S.1 S.2.1 dX10_diff_146 (by decide) ?_
  refine lv_icmp_ge (tgt := 181) S.1 S.2.1 dX10_diff_148 (by decide) (fun c => absurd c (by decide)) (fun _ => ?_)
  refine lv_aload_n S.1 S.2.1 dX10_diff_151 rfl (lv_at hl 1 rfl) ?_
  refine gx_get (C := RX10) (T := TX10) (N := 31) S hG (fu_at (by omega) (fu_at (by omega) (fu_at (by omega) (fu_at (by omega) (fu_at (by omega) (fu_at (by omega) (fu_at (by omega) (fu_at (by omega) (fu_at (by omega) (fu_at (by omega) (fu_at (by omega) (fu_at (by omega) (fu_at (by omega) (fu_at (by omega) (fu_at (by omega) (fu_at (by omega) (fu_at (by omega) (fu_at (by omega) (fu_at (by omega) (fu_at (by omega) (fu_at (by omega) (fu_at (by omega) fu_s)))))))))))))))))))))) i_X10_diff_X10 rfl 21 (by decide) (by decide +kernel) rfl dX10_diff_152 ?_
  refine lv_iload_n S.1 S.2.1 dX10_diff_155 rfl (lv_at hl 0 rfl) ?_
  refine lv_aload_n S.1 S.2.1 dX10_diff_156 rfl (lv_at hl 1 rfl) ?_
  refine gx_get (C := RX10) (T := TX10) (N := 31) S hG (fu_at (by omega) (fu_at (by omega) (fu_at (by omega) (fu_at (by omega) (fu_at (by omega) (fu_at (by omega) (fu_at (by omega) (fu_at (by omega) (fu_at (by omega) (fu_at (by omega) (fu_at (by omega) (fu_at (by omega) (fu_at (by omega) (fu_at (by omega) (fu_at (by omega) (fu_at (by omega) (fu_at (by omega) (fu_at (by omega) (fu_at (by omega) (fu_at (by omega) (fu_at (by omega) (fu_at (by omega) fu_s)))))))))))))))))))))) i_X10_diff_X10 rfl 13 (by decide) (by decide +kernel) rfl dX10_diff_157 ?_
  refine lv_iload_n S.1 S.2.1 dX10_diff_160 rfl (lv_at hl 0 rfl) ?_
  refine gx_iald (v := (-1)) S hG 0 (fu_at (by omega) (fu_at (by omega) (fu_at (by omega) (fu_at (by omega) (fu_at (by omega) (fu_at (by omega) (fu_at (by omega) (fu_at (by omega) (fu_at (by omega) (fu_at (by omega) (fu_at (by omega) (fu_at (by omega) (fu_at (by omega) (fu_at (by omega) (fu_at (by omega) (fu_at (by omega) (fu_at (by omega) (fu_at (by omega) (fu_at (by omega) (fu_at (by omega) (fu_at (by omega) (fu_at (by omega) (fu_at (by omega) (fblk_sk 8 rfl (by omega) (fu_at (by omega) fu_s))))))))))))))))))))))))) rfl (fin_l (by decide)) (by decide) dX10_diff_161 ?_
  refine gx_iast (f' := upd (upd (upd (upd (upd (upd (upd (upd (upd (upd (upd (upd (fun _ => 0) 0 0) 1 (-1)) 2 (-1)) 3 (-1)) 4 (-1)) 5 (-1)) 6 (-1)) 7 (-1)) 8 (-1)) 9 (-1)) 10 (-1)) 11 (-1)) S hG 0 (fu_at (by omega) fu_s) rfl (fin_l (by decide)) dX10_diff_162 (rfl) (fun H locs hG => ?_)
  refine lv_aload_n S.1 S.2.1 dX10_diff_163 rfl (lv_at hl 1 rfl) ?_
  refine gx_get (C := RX10) (T := TX10) (N := 31) S hG (fu_at (by omega) (fu_at (by omega) (fu_at (by omega) (fu_at (by omega) (fu_at (by omega) (fu_at (by omega) (fu_at (by omega) (fu_at (by omega) (fu_at (by omega) (fu_at (by omega) (fu_at (by omega) (fu_at (by omega) (fu_at (by omega) (fu_at (by omega) (fu_at (by omega) (fu_at (by omega) (fu_at (by omega) (fu_at (by omega) (fu_at (by omega) (fu_at (by omega) (fu_at (by omega) (fu_at (by omega) (fu_at (by omega) fu_s))))))))))))))))))))))) i_X10_diff_X10 rfl 22 (by decide) (by decide +kernel) rfl dX10_diff_164 ?_
  refine lv_iload_n S.1 S.2.1 dX10_diff_167 rfl (lv_at hl 0 rfl) ?_
  refine lv_aload_n S.1 S.2.1 dX10_diff_168 rfl (lv_at hl 1 rfl) ?_
  refine gx_get (C := RX10) (T := TX10) (N := 31) S hG (fu_at (by omega) (fu_at (by omega) (fu_at (by omega) (fu_at (by omega) (fu_at (by omega) (fu_at (by omega) (fu_at (by omega) (fu_at (by omega) (fu_at (by omega) (fu_at (by omega) (fu_at (by omega) (fu_at (by omega) (fu_at (by omega) (fu_at (by omega) (fu_at (by omega) (fu_at (by omega) (fu_at (by omega) (fu_at (by omega) (fu_at (by omega) (fu_at (by omega) (fu_at (by omega) (fu_at (by omega) (fu_at (by omega) fu_s))))))))))))))))))))))) i_X10_diff_X10 rfl 14 (by decide) (by decide +kernel) rfl dX10_diff_169 ?_
  refine lv_iload_n S.1 S.2.1 dX10_diff_172 rfl (lv_at hl 0 rfl) ?_
  refine gx_iald (v := (-1)) S hG 0 (fu_at (by omega) (fu_at (by omega) (fu_at (by omega) (fu_at (by omega) (fu_at (by omega) (fu_at (by omega) (fu_at (by omega) (fu_at (by omega) (fu_at (by omega) (fu_at (by omega) (fu_at (by omega) (fu_at (by omega) (fu_at (by omega) (fu_at (by omega) (fu_at (by omega) (fu_at (by omega) (fu_at (by omega) (fu_at (by omega) (fu_at (by omega) (fu_at (by omega) (fu_at (by omega) (fu_at (by omega) (fu_at (by omega) (fu_at (by omega) (fblk_sk 8 rfl (by omega) fu_s))))))))))))))))))))))))) rfl (fin_l (by decide)) (by decide) dX10_diff_173 ?_
  refine gx_iast (f' := upd (upd (upd (upd (upd (upd (upd (upd (upd (upd (upd (upd (fun _ => 0) 0 0) 1 (-1)) 2 (-1)) 3 (-1)) 4 (-1)) 5 (-1)) 6 (-1)) 7 (-1)) 8 (-1)) 9 (-1)) 10 (-1)) 11 (-1)) S hG 0 (fu_at (by omega) fu_s) rfl (fin_l (by decide)) dX10_diff_174 (rfl) (fun H locs hG => ?_)
  refine lv_iinc (v := 12) (lv' := [(3, .int 12), (0, .ref (N0 + 164)), (1, .int 0), (2, .int 0)]) S.1 S.2.1 dX10_diff_175 hl (k := 0) rfl (by decide) (by decide) rfl (fun ls hl => ?_)
  refine lv_goto (tgt := 145) S.1 S.2.1 dX10_diff_178 (by decide) ?_
  refine lv_iload_n S.1 S.2.1 dX10_diff_145 rfl (lv_at hl 0 rfl) ?_
  refine lv_bipush (v := 20) S.1 S.2.1 dX10_diff_146 (by decide) ?_
  refine lv_icmp_ge (tgt := 181) S.1 S.2.1 dX10_diff_148 (by decide) (fun c => absurd c (by decide)) (fun _ => ?_)
  refine lv_aload_n S.1 S.2.1 dX10_diff_151 rfl (lv_at hl 1 rfl) ?_
  refine gx_get (C := RX10) (T := TX10) (N := 31) S hG (fu_at (by omega) (fu_at (by omega) (fu_at (by omega) (fu_at (by omega) (fu_at (by omega) (fu_at (by omega) (fu_at (by omega) (fu_at (by omega) (fu_at (by omega) (fu_at (by omega) (fu_at (by omega) (fu_at (by omega) (fu_at (by omega) (fu_at (by omega) (fu_at (by omega) (fu_at (by omega) (fu_at (by omega) (fu_at (by omega) (fu_at (by omega) (fu_at (by omega) (fu_at (by omega) (fu_at (by omega) (fu_at (by omega) (fu_at (by omega) fu_s)))))))))))))))))))))))) i_X10_diff_X10 rfl 21 (by decide) (by decide +kernel) rfl dX10_diff_152 ?_
  refine lv_iload_n S.1 S.2.1 dX10_diff_155 rfl (lv_at hl 0 rfl) ?_
  refine lv_aload_n S.1 S.2.1 dX10_diff_156 rfl (lv_at hl 1 rfl) ?_
  refine gx_get (C := RX10) (T := TX10) (N := 31) S hG (fu_at (by omega) (fu_at (by omega) (fu_at (by omega) (fu_at (by omega) (fu_at (by omega) (fu_at (by omega) (fu_at (by omega) (fu_at (by omega) (fu_at (by omega) (fu_at (by omega) (fu_at (by omega) (fu_at (by omega) (fu_at (by omega) (fu_at (by omega) (fu_at (by omega) (fu_at (by omega) (fu_at (by omega) (fu_at (by omega) (fu_at (by omega) (fu_at (by omega) (fu_at (by omega) (fu_at (by omega) (fu_at (by omega) (fu_at (by omega) fu_s)))))))))))))))))))))))) i_X10_diff_X10 rfl 13 (by decide) (by decide +kernel) rfl dX10_diff_157 ?_
  refine lv_iload_n S.1 S.2.1 dX10_diff_160 rfl (lv_at hl 0 rfl) ?_
  refine gx_iald (v := (-1)) S hG 0 (fu_at (by omega) (fu_at (by omega) (fu_at (by omega) (fu_at (by omega) (fu_at (by omega) (fu_at (by omega) (fu_at (by omega) (fu_at (by omega) (fu_at (by omega) (fu_at (by omega) (fu_at (by omega) (fu_at (by omega) (fu_at (by omega) (fu_at (by omega) (fu_at (by omega) (fu_at (by omega) (fu_at (by omega) (fu_at (by omega) (fu_at (by omega) (fu_at (by omega) (fu_at (by omega) (fu_at (by omega) (fu_at (by omega) (fu_at (by omega) (fu_at (by omega) (fblk_sk 8 rfl (by omega) (fu_at (by omega) fu_s))))))))))))))))))))))))))) rfl (fin_l (by decide)) (by decide) dX10_diff_161 ?_
  refine gx_iast (f' := upd (upd (upd (upd (upd (upd (upd (upd (upd (upd (upd (upd (upd (fun _ => 0) 0 0) 1 (-1)) 2 (-1)) 3 (-1)) 4 (-1)) 5 (-1)) 6 (-1)) 7 (-1)) 8 (-1)) 9 (-1)) 10 (-1)) 11 (-1)) 12 (-1)) S hG 0 (fu_at (by omega) fu_s) rfl (fin_l (by decide)) dX10_diff_162 (rfl) (fun H locs hG => ?_)
  refine lv_aload_n S.1 S.2.1 dX10_diff_163 rfl (lv_at hl 1 rfl) ?_
  refine gx_get (C := RX10) (T := TX10) (N := 31) S hG (fu_at (by omega) (fu_at (by omega) (fu_at (by omega) (fu_at (by omega) (fu_at (by omega) (fu_at (by omega) (fu_at (by omega) (fu_at (by omega) (fu_at (by omega) (fu_at (by omega) (fu_at (by omega) (fu_at (by omega) (fu_at (by omega) (fu_at (by omega) (fu_at (by omega) (fu_at (by omega) (fu_at (by omega) (fu_at (by omega) (fu_at (by omega) (fu_at (by omega) (fu_at (by omega) (fu_at (by omega) (fu_at (by omega) (fu_at (by omega) (fu_at (by omega) fu_s))))))))))))))))))))))))) i_X10_diff_X10 rfl 22 (by decide) (by decide +kernel) rfl dX10_diff_164 ?_
  refine lv_iload_n S.1 S.2.1 dX10_diff_167 rfl (lv_at hl 0 rfl) ?_
  refine lv_aload_n S.1 S.2.1 dX10_diff_168 rfl (lv_at hl 1 rfl) ?_
  refine gx_get (C := RX10) (T := TX10) (N := 31) S hG (fu_at (by omega) (fu_at (by omega) (fu_at (by omega) (fu_at (by omega) (fu_at (by omega) (fu_at (by omega) (fu_at (by omega) (fu_at (by omega) (fu_at (by omega) (fu_at (by omega) (fu_at (by omega) (fu_at (by omega) (fu_at (by omega) (fu_at (by omega) (fu_at (by omega) (fu_at (by omega) (fu_at (by omega) (fu_at (by omega) (fu_at (by omega) (fu_at (by omega) (fu_at (by omega) (fu_at (by omega) (fu_at (by omega) (fu_at (by omega) (fu_at (by omega) fu_s))))))))))))))))))))))))) i_X10_diff_X10 rfl 14 (by decide) (by decide +kernel) rfl dX10_diff_169 ?_
  refine lv_iload_n S.1 S.2.1 dX10_diff_172 rfl (lv_at hl 0 rfl) ?_
  refine gx_iald (v := (-1)) S hG 0 (fu_at (by omega) (fu_at (by omega) (fu_at (by omega) (fu_at (by omega) (fu_at (by omega) (fu_at (by omega) (fu_at (by omega) (fu_at (by omega) (fu_at (by omega) (fu_at (by omega) (fu_at (by omega) (fu_at (by omega) (fu_at (by omega) (fu_at (by omega) (fu_at (by omega) (fu_at (by omega) (fu_at (by omega) (fu_at (by omega) (fu_at (by omega) (fu_at (by omega) (fu_at (by omega) (fu_at (by omega) (fu_at (by omega) (fu_at (by omega) (fu_at (by omega) (fu_at (by omega) (fblk_sk 8 rfl (by omega) fu_s))))))))))))))))))))))))))) rfl (fin_l (by decide)) (by decide) dX10_diff_173 ?_
  refine gx_iast (f' := upd (upd (upd (upd (upd (upd (upd (upd (upd (upd (upd (upd (upd (fun _ => 0) 0 0) 1 (-1)) 2 (-1)) 3 (-1)) 4 (-1)) 5 (-1)) 6 (-1)) 7 (-1)) 8 (-1)) 9 (-1)) 10 (-1)) 11 (-1)) 12 (-1)) S hG 0 (fu_at (by omega) fu_s) rfl (fin_l (by decide)) dX10_diff_174 (rfl) (fun H locs hG => ?_)
  refine lv_iinc (v := 13) (lv' := [(3, .int 13), (0, .ref (N0 + 164)), (1, .int 0), (2, .int 0)]) S.1 S.2.1 dX10_diff_175 hl (k := 0) rfl (by decide) (by decide) rfl (fun ls hl => ?_)
  refine lv_goto (tgt := 145) S.1 S.2.1 dX10_diff_178 (by decide) ?_
  refine lv_iload_n S.1 S.2.1 dX10_diff_145 rfl (lv_at hl 0 rfl) ?_
  refine lv_bipush (v := 20) S.1 S.2.1 dX10_diff_146 (by decide) ?_
  refine lv_icmp_ge (tgt := 181) S.1 S.2.1 dX10_diff_148 (by decide) (fun c => absurd c (by decide)) (fun _ => ?_)
  refine lv_aload_n S.1 S.2.1 dX10_diff_151 rfl (lv_at hl 1 rfl) ?_
  refine gx_get (C := RX10) (T := TX10) (N := 31) S hG (fu_at (by omega) (fu_at (by omega) (fu_at (by omega) (fu_at (by omega) (fu_at (by omega) (fu_at (by omega) (fu_at (by omega) (fu_at (by omega) (fu_at (by omega) (fu_at (by omega) (fu_at (by omega) (fu_at (by omega) (fu_at (by omega) (fu_at (by omega) (fu_at (by omega) (fu_at (by omega) (fu_at (by omega) (fu_at (by omega) (fu_at (by omega) (fu_at (by omega) (fu_at (by omega) (fu_at (by omega) (fu_at (by omega) (fu_at (by omega) (fu_at (by omega) (fu_at (by omega) fu_s)))))))))))))))))))))))))) i_X10_diff_X10 rfl 21 (by decide) (by decide +kernel) rfl dX10_diff_152 ?_
  refine lv_iload_n S.1 S.2.1 dX10_diff_155 rfl (lv_at hl 0 rfl) ?_
  refine lv_aload_n S.1 S.2.1 dX10_diff_156 rfl (lv_at hl 1 rfl) ?_
  refine gx_get (C := RX10) (T := TX10) (N := 31) S hG (fu_at (by omega) (fu_at (by omega) (fu_at (by omega) (fu_at (by omega) (fu_at (by omega) (fu_at (by omega) (fu_at (by omega) (fu_at (by omega) (fu_at (by omega) (fu_at (by omega) (fu_at (by omega) (fu_at (by omega) (fu_at (by omega) (fu_at (by omega) (fu_at (by omega) (fu_at (by omega) (fu_at (by omega) (fu_at (by omega) (fu_at (by omega) (fu_at (by omega) (fu_at (by omega) (fu_at (by omega) (fu_at (by omega) (fu_at (by omega) (fu_at (by omega) (fu_at (by omega) fu_s)))))))))))))))))))))))))) i_X10_diff_X10 rfl 13 (by decide) (by decide +kernel) rfl dX10_diff_157 ?_
  refine lv_iload_n S.1 S.2.1 dX10_diff_160 rfl (lv_at hl 0 rfl) ?_
  refine gx_iald (v := (-1)) S hG 0 (fu_at (by omega) (fu_at (by omega) (fu_at (by omega) (fu_at (by omega) (fu_at (by omega) (fu_at (by omega) (fu_at (by omega) (fu_at (by omega) (fu_at (by omega) (fu_at (by omega) (fu_at (by omega) (fu_at (by omega) (fu_at (by omega) (fu_at (by omega) (fu_at (by omega) (fu_at (by omega) (fu_at (by omega) (fu_at (by omega) (fu_at (by omega) (fu_at (by omega) (fu_at (by omega) (fu_at (by omega) (fu_at (by omega) (fu_at (by omega) (fu_at (by omega) (fu_at (by omega) (fu_at (by omega) (fblk_sk 8 rfl (by omega) (fu_at (by omega) fu_s))))))))))))))))))))))))))))) rfl (fin_l (by decide)) (by decide) dX10_diff_161 ?_
  refine gx_iast (f' := upd (upd (upd (upd (upd (upd (upd (upd (upd (upd (upd (upd (upd (upd (fun _ => 0) 0 0) 1 (-1)) 2 (-1)) 3 (-1)) 4 (-1)) 5 (-1)) 6 (-1)) 7 (-1)) 8 (-1)) 9 (-1)) 10 (-1)) 11 (-1)) 12 (-1)) 13 (-1)) S hG 0 (fu_at (by omega) fu_s) rfl (fin_l (by decide)) dX10_diff_162 (rfl) (fun H locs hG => ?_)
  refine lv_aload_n S.1 S.2.1 dX10_diff_163 rfl (lv_at hl 1 rfl) ?_
  refine gx_get (C := RX10) (T := TX10) (N := 31) S hG (fu_at (by omega) (fu_at (by omega) (fu_at (by omega) (fu_at (by omega) (fu_at (by omega) (fu_at (by omega) (fu_at (by omega) (fu_at (by omega) (fu_at (by omega) (fu_at (by omega) (fu_at (by omega) (fu_at (by omega) (fu_at (by omega) (fu_at (by omega) (fu_at (by omega) (fu_at (by omega) (fu_at (by omega) (fu_at (by omega) (fu_at (by omega) (fu_at (by omega) (fu_at (by omega) (fu_at (by omega) (fu_at (by omega) (fu_at (by omega) (fu_at (by omega) (fu_at (by omega) (fu_at (by omega) fu_s))))))))))))))))))))))))))) i_X10_diff_X10 rfl 22 (by decide) (by decide +kernel) rfl dX10_diff_164 ?_
  refine lv_iload_n S.1 S.2.1 dX10_diff_167 rfl (lv_at hl 0 rfl) ?_
  refine lv_aload_n S.1 S.2.1 dX10_diff_168 rfl (lv_at hl 1 rfl) ?_
  refine gx_get (C := RX10) (T := TX10) (N := 31) S hG (fu_at (by omega) (fu_at (by omega) (fu_at (by omega) (fu_at (by omega) (fu_at (by omega) (fu_at (by omega) (fu_at (by omega) (fu_at (by omega) (fu_at (by omega) (fu_at (by omega) (fu_at (by omega) (fu_at (by omega) (fu_at (by omega) (fu_at (by omega) (fu_at (by omega) (fu_at (by omega) (fu_at (by omega) (fu_at (by omega) (fu_at (by omega) (fu_at (by omega) (fu_at (by omega) (fu_at (by omega) (fu_at (by omega) (fu_at (by omega) (fu_at (by omega) (fu_at (by omega) (fu_at (by omega) fu_s))))))))))))))))))))))))))) i_X10_diff_X10 rfl 14 (by decide) (by decide +kernel) rfl dX10_diff_169 ?_
  refine lv_iload_n S.1 S.2.1 dX10_diff_172 rfl (lv_at hl 0 rfl) ?_
  refine gx_iald (v := (-1)) S hG 0 (fu_at (by omega) (fu_at (by omega) (fu_at (by omega) (fu_at (by omega) (fu_at (by omega) (fu_at (by omega) (fu_at (by omega) (fu_at (by omega) (fu_at (by omega) (fu_at (by omega) (fu_at (by omega) (fu_at (by omega) (fu_at (by omega) (fu_at (by omega) (fu_at (by omega) (fu_at (by omega) (fu_at (by omega) (fu_at (by omega) (fu_at (by omega) (fu_at (by omega) (fu_at (by omega) (fu_at (by omega) (fu_at (by omega) (fu_at (by omega) (fu_at (by omega) (fu_at (by omega) (fu_at (by omega) (fu_at (by omega) (fblk_sk 8 rfl (by omega) fu_s))))))))))))))))))))))))))))) rfl (fin_l (by decide)) (by decide) dX10_diff_173 ?_
  refine gx_iast (f' := upd (upd (upd (upd (upd (upd (upd (upd (upd (upd (upd (upd (upd (upd (fun _ => 0) 0 0) 1 (-1)) 2 (-1)) 3 (-1)) 4 (-1)) 5 (-1)) 6 (-1)) 7 (-1)) 8 (-1)) 9 (-1)) 10 (-1)) 11 (-1)) 12 (-1)) 13 (-1)) S hG 0 (fu_at (by omega) fu_s) rfl (fin_l (by decide)) dX10_diff_174 (rfl) (fun H locs hG => ?_)
  refine lv_iinc (v := 14) (lv' := [(3, .int 14), (0, .ref (N0 + 164)), (1, .int 0), (2, .int 0)]) S.1 S.2.1 dX10_diff_175 hl (k := 0) rfl (by decide) (by decide) rfl (fun ls hl => ?_)
  refine lv_goto (tgt := 145) S.1 S.2.1 dX10_diff_178 (by decide) ?_
  refine lv_iload_n S.1 S.2.1 dX10_diff_145 rfl (lv_at hl 0 rfl) ?_
  refine lv_bipush (v := 20) S.1 S.2.1 dX10_diff_146 (by decide) ?_
  refine lv_icmp_ge (tgt := 181) S.1 S.2.1 dX10_diff_148 (by decide) (fun c => absurd c (by decide)) (fun _ => ?_)
  refine lv_aload_n S.1 S.2.1 dX10_diff_151 rfl (lv_at hl 1 rfl) ?_
  refine gx_get (C := RX10) (T := TX10) (N := 31) S hG (fu_at (by omega) (fu_at (by omega) (fu_at (by omega) (fu_at (by omega) (fu_at (by omega) (fu_at (by omega) (fu_at (by omega) (fu_at (by omega) (fu_at (by omega) (fu_at (by omega) (fu_at (by omega) (fu_at (by omega) (fu_at (by omega) (fu_at (by omega) (fu_at (by omega) (fu_at (by omega) (fu_at (by omega) (fu_at (by omega) (fu_at (by omega) (fu_at (by omega) (fu_at (by omega) (fu_at (by omega) (fu_at (by omega) (fu_at (by omega) (fu_at (by omega) (fu_at (by omega) (fu_at (by omega) (fu_at (by omega) fu_s)))))))))))))))))))))))))))) i_X10_diff_X10 rfl 21 (by decide) (by decide +kernel) rfl dX10_diff_152 ?_
  refine lv_iload_n S.1 S.2.1 dX10_diff_155 rfl (lv_at hl 0 rfl) ?_
  refine lv_aload_n S.1 S.2.1 dX10_diff_156 rfl (lv_at hl 1 rfl) ?_
  refine gx_get (C := RX10) (T := TX10) (N := 31) S hG (fu_at (by omega) (fu_at (by omega) (fu_at (by omega) (fu_at (by omega) (fu_at (by omega) (fu_at (by omega) (fu_at (by omega) (fu_at (by omega) (fu_at (by omega) (fu_at (by omega) (fu_at (by omega) (fu_at (by omega) (fu_at (by omega) (fu_at (by omega) (fu_at (by omega) (fu_at (by omega) (fu_at (by omega) (fu_at (by omega) (fu_at (by omega) (fu_at (by omega) (fu_at (by omega) (fu_at (by omega) (fu_at (by omega) (fu_at (by omega) (fu_at (by omega) (fu_at (by omega) (fu_at (by omega) (fu_at (by omega) fu_s)))))))))))))))))))))))))))) i_X10_diff_X10 rfl 13 (by decide) (by decide +kernel) rfl dX10_diff_157 ?_
  refine lv_iload_n S.1 S.2.1 dX10_diff_160 rfl (lv_at hl 0 rfl) ?_
  refine gx_iald (v := (-1)) S hG 0 (fu_at (by omega) (fu_at (by omega) (fu_at (by omega) (fu_at (by omega) (fu_at (by omega) (fu_at (by omega) (fu_at (by omega) (fu_at (by omega) (fu_at (by omega) (fu_at (by omega) (fu_at (by omega) (fu_at (by omega) (fu_at (by omega) (fu_at (by omega) (fu_at (by omega) (fu_at (by omega) (fu_at (by omega) (fu_at (by omega) (fu_at (by omega) (fu_at (by omega) (fu_at (by omega) (fu_at (by omega) (fu_at (by omega) (fu_at (by omega) (fu_at (by omega) (fu_at (by omega) (fu_at (by omega) (fu_at (by omega) (fu_at (by omega) (fblk_sk 8 rfl (by omega) (fu_at (by omega) fu_s))))))))))))))))))))))))))))))) rfl (fin_l (by decide)) (by decide) dX10_diff_161 ?_
  refine gx_iast (f' := upd (upd (upd (upd (upd (upd (upd (upd (upd (upd (upd (upd (upd (upd (upd (fun _ => 0) 0 0) 1 (-1)) 2 (-1)) 3 (-1)) 4 (-1)) 5 (-1)) 6 (-1)) 7 (-1)) 8 (-1)) 9 (-1)) 10 (-1)) 11 (-1)) 12 (-1)) 13 (-1)) 14 (-1)) S hG 0 (fu_at (by omega) fu_s) rfl (fin_l (by decide)) dX10_diff_162 (rfl) (fun H locs hG => ?_)
  refine lv_aload_n S.1 S.2.1 dX10_diff_163 rfl (lv_at hl 1 rfl) ?_
  refine gx_get (C := RX10) (T := TX10) (N := 31) S hG (fu_at (by omega) (fu_at (by omega) (fu_at (by omega) (fu_at (by omega) (fu_at (by omega) (fu_at (by omega) (fu_at (by omega) (fu_at (by omega) (fu_at (by omega) (fu_at (by omega) (fu_at (by omega) (fu_at (by omega) (fu_at (by omega) (fu_at (by omega) (fu_at (by omega) (fu_at (by omega) (fu_at (by omega) (fu_at (by omega) (fu_at (by omega) (fu_at (by omega) (fu_at (by omega) (fu_at (by omega) (fu_at (by omega) (fu_at (by omega) (fu_at (by omega) (fu_at (by omega) (fu_at (by omega) (fu_at (by omega) (fu_at (by omega) fu_s))))))))))))))))))))))))))))) i_X10_diff_X10 rfl 22 (by decide) (by decide +kernel) rfl dX10_diff_164 ?_
  refine lv_iload_n S.1 S.2.1 dX10_diff_167 rfl (lv_at hl 0 rfl) ?_
  refine lv_aload_n S.1 S.2.1 dX10_diff_168 rfl (lv_at hl 1 rfl) ?_
  refine gx_get (C := RX10) (T := TX10) (N := 31) S hG (fu_at (by omega) (fu_at (by omega) (fu_at (by omega) (fu_at (by omega) (fu_at (by omega) (fu_at (by omega) (fu_at (by omega) (fu_at (by omega) (fu_at (by omega) (fu_at (by omega) (fu_at (by omega) (fu_at (by omega) (fu_at (by omega) (fu_at (by omega) (fu_at (by omega) (fu_at (by omega) (fu_at (by omega) (fu_at (by omega) (fu_at (by omega) (fu_at (by omega) (fu_at (by omega) (fu_at (by omega) (fu_at (by omega) (fu_at (by omega) (fu_at (by omega) (fu_at (by omega) (fu_at (by omega) (fu_at (by omega) (fu_at (by omega) fu_s))))))))))))))))))))))))))))) i_X10_diff_X10 rfl 14 (by decide) (by decide +kernel) rfl dX10_diff_169 ?_
  refine lv_iload_n S.1 S.2.1 dX10_diff_172 rfl (lv_at hl 0 rfl) ?_
  refine gx_iald (v := (-1)) S hG 0 (fu_at (by omega) (fu_at (by omega) (fu_at (by omega) (fu_at (by omega) (fu_at (by omega) (fu_at (by omega) (fu_at (by omega) (fu_at (by omega) (fu_at (by omega) (fu_at (by omega) (fu_at (by omega) (fu_at (by omega) (fu_at (by omega) (fu_at (by omega) (fu_at (by omega) (fu_at (by omega) (fu_at (by omega) (fu_at (by omega) (fu_at (by omega) (fu_at (by omega) (fu_at (by omega) (fu_at (by omega) (fu_at (by omega) (fu_at (by omega) (fu_at (by omega) (fu_at (by omega) (fu_at (by omega) (fu_at (by omega) (fu_at (by omega) (fu_at (by omega) (fblk_sk 8 rfl (by omega) fu_s))))))))))))))))))))))))))))))) rfl (fin_l (by decide)) (by decide) dX10_diff_173 ?_
  refine gx_iast (f' := upd (upd (upd (upd (upd (upd (upd (upd (upd (upd (upd (upd (upd (upd (upd (fun _ => 0) 0 0) 1 (-1)) 2 (-1)) 3 (-1)) 4 (-1)) 5 (-1)) 6 (-1)) 7 (-1)) 8 (-1)) 9 (-1)) 10 (-1)) 11 (-1)) 12 (-1)) 13 (-1)) 14 (-1)) S hG 0 (fu_at (by omega) fu_s) rfl (fin_l (by decide)) dX10_diff_174 (rfl) (fun H locs hG => ?_)
  refine lv_iinc (v := 15) (lv' := [(3, .int 15), (0, .ref (N0 + 164)), (1, .int 0), (2, .int 0)]) S.1 S.2.1 dX10_diff_175 hl (k := 0) rfl (by decide) (by decide) rfl (fun ls hl => ?_)
  refine lv_goto (tgt := 145) S.1 S.2.1 dX10_diff_178 (by decide) ?_
  refine lv_iload_n S.1 S.2.1 dX10_diff_145 rfl (lv_at hl 0 rfl) ?_
  refine lv_bipush (v := 20) S.1 S.2.1 dX10_diff_146 (by decide) ?_
  refine lv_icmp_ge (tgt := 181) S.1 S.2.1 dX10_diff_148 (by decide) (fun c => absurd c (by decide)) (fun _ => ?_)
  refine lv_aload_n S.1 S.2.1 dX10_diff_151 rfl (lv_at hl 1 rfl) ?_
  refine gx_get (C := RX10) (T := TX10) (N := 31) S hG (fu_at (by omega) (fu_at (by omega) (fu_at (by omega) (fu_at (by omega) (fu_at (by omega) (fu_at (by omega) (fu_at (by omega) (fu_at (by omega) (fu_at (by omega) (fu_at (by omega) (fu_at (by omega) (fu_at (by omega) (fu_at (by omega) (fu_at (by omega) (fu_at (by omega) (fu_at (by omega) (fu_at (by omega) (fu_at (by omega) (fu_at (by omega) (fu_at (by omega) (fu_at (by omega) (fu_at (by omega) (fu_at (by omega) (fu_at (by omega) (fu_at (by omega) (fu_at (by omega) (fu_at (by omega) (fu_at (by omega) (fu_at (by omega) (fu_at (by omega) fu_s)))))))))))))))))))))))))))))) i_X10_diff_X10 rfl 21 (by decide) (by decide +kernel) rfl dX10_diff_152 ?_
  refine lv_iload_n S.1 S.2.1 dX10_diff_155 rfl (lv_at hl 0 rfl) ?_
  refine lv_aload_n S.1 S.2.1 dX10_diff_156 rfl (lv_at hl 1 rfl) ?_
  refine gx_get (C := RX10) (T := TX10) (N := 31) S hG (fu_at (by omega) (fu_at (by omega) (fu_at (by omega) (fu_at (by omega) (fu_at (by omega) (fu_at (by omega) (fu_at (by omega) (fu_at (by omega) (fu_at (by omega) (fu_at (by omega) (fu_at (by omega) (fu_at (by omega) (fu_at (by omega) (fu_at (by omega) (fu_at (by omega) (fu_at (by omega) (fu_at (by omega) (fu_at (by omega) (fu_at (by omega) (fu_at (by omega) (fu_at (by omega) (fu_at (by omega) (fu_at (by omega) (fu_at (by omega) (fu_at (by omega) (fu_at (by omega) (fu_at (by omega) (fu_at (by omega) (fu_at (by omega) (fu_at (by omega) fu_s)))))))))))))))))))))))))))))) i_X10_diff_X10 rfl 13 (by decide) (by decide +kernel) rfl dX10_diff_157 ?_
  refine lv_iload_n S.1 S.2.1 dX10_diff_160 rfl (lv_at hl 0 rfl) ?_
  refine gx_iald (v := (-1)) S hG 0 (fu_at (by omega) (fu_at (by omega) (fu_at (by omega) (fu_at (by omega) (fu_at (by omega) (fu_at (by omega) (fu_at (by omega) (fu_at (by omega) (fu_at (by omega) (fu_at (by omega) (fu_at (by omega) (fu_at (by omega) (fu_at (by omega) (fu_at (by omega) (fu_at (by omega) (fu_at (by omega) (fu_at (by omega) (fu_at (by omega) (fu_at (by omega) (fu_at (by omega) (fu_at (by omega) (fu_at (by omega) (fu_at (by omega) (fu_at (by omega) (fu_at (by omega) (fu_at (by omega) (fu_at (by omega) (fu_at (by omega) (fu_at (by omega) (fu_at (by omega) (fu_at (by omega) (fblk_sk 8 rfl (by omega) (fu_at (by omega) fu_s))))))))))))))))))))))))))))))))) rfl (fin_l (by decide)) (by decide) dX10_diff_161 ?_
  refine gx_iast (f' := upd (upd (upd (upd (upd (upd (upd (upd (upd (upd (upd (upd (upd (upd (upd (upd (fun _ => 0) 0 0) 1 (-1)) 2 (-1)) 3 (-1)) 4 (-1)) 5 (-1)) 6 (-1)) 7 (-1)) 8 (-1)) 9 (-1)) 10 (-1)) 11 (-1)) 12 (-1)) 13 (-1)) 14 (-1)) 15 (-1)) S hG 0 (fu_at (by omega) fu_s) rfl (fin_l (by decide)) dX10_diff_162 (rfl) (fun H locs hG => ?_)
  refine lv_aload_n S.1 S.2.1 dX10_diff_163 rfl (lv_at hl 1 rfl) ?_
  refine gx_get (C := RX10) (T := TX10) (N := 31) S hG (fu_at (by omega) (fu_at (by omega) (fu_at (by omega) (fu_at (by omega) (fu_at (by omega) (fu_at (by omega) (fu_at (by omega) (fu_at (by omega) (fu_at (by omega) (fu_at (by omega) (fu_at (by omega) (fu_at (by omega) (fu_at (by omega) (fu_at (by omega) (fu_at (by omega) (fu_at (by omega) (fu_at (by omega) (fu_at (by omega) (fu_at (by omega) (fu_at (by omega) (fu_at (by omega) (fu_at (by omega) (fu_at (by omega) (fu_at (by omega) (fu_at (by omega) (fu_at (by omega) (fu_at (by omega) (fu_at (by omega) (fu_at (by omega) (fu_at (by omega) (fu_at (by omega) fu_s))))))))))))))))))))))))))))))) i_X10_diff_X10 rfl 22 (by decide) (by decide +kernel) rfl dX10_diff_164 ?_
  refine lv_iload_n S.1 S.2.1 dX10_diff_167 rfl (lv_at hl 0 rfl) ?_
  refine lv_aload_n S.1 S.2.1 dX10_diff_168 rfl (lv_at hl 1 rfl) ?_
  refine gx_get (C := RX10) (T := TX10) (N := 31) S hG (fu_at (by omega) (fu_at (by omega) (fu_at (by omega) (fu_at (by omega) (fu_at (by omega) (fu_at (by omega) (fu_at (by omega) (fu_at (by omega) (fu_at (by omega) (fu_at (by omega) (fu_at (by omega) (fu_at (by omega) (fu_at (by omega) (fu_at (by omega) (fu_at (by omega) (fu_at (by omega) (fu_at (by omega) (fu_at (by omega) (fu_at (by omega) (fu_at (by omega) (fu_at (by omega) (fu_at (by omega) (fu_at (by omega) (fu_at (by omega) (fu_at (by omega) (fu_at (by omega) (fu_at (by omega) (fu_at (by omega) (fu_at (by omega) (fu_at (by omega) (fu_at (by omega) fu_s))))))))))))))))))))))))))))))) i_X10_diff_X10 rfl 14 (by decide) (by decide +kernel) rfl dX10_diff_169 ?_
  refine lv_iload_n S.1 S.2.1 dX10_diff_172 rfl (lv_at hl 0 rfl) ?_
  refine gx_iald (v := (-1)) S hG 0 (fu_at (by omega) (fu_at (by omega) (fu_at (by omega) (fu_at (by omega) (fu_at (by omega) (fu_at (by omega) (fu_at (by omega) (fu_at (by omega) (fu_at (by omega) (fu_at (by omega) (fu_at (by omega) (fu_at (by omega) (fu_at (by omega) (fu_at (by omega) (fu_at (by omega) (fu_at (by omega) (fu_at (by omega) (fu_at (by omega) (fu_at (by omega) (fu_at (by omega) (fu_at (by omega) (fu_at (by omega) (fu_at (by omega) (fu_at (by omega) (fu_at (by omega) (fu_at (by omega) (fu_at (by omega) (fu_at (by omega) (fu_at (by omega) (fu_at (by omega) (fu_at (by omega) (fu_at (by omega) (fblk_sk 8 rfl (by omega) fu_s))))))))))))))))))))))))))))))))) rfl (fin_l (by decide)) (by decide) dX10_diff_173 ?_
  refine gx_iast (f' := upd (upd (upd (upd (upd (upd (upd (upd (upd (upd (upd (upd (upd (upd (upd (upd (fun _ => 0) 0 0) 1 (-1)) 2 (-1)) 3 (-1)) 4 (-1)) 5 (-1)) 6 (-1)) 7 (-1)) 8 (-1)) 9 (-1)) 10 (-1)) 11 (-1)) 12 (-1)) 13 (-1)) 14 (-1)) 15 (-1)) S hG 0 (fu_at (by omega) fu_s) rfl (fin_l (by decide)) dX10_diff_174 (rfl) (fun H locs hG => ?_)
  refine lv_iinc (v := 16) (lv' := [(3, .int 16), (0, .ref (N0 + 164)), (1, .int 0), (2, .int 0)]) S.1 S.2.1 dX10_diff_175 hl (k := 0) rfl (by decide) (by decide) rfl (fun ls hl => ?_)
  refine lv_goto (tgt := 145) S.1 S.2.1 dX10_diff_178 (by decide) ?_
  refine lv_iload_n S.1 S.2.1 dX10_diff_145 rfl (lv_at hl 0 rfl) ?_
  refine lv_bipush (v := 20) S.1 S.2.1 dX10_diff_146 (by decide) ?_
  refine lv_icmp_ge (tgt := 181) S.1 S.2.1 dX10_diff_148 (by decide) (fun c => absurd c (by decide)) (fun _ => ?_)
  refine lv_aload_n S.1 S.2.1 dX10_diff_151 rfl (lv_at hl 1 rfl) ?_
  refine gx_get (C := RX10) (T := TX10) (N := 31) S hG (fu_at (by omega) (fu_at (by omega) (fu_at (by omega) (fu_at (by omega) (fu_at (by omega) (fu_at (by omega) (fu_at (by omega) (fu_at (by omega) (fu_at (by omega) (fu_at (by omega) (fu_at (by omega) (fu_at (by omega) (fu_at (by omega) (fu_at (by omega) (fu_at (by omega) (fu_at (by omega) (fu_at (by omega) (fu_at (by omega) (fu_at (by omega) (fu_at (by omega) (fu_at (by omega) (fu_at (by omega) (fu_at (by omega) (fu_at (by omega) (fu_at (by omega) (fu_at (by omega) (fu_at (by omega) (fu_at (by omega) (fu_at (by omega) (fu_at (by omega) (fu_at (by omega) (fu_at (by omega) fu_s)))))))))))))))))))))))))))))))) i_X10_diff_X10 rfl 21 (by decide) (by decide +kernel) rfl dX10_diff_152 ?_
  refine lv_iload_n S.1 S.2.1 dX10_diff_155 rfl (lv_at hl 0 rfl) ?_
  refine lv_aload_n S.1 S.2.1 dX10_diff_156 rfl (lv_at hl 1 rfl) ?_
  refine gx_get (C := RX10) (T := TX10) (N := 31) S hG (fu_at (by omega) (fu_at (by omega) (fu_at (by omega) (fu_at (by omega) (fu_at (by omega) (fu_at (by omega) (fu_at (by omega) (fu_at (by omega) (fu_at (by omega) (fu_at (by omega) (fu_at (by omega) (fu_at (by omega) (fu_at (by omega) (fu_at (by omega) (fu_at (by omega) (fu_at (by omega) (fu_at (by omega) (fu_at (by omega) (fu_at (by omega) (fu_at (by omega) (fu_at (by omega) (fu_at (by omega) (fu_at (by omega) (fu_at (by omega) (fu_at (by omega) (fu_at (by omega) (fu_at (by omega) (fu_at (by omega) (fu_at (by omega) (fu_at (by omega) (fu_at (by omega) (fu_at (by omega) fu_s)))))))))))))))))))))))))))))))) i_X10_diff_X10 rfl 13 (by decide) (by decide +kernel) rfl dX10_diff_157 ?_
  refine lv_iload_n S.1 S.2.1 dX10_diff_160 rfl (lv_at hl 0 rfl) ?_
  refine gx_iald (v := (-1)) S hG 0 (fu_at (by omega) (fu_at (by omega) (fu_at (by omega) (fu_at (by omega) (fu_at (by omega) (fu_at (by omega) (fu_at (by omega) (fu_at (by omega) (fu_at (by omega) (fu_at (by omega) (fu_at (by omega) (fu_at (by omega) (fu_at (by omega) (fu_at (by omega) (fu_at (by omega) (fu_at (by omega) (fu_at (by omega) (fu_at (by omega) (fu_at (by omega) (fu_at (by omega) (fu_at (by omega) (fu_at (by omega) (fu_at (by omega) (fu_at (by omega) (fu_at (by omega) (fu_at (by omega) (fu_at (by omega) (fu_at (by omega) (fu_at (by omega) (fu_at (by omega) (fu_at (by omega) (fu_at (by omega) (fu_at (by omega) (fblk_sk 8 rfl (by omega) (fu_at (by omega) fu_s))))))))))))))))))))))))))))))))))) rfl (fin_l (by decide)) (by decide) dX10_diff_161 ?_
  refine gx_iast (f' := upd (upd (upd (upd (upd (upd (upd (upd (upd (upd (upd (upd (upd (upd (upd (upd (upd (fun _ => 0) 0 0) 1 (-1)) 2 (-1)) 3 (-1)) 4 (-1)) 5 (-1)) 6 (-1)) 7 (-1)) 8 (-1)) 9 (-1)) 10 (-1)) 11 (-1)) 12 (-1)) 13 (-1)) 14 (-1)) 15 (-1)) 16 (-1)) S hG 0 (fu_at (by omega) fu_s) rfl (fin_l (by decide)) dX10_diff_162 (rfl) (fun H locs hG => ?_)
  refine lv_aload_n S.1 S.2.1 dX10_diff_163 rfl (lv_at hl 1 rfl) ?_
  refine gx_get (C := RX10) (T := TX10) (N := 31) S hG (fu_at (by omega) (fu_at (by omega) (fu_at (by omega) (fu_at (by omega) (fu_at (by omega) (fu_at (by omega) (fu_at (by omega) (fu_at (by omega) (fu_at (by omega) (fu_at (by omega) (fu_at (by omega) (fu_at (by omega) (fu_at (by omega) (fu_at (by omega) (fu_at (by omega) (fu_at (by omega) (fu_at (by omega) (fu_at (by omega) (fu_at (by omega) (fu_at (by omega) (fu_at (by omega) (fu_at (by omega) (fu_at (by omega) (fu_at (by omega) (fu_at (by omega) (fu_at (by omega) (fu_at (by omega) (fu_at (by omega) (fu_at (by omega) (fu_at (by omega) (fu_at (by omega) (fu_at (by omega) (fu_at (by omega) fu_s))))))))))))))))))))))))))))))))) i_X10_diff_X10 rfl 22 (by decide) (by decide +kernel) rfl dX10_diff_164 ?_
  refine lv_iload_n S.1 S.2.1 dX10_diff_167 rfl (lv_at hl 0 rfl) ?_
  refine lv_aload_n S.1 S.2.1 dX10_diff_168 rfl (lv_at hl 1 rfl) ?_
  refine gx_get (C := RX10) (T := TX10) (N := 31) S hG (fu_at (by omega) (fu_at (by omega) (fu_at (by omega) (fu_at (by omega) (fu_at (by omega) (fu_at (by omega) (fu_at (by omega) (fu_at (by omega) (fu_at (by omega) (fu_at (by omega) (fu_at (by omega) (fu_at (by omega) (fu_at (by omega) (fu_at (by omega) (fu_at (by omega) (fu_at (by omega) (fu_at (by omega) (fu_at (by omega) (fu_at (by omega) (fu_at (by omega) (fu_at (by omega) (fu_at (by omega) (fu_at (by omega) (fu_at (by omega) (fu_at (by omega) (fu_at (by omega) (fu_at (by omega) (fu_at (by omega) (fu_at (by omega) (fu_at (by omega) (fu_at (by omega) (fu_at (by omega) (fu_at (by omega) fu_s))))))))))))))))))))))))))))))))) i_X10_diff_X10 rfl 14 (by decide) (by decide +kernel) rfl dX10_diff_169 ?_
  refine lv_iload_n S.1 S.2.1 dX10_diff_172 rfl (lv_at hl 0 rfl) ?_
  refine gx_iald (v := (-1)) S hG 0 (fu_at (by omega) (fu_at (by omega) (fu_at (by omega) (fu_at (by omega) (fu_at (by omega) (fu_at (by omega) (fu_at (by omega) (fu_at (by omega) (fu_at (by omega) (fu_at (by omega) (fu_at (by omega) (fu_at (by omega) (fu_at (by omega) (fu_at (by omega) (fu_at (by omega) (fu_at (by omega) (fu_at (by omega) (fu_at (by omega) (fu_at (by omega) (fu_at (by omega) (fu_at (by omega) (fu_at (by omega) (fu_at (by omega) (fu_at (by omega) (fu_at (by omega) (fu_at (by omega) (fu_at (by omega) (fu_at (by omega) (fu_at (by omega) (fu_at (by omega) (fu_at (by omega) (fu_at (by omega) (fu_at (by omega) (fu_at (by omega) (fblk_sk 8 rfl (by omega) fu_s))))))))))))))))))))))))))))))))))) rfl (fin_l (by decide)) (by decide) dX10_diff_173 ?_
  refine gx_iast (f' := upd (upd (upd (upd (upd (upd (upd (upd (upd (upd (upd (upd (upd (upd (upd (upd (upd (fun _ => 0) 0 0) 1 (-1)) 2 (-1)) 3 (-1)) 4 (-1)) 5 (-1)) 6 (-1)) 7 (-1)) 8 (-1)) 9 (-1)) 10 (-1)) 11 (-1)) 12 (-1)) 13 (-1)) 14 (-1)) 15 (-1)) 16 (-1)) S hG 0 (fu_at (by omega) fu_s) rfl (fin_l (by decide)) dX10_diff_174 (rfl) (fun H locs hG => ?_)
  refine lv_iinc (v := 17) (lv' := [(3, .int 17), (0, .ref (N0 + 164)), (1, .int 0), (2, .int 0)]) S.1 S.2.1 dX10_diff_175 hl (k := 0) rfl (by decide) (by decide) rfl (fun ls hl => ?_)
  refine lv_goto (tgt := 145) S.1 S.2.1 dX10_diff_178 (by decide) ?_
  refine lv_iload_n S.1 S.2.1 dX10_diff_145 rfl (lv_at hl 0 rfl) ?_
  refine lv_bipush (v := 20) S.1 S.2.1 dX10_diff_146 (by decide) ?_
  refine lv_icmp_ge (tgt := 181) S.1 S.2.1 dX10_diff_148 (by decide) (fun c => absurd c (by decide)) (fun _ => ?_)
  refine lv_aload_n S.1 S.2.1 dX10_diff_151 rfl (lv_at hl 1 rfl) ?_
  refine gx_get (C := RX10) (T := TX10) (N := 31) S hG (fu_at (by omega) (fu_at (by omega) (fu_at (by omega) (fu_at (by omega) (fu_at (by omega) (fu_at (by omega) (fu_at (by omega) (fu_at (by omega) (fu_at (by omega) (fu_at (by omega) (fu_at (by omega) (fu_at (by omega) (fu_at (by omega) (fu_at (by omega) (fu_at (by omega) (fu_at (by omega) (fu_at (by omega) (fu_at (by omega) (fu_at (by omega) (fu_at (by omega) (fu_at (by omega) (fu_at (by omega) (fu_at (by omega) (fu_at (by omega) (fu_at (by omega) (fu_at (by omega) (fu_at (by omega) (fu_at (by omega) (fu_at (by omega) (fu_at (by omega) (fu_at (by omega) (fu_at (by omega) (fu_at (by omega) (fu_at (by omega) fu_s)))))))))))))))))))))))))))))))))) i_X10_diff_X10 rfl 21 (by decide) (by decide +kernel) rfl dX10_diff_152 ?_
  refine lv_iload_n S.1 S.2.1 dX10_diff_155 rfl (lv_at hl 0 rfl) ?_
  refine lv_aload_n S.1 S.2.1 dX10_diff_156 rfl (lv_at hl 1 rfl) ?_
  refine gx_get (C := RX10) (T := TX10) (N := 31) S hG (fu_at (by omega) (fu_at (by omega) (fu_at (by omega) (fu_at (by omega) (fu_at (by omega) (fu_at (by omega) (fu_at (by omega) (fu_at (by omega) (fu_at (by omega) (fu_at (by omega) (fu_at (by omega) (fu_at (by omega) (fu_at (by omega) (fu_at (by omega) (fu_at (by omega) (fu_at (by omega) (fu_at (by omega) (fu_at (by omega) (fu_at (by omega) (fu_at (by omega) (fu_at (by omega) (fu_at (by omega) (fu_at (by omega) (fu_at (by omega) (fu_at (by omega) (fu_at (by omega) (fu_at (by omega) (fu_at (by omega) (fu_at (by omega) (fu_at (by omega) (fu_at (by omega) (fu_at (by omega) (fu_at (by omega) (fu_at (by omega) fu_s)))))))))))))))))))))))))))))))))) i_X10_diff_X10 rfl 13 (by decide) (by decide +kernel) rfl dX10_diff_157 ?_
  refine lv_iload_n S.1 S.2.1 dX10_diff_160 rfl (lv_at hl 0 rfl) ?_
  refine gx_iald (v := (-1)) S hG 0 (fu_at (by omega) (fu_at (by omega) (fu_at (by omega) (fu_at (by omega) (fu_at (by omega) (fu_at (by omega) (fu_at (by omega) (fu_at (by omega) (fu_at (by omega) (fu_at (by omega) (fu_at (by omega) (fu_at (by omega) (fu_at (by omega) (fu_at (by omega) (fu_at (by omega) (fu_at (by omega) (fu_at (by omega) (fu_at (by omega) (fu_at (by omega) (fu_at (by omega) (fu_at (by omega) (fu_at (by omega) (fu_at (by omega) (fu_at (by omega) (fu_at (by omega) (fu_at (by omega) (fu_at (by omega) (fu_at (by omega) (fu_at (by omega) (fu_at (by omega) (fu_at (by omega) (fu_at (by omega) (fu_at (by omega) (fu_at (by omega) (fu_at (by omega) (fblk_sk 8 rfl (by omega) (fu_at (by omega) fu_s))))))))))))))))))))))))))))))))))))) rfl (fin_l (by decide)) (by decide) dX10_diff_161 ?_
  refine gx_iast (f' := upd (upd (upd (upd (upd (upd (upd (upd (upd (upd (upd (upd (upd (upd (upd (upd (upd (upd (fun _ => 0) 0 0) 1 (-1)) 2 (-1)) 3 (-1)) 4 (-1)) 5 (-1)) 6 (-1)) 7 (-1)) 8 (-1)) 9 (-1)) 10 (-1)) 11 (-1)) 12 (-1)) 13 (-1)) 14 (-1)) 15 (-1)) 16 (-1)) 17 (-1)) S hG 0 (fu_at (by omega) fu_s) rfl (fin_l (by decide)) dX10_diff_162 (rfl) (fun H locs hG => ?_)
  refine lv_aload_n S.1 S.2.1 dX10_diff_163 rfl (lv_at hl 1 rfl) ?_
  refine gx_get (C := RX10) (T := TX10) (N := 31) S hG (fu_at (by omega) (fu_at (by omega) (fu_at (by omega) (fu_at (by omega) (fu_at (by omega) (fu_at (by omega) (fu_at (by omega) (fu_at (by omega) (fu_at (by omega) (fu_at (by omega) (fu_at (by omega) (fu_at (by omega) (fu_at (by omega) (fu_at (by omega) (fu_at (by omega) (fu_at (by omega) (fu_at (by omega) (fu_at (by omega) (fu_at (by omega) (fu_at (by omega) (fu_at (by omega) (fu_at (by omega) (fu_at (by omega) (fu_at (by omega) (fu_at (by omega) (fu_at (by omega) (fu_at (by omega) (fu_at (by omega) (fu_at (by omega) (fu_at (by omega) (fu_at (by omega) (fu_at (by omega) (fu_at (by omega) (fu_at (by omega) (fu_at (by omega) fu_s))))))))))))))))))))))))))))))))))) i_X10_diff_X10 rfl 22 (by decide) (by decide +kernel) rfl dX10_diff_164 ?_
  refine lv_iload_n S.1 S.2.1 dX10_diff_167 rfl (lv_at hl 0 rfl) ?_
  refine lv_aload_n S.1 S.2.1 dX10_diff_168 rfl (lv_at hl 1 rfl) ?_
  refine gx_get (C := RX10) (T := TX10) (N := 31) S hG (fu_at (by omega) (fu_at (by omega) (fu_at (by omega) (fu_at (by omega) (fu_at (by omega) (fu_at (by omega) (fu_at (by omega) (fu_at (by omega) (fu_at (by omega) (fu_at (by omega) (fu_at (by omega) (fu_at (by omega) (fu_at (by omega) (fu_at (by omega) (fu_at (by omega) (fu_at (by omega) (fu_at (by omega) (fu_at (by omega) (fu_at (by omega) (fu_at (by omega) (fu_at (by omega) (fu_at (by omega) (fu_at (by omega) (fu_at (by omega) (fu_at (by omega) (fu_at (by omega) (fu_at (by omega) (fu_at (by omega) (fu_at (by omega) (fu_at (by omega) (fu_at (by omega) (fu_at (by omega) (fu_at (by omega) (fu_at (by omega) (fu_at (by omega) fu_s))))))))))))))))))))))))))))))))))) i_X10_diff_X10 rfl 14 (by decide) (by decide +kernel) rfl dX10_diff_169 ?_
  refine lv_iload_n S.1 S.2.1 dX10_diff_172 rfl (lv_at hl 0 rfl) ?_
  refine gx_iald (v := (-1)) S hG 0 (fu_at (by omega) (fu_at (by omega) (fu_at (by omega) (fu_at (by omega) (fu_at (by omega) (fu_at (by omega) (fu_at (by omega) (fu_at (by omega) (fu_at (by omega) (fu_at (by omega) (fu_at (by omega) (fu_at (by omega) (fu_at (by omega) (fu_at (by omega) (fu_at (by omega) (fu_at (by omega) (fu_at (by omega) (fu_at (by omega) (fu_at (by omega) (fu_at (by omega) (fu_at (by omega) (fu_at (by omega) (fu_at (by omega) (fu_at (by omega) (fu_at (by omega) (fu_at (by omega) (fu_at (by omega) (fu_at (by omega) (fu_at (by omega) (fu_at (by omega) (fu_at (by omega) (fu_at (by omega) (fu_at (by omega) (fu_at (by omega) (fu_at (by omega) (fu_at (by omega) (fblk_sk 8 rfl (by omega) fu_s))))))))))))))))))))))))))))))))))))) rfl (fin_l (by decide)) (by decide) dX10_diff_173 ?_
  refine gx_iast (f' := upd (upd (upd (upd (upd (upd (upd (upd (upd (upd (upd (upd (upd (upd (upd (upd (upd (upd (fun _ => 0) 0 0) 1 (-1)) 2 (-1)) 3 (-1)) 4 (-1)) 5 (-1)) 6 (-1)) 7 (-1)) 8 (-1)) 9 (-1)) 10 (-1)) 11 (-1)) 12 (-1)) 13 (-1)) 14 (-1)) 15 (-1)) 16 (-1)) 17 (-1)) S hG 0 (fu_at (by omega) fu_s) rfl (fin_l (by decide)) dX10_diff_174 (rfl) (fun H locs hG => ?_)
  refine lv_iinc (v := 18) (lv' := [(3, .int 18), (0, .ref (N0 + 164)), (1, .int 0), (2, .int 0)]) S.1 S.2.1 dX10_diff_175 hl (k := 0) rfl (by decide) (by decide) rfl (fun ls hl => ?_)
  refine lv_goto (tgt := 145) S.1 S.2.1 dX10_diff_178 (by decide) ?_
  refine lv_iload_n S.1 S.2.1 dX10_diff_145 rfl (lv_at hl 0 rfl) ?_
  refine lv_bipush (v := 20) S.1 S.2.1 dX10_diff_146 (by decide) ?_
  refine lv_icmp_ge (tgt := 181) S.1 S.2.1 dX10_diff_148 (by decide) (fun c => absurd c (by decide)) (fun _ => ?_)
  refine lv_aload_n S.1 S.2.1 dX10_diff_151 rfl (lv_at hl 1 rfl) ?_
  refine gx_get (C := RX10) (T := TX10) (N := 31) S hG (fu_at (by omega) (fu_at (by omega) (fu_at (by omega) (fu_at (by omega) (fu_at (by omega) (fu_at (by omega) (fu_at (by omega) (fu_at (by omega) (fu_at (by omega) (fu_at (by omega) (fu_at (by omega) (fu_at (by omega) (fu_at (by omega) (fu_at (by omega) (fu_at (by omega) (fu_at (by omega) (fu_at (by omega) (fu_at (by omega) (fu_at (by omega) (fu_at (by omega) (fu_at (by omega) (fu_at (by omega) (fu_at (by omega) (fu_at (by omega) (fu_at (by omega) (fu_at (by omega) (fu_at (by omega) (fu_at (by omega) (fu_at (by omega) (fu_at (by omega) (fu_at (by omega) (fu_at (by omega) (fu_at (by omega) (fu_at (by omega) (fu_at (by omega) (fu_at (by omega) fu_s)))))))))))))))))))))))))))))))))))) i_X10_diff_X10 rfl 21 (by decide) (by decide +kernel) rfl dX10_diff_152 ?_
  refine lv_iload_n S.1 S.2.1 dX10_diff_155 rfl (lv_at hl 0 rfl) ?_
  refine lv_aload_n S.1 S.2.1 dX10_diff_156 rfl (lv_at hl 1 rfl) ?_
  refine gx_get (C := RX10) (T := TX10) (N := 31) S hG (fu_at (by omega) (fu_at (by omega) (fu_at (by omega) (fu_at (by omega) (fu_at (by omega) (fu_at (by omega) (fu_at (by omega) (fu_at (by omega) (fu_at (by omega) (fu_at (by omega) (fu_at (by omega) (fu_at (by omega) (fu_at (by omega) (fu_at (by omega) (fu_at (by omega) (fu_at (by omega) (fu_at (by omega) (fu_at (by omega) (fu_at (by omega) (fu_at (by omega) (fu_at (by omega) (fu_at (by omega) (fu_at (by omega) (fu_at (by omega) (fu_at (by omega) (fu_at (by omega) (fu_at (by omega) (fu_at (by omega) (fu_at (by omega) (fu_at (by omega) (fu_at (by omega) (fu_at (by omega) (fu_at (by omega) (fu_at (by omega) (fu_at (by omega) (fu_at (by omega) fu_s)))))))))))))))))))))))))))))))))))) i_X10_diff_X10 rfl 13 (by decide) (by decide +kernel) rfl dX10_diff_157 ?_
  refine lv_iload_n S.1 S.2.1 dX10_diff_160 rfl (lv_at hl 0 rfl) ?_
  refine gx_iald (v := (-1)) S hG 0 (fu_at (by omega) (fu_at (by omega) (fu_at (by omega) (fu_at (by omega) (fu_at (by omega) (fu_at (by omega) (fu_at (by omega) (fu_at (by omega) (fu_at (by omega) (fu_at (by omega) (fu_at (by omega) (fu_at (by omega) (fu_at (by omega) (fu_at (by omega) (fu_at (by omega) (fu_at (by omega) (fu_at (by omega) (fu_at (by omega) (fu_at (by omega) (fu_at (by omega) (fu_at (by omega) (fu_at (by omega) (fu_at (by omega) (fu_at (by omega) (fu_at (by omega) (fu_at (by omega) (fu_at (by omega) (fu_at (by omega) (fu_at (by omega) (fu_at (by omega) (fu_at (by omega) (fu_at (by omega) (fu_at (by omega) (fu_at (by omega) (fu_at (by omega) (fu_at (by omega) (fu_at (by omega) (fblk_sk 8 rfl (by omega) (fu_at (by omega) fu_s))))))))))))))))))))))))))))))))))))))) rfl (fin_l (by decide)) (by decide) dX10_diff_161 ?_
  refine gx_iast (f' := upd (upd (upd (upd (upd (upd (upd (upd (upd (upd (upd (upd (upd (upd (upd (upd (upd (upd (upd (fun _ => 0) 0 0) 1 (-1)) 2 (-1)) 3 (-1)) 4 (-1)) 5 (-1)) 6 (-1)) 7 (-1)) 8 (-1)) 9 (-1)) 10 (-1)) 11 (-1)) 12 (-1)) 13 (-1)) 14 (-1)) 15 (-1)) 16 (-1)) 17 (-1)) 18 (-1)) S hG 0 (fu_at (by omega) fu_s) rfl (fin_l (by decide)) dX10_diff_162 (rfl) (fun H locs hG => ?_)
  refine lv_aload_n S.1 S.2.1 dX10_diff_163 rfl (lv_at hl 1 rfl) ?_
  refine gx_get (C := RX10) (T := TX10) (N := 31) S hG (fu_at (by omega) (fu_at (by omega) (fu_at (by omega) (fu_at (by omega) (fu_at (by omega) (fu_at (by omega) (fu_at (by omega) (fu_at (by omega) (fu_at (by omega) (fu_at (by omega) (fu_at (by omega) (fu_at (by omega) (fu_at (by omega) (fu_at (by omega) (fu_at (by omega) (fu_at (by omega) (fu_at (by omega) (fu_at (by omega) (fu_at (by omega) (fu_at (by omega) (fu_at (by omega) (fu_at (by omega) (fu_at (by omega) (fu_at (by omega) (fu_at (by omega) (fu_at (by omega) (fu_at (by omega) (fu_at (by omega) (fu_at (by omega) (fu_at (by omega) (fu_at (by omega) (fu_at (by omega) (fu_at (by omega) (fu_at (by omega) (fu_at (by omega) (fu_at (by omega) (fu_at (by omega) fu_s))))))))))))))))))))))))))))))))))))) i_X10_diff_X10 rfl 22 (by decide) (by decide +kernel) rfl dX10_diff_164 ?_
  refine lv_iload_n S.1 S.2.1 dX10_diff_167 rfl (lv_at hl 0 rfl) ?_
  refine lv_aload_n S.1 S.2.1 dX10_diff_168 rfl (lv_at hl 1 rfl) ?_
  refine gx_get (C := RX10) (T := TX10) (N := 31) S hG (fu_at (by omega) (fu_at (by omega) (fu_at (by omega) (fu_at (by omega) (fu_at (by omega) (fu_at (by omega) (fu_at (by omega) (fu_at (by omega) (fu_at (by omega) (fu_at (by omega) (fu_at (by omega) (fu_at (by omega) (fu_at (by omega) (fu_at (by omega) (fu_at (by omega) (fu_at (by omega) (fu_at (by omega) (fu_at (by omega) (fu_at (by omega) (fu_at (by omega) (fu_at (by omega) (fu_at (by omega) (fu_at (by omega) (fu_at (by omega) (fu_at (by omega) (fu_at (by omega) (fu_at (by omega) (fu_at (by omega) (fu_at (by omega) (fu_at (by omega) (fu_at (by omega) (fu_at (by omega) (fu_at (by omega) (fu_at (by omega) (fu_at (by omega) (fu_at (by omega) (fu_at (by omega) fu_s))))))))))))))))))))))))))))))))))))) i_X10_diff_X10 rfl 14 (by decide) (by decide +kernel) rfl dX10_diff_169 ?_
  refine lv_iload_n S.1 S.2.1 dX10_diff_172 rfl (lv_at hl 0 rfl) ?_
  refine gx_iald (v := (-1)) S hG 0 (fu_at (by omega) (fu_at (by omega) (fu_at (by omega) (fu_at (by omega) (fu_at (by omega) (fu_at (by omega) (fu_at (by omega) (fu_at (by omega) (fu_at (by omega) (fu_at (by omega) (fu_at (by omega) (fu_at (by omega) (fu_at (by omega) (fu_at (by omega) (fu_at (by omega) (fu_at (by omega) (fu_at (by omega) (fu_at (by omega) (fu_at (by omega) (fu_at (by omega) (fu_at (by omega) (fu_at (by omega) (fu_at (by omega) (fu_at (by omega) (fu_at (by omega) (fu_at (by omega) (fu_at (by omega) (fu_at (by omega) (fu_at (by omega) (fu_at (by omega) (fu_at (by omega) (fu_at (by omega) (fu_at (by omega) (fu_at (by omega) (fu_at (by omega) (fu_at (by omega) (fu_at (by omega) (fu_at (by omega) (fblk_sk 8 rfl (by omega) fu_s))))))))))))))))))))))))))))))))))))))) rfl (fin_l (by decide)) (by decide) dX10_diff_173 ?_
  refine gx_iast (f' := upd (upd (upd (upd (upd (upd (upd (upd (upd (upd (upd (upd (upd (upd (upd (upd (upd (upd (upd (fun _ => 0) 0 0) 1 (-1)) 2 (-1)) 3 (-1)) 4 (-1)) 5 (-1)) 6 (-1)) 7 (-1)) 8 (-1)) 9 (-1)) 10 (-1)) 11 (-1)) 12 (-1)) 13 (-1)) 14 (-1)) 15 (-1)) 16 (-1)) 17 (-1)) 18 (-1)) S hG 0 (fu_at (by omega) fu_s) rfl (fin_l (by decide)) dX10_diff_174 (rfl) (fun H locs hG => ?_)
  refine lv_iinc (v := 19) (lv' := [(3, .int 19), (0, .ref (N0 + 164)), (1, .int 0), (2, .int 0)]) S.1 S.2.1 dX10_diff_175 hl (k := 0) rfl (by decide) (by decide) rfl (fun ls hl => ?_)
  refine lv_goto (tgt := 145) S.1 S.2.1 dX10_diff_178 (by decide) ?_
  refine lv_iload_n S.1 S.2.1 dX10_diff_145 rfl (lv_at hl 0 rfl) ?_
  refine lv_bipush (v := 20) S.1 S.2.1 dX10_diff_146 (by decide) ?_
  refine lv_icmp_ge (tgt := 181) S.1 S.2.1 dX10_diff_148 (by decide) (fun c => absurd c (by decide)) (fun _ => ?_)
  refine lv_aload_n S.1 S.2.1 dX10_diff_151 rfl (lv_at hl 1 rfl) ?_
  refine gx_get (C := RX10) (T := TX10) (N := 31) S hG (fu_at (by omega) (fu_at (by omega) (fu_at (by omega) (fu_at (by omega) (fu_at (by omega) (fu_at (by omega) (fu_at (by omega) (fu_at (by omega) (fu_at (by omega) (fu_at (by omega) (fu_at (by omega) (fu_at (by omega) (fu_at (by omega) (fu_at (by omega) (fu_at (by omega) (fu_at (by omega) (fu_at (by omega) (fu_at (by omega) (fu_at (by omega) (fu_at (by omega) (fu_at (by omega) (fu_at (by omega) (fu_at (by omega) (fu_at (by omega) (fu_at (by omega) (fu_at (by omega) (fu_at (by omega) (fu_at (by omega) (fu_at (by omega) (fu_at (by omega) (fu_at (by omega) (fu_at (by omega) (fu_at (by omega) (fu_at (by omega) (fu_at (by omega) (fu_at (by omega) (fu_at (by omega) (fu_at (by omega) fu_s)))))))))))))))))))))))))))))))))))))) i_X10_diff_X10 rfl 21 (by decide) (by decide +kernel) rfl dX10_diff_152 ?_
  refine lv_iload_n S.1 S.2.1 dX10_diff_155 rfl (lv_at hl 0 rfl) ?_
  refine lv_aload_n S.1 S.2.1 dX10_diff_156 rfl (lv_at hl 1 rfl) ?_
  refine gx_get (C := RX10) (T := TX10) (N := 31) S hG (fu_at (by omega) (fu_at (by omega) (fu_at (by omega) (fu_at (by omega) (fu_at (by omega) (fu_at (by omega) (fu_at (by omega) (fu_at (by omega) (fu_at (by omega) (fu_at (by omega) (fu_at (by omega) (fu_at (by omega) (fu_at (by omega) (fu_at (by omega) (fu_at (by omega) (fu_at (by omega) (fu_at (by omega) (fu_at (by omega) (fu_at (by omega) (fu_at (by omega) (fu_at (by omega) (fu_at (by omega) (fu_at (by omega) (fu_at (by omega) (fu_at (by omega) (fu_at (by omega) (fu_at (by omega) (fu_at (by omega) (fu_at (by omega) (fu_at (by omega) (fu_at (by omega) (fu_at (by omega) (fu_at (by omega) (fu_at (by omega) (fu_at (by omega) (fu_at (by omega) (fu_at (by omega) (fu_at (by omega) fu_s)))))))))))))))))))))))))))))))))))))) i_X10_diff_X10 rfl 13 (by decide) (by decide +kernel) rfl dX10_diff_157 ?_
  refine lv_iload_n S.1 S.2.1 dX10_diff_160 rfl (lv_at hl 0 rfl) ?_
  refine gx_iald (v := (-1)) S hG 0 (fu_at (by omega) (fu_at (by omega) (fu_at (by omega) (fu_at (by omega) (fu_at (by omega) (fu_at (by omega) (fu_at (by omega) (fu_at (by omega) (fu_at (by omega) (fu_at (by omega) (fu_at (by omega) (fu_at (by omega) (fu_at (by omega) (fu_at (by omega) (fu_at (by omega) (fu_at (by omega) (fu_at (by omega) (fu_at (by omega) (fu_at (by omega) (fu_at (by omega) (fu_at (by omega) (fu_at (by omega) (fu_at (by omega) (fu_at (by omega) (fu_at (by omega) (fu_at (by omega) (fu_at (by omega) (fu_at (by omega) (fu_at (by omega) (fu_at (by omega) (fu_at (by omega) (fu_at (by omega) (fu_at (by omega) (fu_at (by omega) (fu_at (by omega) (fu_at (by omega) (fu_at (by omega) (fu_at (by omega) (fu_at (by omega) (fblk_sk 8 rfl (by omega) (fu_at (by omega) fu_s))))))))))))))))))))))))))))))))))))))))) rfl (fin_l (by decide)) (by decide) dX10_diff_161 ?_
  refine gx_iast (f' := upd (upd (upd (upd (upd (upd (upd (upd (upd (upd (upd (upd (upd (upd (upd (upd (upd (upd (upd (upd (fun _ => 0) 0 0) 1 (-1)) 2 (-1)) 3 (-1)) 4 (-1)) 5 (-1)) 6 (-1)) 7 (-1)) 8 (-1)) 9 (-1)) 10 (-1)) 11 (-1)) 12 (-1)) 13 (-1)) 14 (-1)) 15 (-1)) 16 (-1)) 17 (-1)) 18 (-1)) 19 (-1)) S hG 0 (fu_at (by omega) fu_s) rfl (fin_l (by decide)) dX10_diff_162 (rfl) (fun H locs hG => ?_)
  refine lv_aload_n S.1 S.2.1 dX10_diff_163 rfl (lv_at hl 1 rfl) ?_
  refine gx_get (C := RX10) (T := TX10) (N := 31) S hG (fu_at (by omega) (fu_at (by omega) (fu_at (by omega) (fu_at (by omega) (fu_at (by omega) (fu_at (by omega) (fu_at (by omega) (fu_at (by omega) (fu_at (by omega) (fu_at (by omega) (fu_at (by omega) (fu_at (by omega) (fu_at (by omega) (fu_at (by omega) (fu_at (by omega) (fu_at (by omega) (fu_at (by omega) (fu_at (by omega) (fu_at (by omega) (fu_at (by omega) (fu_at (by omega) (fu_at (by omega) (fu_at (by omega) (fu_at (by omega) (fu_at (by omega) (fu_at (by omega) (fu_at (by omega) (fu_at (by omega) (fu_at (by omega) (fu_at (by omega) (fu_at (by omega) (fu_at (by omega) (fu_at (by omega) (fu_at (by omega) (fu_at (by omega) (fu_at (by omega) (fu_at (by omega) (fu_at (by omega) (fu_at (by omega) fu_s))))))))))))))))))))))))))))))))))))))) i_X10_diff_X10 rfl 22 (by decide) (by decide +kernel) rfl dX10_diff_164 ?_
  refine lv_iload_n S.1 S.2.1 dX10_diff_167 rfl (lv_at hl 0 rfl) ?_
  refine lv_aload_n S.1 S.2.1 dX10_diff_168 rfl (lv_at hl 1 rfl) ?_
  refine gx_get (C := RX10) (T := TX10) (N := 31) S hG (fu_at (by omega) (fu_at (by omega) (fu_at (by omega) (fu_at (by omega) (fu_at (by omega) (fu_at (by omega) (fu_at (by omega) (fu_at (by omega) (fu_at (by omega) (fu_at (by omega) (fu_at (by omega) (fu_at (by omega) (fu_at (by omega) (fu_at (by omega) (fu_at (by omega) (fu_at (by omega) (fu_at (by omega) (fu_at (by omega) (fu_at (by omega) (fu_at (by omega) (fu_at (by omega) (fu_at (by omega) (fu_at (by omega) (fu_at (by omega) (fu_at (by omega) (fu_at (by omega) (fu_at (by omega) (fu_at (by omega) (fu_at (by omega) (fu_at (by omega) (fu_at (by omega) (fu_at (by omega) (fu_at (by omega) (fu_at (by omega) (fu_at (by omega) (fu_at (by omega) (fu_at (by omega) (fu_at (by omega) (fu_at (by omega) fu_s))))))))))))))))))))))))))))))))))))))) i_X10_diff_X10 rfl 14 (by decide) (by decide +kernel) rfl dX10_diff_169 ?_
  refine lv_iload_n S.1 S.2.1 dX10_diff_172 rfl (lv_at hl 0 rfl) ?_
  refine gx_iald (v := (-1)) S hG 0 (fu_at (by omega) (fu_at (by omega) (fu_at (by omega) (fu_at (by omega) (fu_at (by omega) (fu_at (by omega) (fu_at (by omega) (fu_at (by omega) (fu_at (by omega) (fu_at (by omega) (fu_at (by omega) (fu_at (by omega) (fu_at (by omega) (fu_at (by omega) (fu_at (by omega) (fu_at (by omega) (fu_at (by omega) (fu_at (by omega) (fu_at (by omega) (fu_at (by omega) (fu_at (by omega) (fu_at (by omega) (fu_at (by omega) (fu_at (by omega) (fu_at (by omega) (fu_at (by omega) (fu_at (by omega) (fu_at (by omega) (fu_at (by omega) (fu_at (by omega) (fu_at (by omega) (fu_at (by omega) (fu_at (by omega) (fu_at (by omega) (fu_at (by omega) (fu_at (by omega) (fu_at (by omega) (fu_at (by omega) (fu_at (by omega) (fu_at (by omega) (fblk_sk 8 rfl (by omega) fu_s))))))))))))))))))))))))))))))))))))))))) rfl (fin_l (by decide)) (by decide) dX10_diff_173 ?_
  refine gx_iast (f' := upd (upd (upd (upd (upd (upd (upd (upd (upd (upd (upd (upd (upd (upd (upd (upd (upd (upd (upd (upd (fun _ => 0) 0 0) 1 (-1)) 2 (-1)) 3 (-1)) 4 (-1)) 5 (-1)) 6 (-1)) 7 (-1)) 8 (-1)) 9 (-1)) 10 (-1)) 11 (-1)) 12 (-1)) 13 (-1)) 14 (-1)) 15 (-1)) 16 (-1)) 17 (-1)) 18 (-1)) 19 (-1)) S hG 0 (fu_at (by omega) fu_s) rfl (fin_l (by decide)) dX10_diff_174 (rfl) (fun H locs hG => ?_)
  refine lv_iinc (v := 20) (lv' := [(3, .int 20), (0, .ref (N0 + 164)), (1, .int 0), (2, .int 0)]) S.1 S.2.1 dX10_diff_175 hl (k := 0) rfl (by decide) (by decide) rfl (fun ls hl => ?_)
  refine lv_goto (tgt := 145) S.1 S.2.1 dX10_diff_178 (by decide) ?_
  refine lv_iload_n S.1 S.2.1 dX10_diff_145 rfl (lv_at hl 0 rfl) ?_
  refine lv_bipush (v := 20) S.1 S.2.1 dX10_diff_146 (by decide) ?_
  refine lv_icmp_ge (tgt := 181) S.1 S.2.1 dX10_diff_148 (by decide) (fun _ => ?_) (fun c => absurd (by decide) c)
  refine lv_aload_n S.1 S.2.1 dX10_diff_181 rfl (lv_at hl 1 rfl) ?_
  refine lv_iconst (v := 1) S.1 S.2.1 dX10_diff_182 (by decide) ?_
  refine gx_put (C := RX10) (T := TX10) (N := 31) (ty := .boolean) (v := .int 1) (fs' := [.ref (N0 + 165), .int 0, .ref (N0 + 181), .int 0, .int 0, .int 0, .int (-1), .ref (ql 24), .ref (N0 + 182), .ref (N0 + 187), .ref (N0 + 208), .ref (N0 + 209), .ref (N0 + 210), .ref (N0 + 211), .ref (N0 + 212), .int 0, .ref (N0 + 213), .ref (N0 + 218), .ref (N0 + 223), .ref (N0 + 224), .ref (N0 + 225), .ref (N0 + 226), .ref (N0 + 227), .int 1, .int 0, .ref (N0 + 228), .null, .int (-1), .int 0, .int 0, .int 0]) S hG (fu_at (by omega) (fu_at (by omega) (fu_at (by omega) (fu_at (by omega) (fu_at (by omega) (fu_at (by omega) (fu_at (by omega) (fu_at (by omega) (fu_at (by omega) (fu_at (by omega) (fu_at (by omega) (fu_at (by omega) (fu_at (by omega) (fu_at (by omega) (fu_at (by omega) (fu_at (by omega) (fu_at (by omega) (fu_at (by omega) (fu_at (by omega) (fu_at (by omega) (fu_at (by omega) (fu_at (by omega) (fu_at (by omega) (fu_at (by omega) (fu_at (by omega) (fu_at (by omega) (fu_at (by omega) (fu_at (by omega) (fu_at (by omega) (fu_at (by omega) (fu_at (by omega) (fu_at (by omega) (fu_at (by omega) (fu_at (by omega) (fu_at (by omega) (fu_at (by omega) (fu_at (by omega) (fu_at (by omega) (fu_at (by omega) (fu_at (by omega) fu_s)))))))))))))))))))))))))))))))))))))))) i_X10_diff_X10 rfl 23 (by decide) tyX10 tyX10_ok nmX10 (by decide +kernel) rfl (by decide +kernel) rfl (by decide) (Nat.le_of_ble_eq_true rfl) rfl dX10_diff_183 (fun H locs hG => ?_)
  refine lv_aload_n S.1 S.2.1 dX10_diff_186 rfl (lv_at hl 1 rfl) ?_
  refine gx_get (C := RX10) (T := TX10) (N := 31) S hG fu_s i_X10_diff_X10 rfl 24 (by decide) (by decide +kernel) rfl dX10_diff_187 ?_
  have hG : fG N0 D vwCl (fty cI cC cL cD cII cTr cTm cIt cB) (fen ql) s (fblk (fu (fu (fu (fu (fu (fu (fu (fu (fu (fu (fu (fu (fu (fu (fu (fu F (N0 + 213) (.inr (11, [.ref (N0 + 214), .ref (N0 + 215), .ref (N0 + 216), .ref (N0 + 217), .int 1]))) (N0 + 214) (.inl (cI, 20, .inl (upd (fun _ => 0) 0 97)))) (N0 + 215) (.inl (cI, 20, .inl (upd (fun _ => 0) 0 0)))) (N0 + 216) (.inl (cI, 20, .inl (upd (fun _ => 0) 0 0)))) (N0 + 217) (.inl (cI, 20, .inl (upd (fun _ => 0) 0 (-1))))) (N0 + 218) (.inr (11, [.ref (N0 + 219), .ref (N0 + 220), .ref (N0 + 221), .ref (N0 + 222), .int 1]))) (N0 + 219) (.inl (cI, 20, .inl (upd (fun _ => 0) 0 97)))) (N0 + 220) (.inl (cI, 20, .inl (upd (fun _ => 0) 0 0)))) (N0 + 221) (.inl (cI, 20, .inl (upd (fun _ => 0) 0 0)))) (N0 + 222) (.inl (cI, 20, .inl (upd (fun _ => 0) 0 (-1))))) (N0 + 188) (.inl (cI, 20, .inl (upd (fun _ => 0) 0 0)))) (N0 + 211) (.inl (cI, 20, .inl (upd (upd (upd (upd (upd (upd (upd (upd (upd (upd (upd (upd (upd (upd (upd (upd (upd (upd (upd (upd (upd (fun _ => 0) 0 (-1)) 1 (-1)) 2 (-1)) 3 (-1)) 4 (-1)) 5 (-1)) 6 (-1)) 7 (-1)) 8 (-1)) 9 (-1)) 10 (-1)) 11 (-1)) 12 (-1)) 13 (-1)) 14 (-1)) 15 (-1)) 16 (-1)) 17 (-1)) 18 (-1)) 19 (-1)) 0 0)))) (N0 + 212) (.inl (cI, 20, .inl (upd (upd (upd (upd (upd (upd (upd (upd (upd (upd (upd (upd (upd (upd (upd (upd (upd (upd (upd (upd (upd (fun _ => 0) 0 (-1)) 1 (-1)) 2 (-1)) 3 (-1)) 4 (-1)) 5 (-1)) 6 (-1)) 7 (-1)) 8 (-1)) 9 (-1)) 10 (-1)) 11 (-1)) 12 (-1)) 13 (-1)) 14 (-1)) 15 (-1)) 16 (-1)) 17 (-1)) 18 (-1)) 19 (-1)) 0 0)))) (N0 + 226) (.inl (cI, 20, .inl (upd (upd (upd (upd (upd (upd (upd (upd (upd (upd (upd (upd (upd (upd (upd (upd (upd (upd (upd (upd (fun _ => 0) 0 0) 1 (-1)) 2 (-1)) 3 (-1)) 4 (-1)) 5 (-1)) 6 (-1)) 7 (-1)) 8 (-1)) 9 (-1)) 10 (-1)) 11 (-1)) 12 (-1)) 13 (-1)) 14 (-1)) 15 (-1)) 16 (-1)) 17 (-1)) 18 (-1)) 19 (-1))))) (N0 + 227) (.inl (cI, 20, .inl (upd (upd (upd (upd (upd (upd (upd (upd (upd (upd (upd (upd (upd (upd (upd (upd (upd (upd (upd (upd (fun _ => 0) 0 0) 1 (-1)) 2 (-1)) 3 (-1)) 4 (-1)) 5 (-1)) 6 (-1)) 7 (-1)) 8 (-1)) 9 (-1)) 10 (-1)) 11 (-1)) 12 (-1)) 13 (-1)) 14 (-1)) 15 (-1)) 16 (-1)) 17 (-1)) 18 (-1)) 19 (-1))))) (N0 + 164) (.inr (12, [.ref (N0 + 165), .int 0, .ref (N0 + 181), .int 0, .int 0, .int 0, .int (-1), .ref (ql 24), .ref (N0 + 182), .ref (N0 + 187), .ref (N0 + 208), .ref (N0 + 209), .ref (N0 + 210), .ref (N0 + 211), .ref (N0 + 212), .int 0, .ref (N0 + 213), .ref (N0 + 218), .ref (N0 + 223), .ref (N0 + 224), .ref (N0 + 225), .ref (N0 + 226), .ref (N0 + 227), .int 1, .int 0, .ref (N0 + 228), .null, .int (-1), .int 0, .int 0, .int 0]))) n [.inl (cI, 0, .inl (fun _ => 0)), .inl (cI, 0, .inl (fun _ => 0)), .inl (cII, 1, .inr (.inr (.inr (.inr (fun j => if j < 1 then some ((n + 3) + j) else none))))), .inl (cI, 1, .inl (fun _ => 0)), .inl (cI, 0, .inl (fun _ => 0)), .inl (cI, 0, .inl (fun _ => 0)), .inl (cII, 1, .inr (.inr (.inr (.inr (fun j => if j < 1 then some ((n + 7) + j) else none))))), .inl (cI, 1, .inl (fun _ => 0))]) (n + 8) H locs := hG.weak (fun a e h => by
    rcases fblk_cases 8 rfl h with ⟨k, rfl, hlt, hk⟩ | ⟨hout, h⟩
    · rcases (show k = 0 ∨ k = 1 ∨ k = 2 ∨ k = 3 ∨ k = 4 ∨ k = 5 ∨ k = 6 ∨ k = 7 by omega) with rfl | rfl | rfl | rfl | rfl | rfl | rfl | rfl
      · cases (show some (.inl (cI, 0, .inl (fun _ => 0))) = some e from hk); exact (fu_at (by omega) (fu_at (by omega) (fu_at (by omega) (fu_at (by omega) (fu_at (by omega) (fu_at (by omega) (fu_at (by omega) (fu_at (by omega) (fu_at (by omega) (fu_at (by omega) (fu_at (by omega) (fu_at (by omega) (fu_at (by omega) (fu_at (by omega) (fu_at (by omega) (fu_at (by omega) (fu_at (by omega) (fu_at (by omega) (fu_at (by omega) (fu_at (by omega) (fu_at (by omega) (fu_at (by omega) (fu_at (by omega) (fu_at (by omega) (fu_at (by omega) (fu_at (by omega) (fu_at (by omega) (fu_at (by omega) (fu_at (by omega) (fu_at (by omega) (fu_at (by omega) (fu_at (by omega) (fu_at (by omega) (fu_at (by omega) (fu_at (by omega) (fu_at (by omega) (fu_at (by omega) (fu_at (by omega) (fu_at (by omega) (fu_at (by omega) (fu_at (by omega) (fu_at (by omega) (fblk_at 0 (by omega) rfl)))))))))))))))))))))))))))))))))))))))))))
      · cases (show some (.inl (cI, 0, .inl (fun _ => 0))) = some e from hk); exact (fu_at (by omega) (fu_at (by omega) (fu_at (by omega) (fu_at (by omega) (fu_at (by omega) (fu_at (by omega) (fu_at (by omega) (fu_at (by omega) (fu_at (by omega) (fu_at (by omega) (fu_at (by omega) (fu_at (by omega) (fu_at (by omega) (fu_at (by omega) (fu_at (by omega) (fu_at (by omega) (fu_at (by omega) (fu_at (by omega) (fu_at (by omega) (fu_at (by omega) (fu_at (by omega) (fu_at (by omega) (fu_at (by omega) (fu_at (by omega) (fu_at (by omega) (fu_at (by omega) (fu_at (by omega) (fu_at (by omega) (fu_at (by omega) (fu_at (by omega) (fu_at (by omega) (fu_at (by omega) (fu_at (by omega) (fu_at (by omega) (fu_at (by omega) (fu_at (by omega) (fu_at (by omega) (fu_at (by omega) (fu_at (by omega) (fu_at (by omega) (fu_at (by omega) (fu_at (by omega) (fblk_at 1 (by omega) rfl)))))))))))))))))))))))))))))))))))))))))))
      · cases (show some (.inl (cII, 1, .inr (.inr (.inr (.inr (fun j => if j < 1 then some ((n + 3) + j) else none)))))) = some e from hk); exact (fu_at (by omega) (fu_at (by omega) (fu_at (by omega) (fu_at (by omega) (fu_at (by omega) (fu_at (by omega) (fu_at (by omega) (fu_at (by omega) (fu_at (by omega) (fu_at (by omega) (fu_at (by omega) (fu_at (by omega) (fu_at (by omega) (fu_at (by omega) (fu_at (by omega) (fu_at (by omega) (fu_at (by omega) (fu_at (by omega) (fu_at (by omega) (fu_at (by omega) (fu_at (by omega) (fu_at (by omega) (fu_at (by omega) (fu_at (by omega) (fu_at (by omega) (fu_at (by omega) (fu_at (by omega) (fu_at (by omega) (fu_at (by omega) (fu_at (by omega) (fu_at (by omega) (fu_at (by omega) (fu_at (by omega) (fu_at (by omega) (fu_at (by omega) (fu_at (by omega) (fu_at (by omega) (fu_at (by omega) (fu_at (by omega) (fu_at (by omega) (fu_at (by omega) (fu_at (by omega) (fblk_at 2 (by omega) rfl)))))))))))))))))))))))))))))))))))))))))))
      · cases (show some (.inl (cI, 1, .inl (fun _ => 0))) = some e from hk); exact (fu_at (by omega) (fu_at (by omega) (fu_at (by omega) (fu_at (by omega) (fu_at (by omega) (fu_at (by omega) (fu_at (by omega) (fu_at (by omega) (fu_at (by omega) (fu_at (by omega) (fu_at (by omega) (fu_at (by omega) (fu_at (by omega) (fu_at (by omega) (fu_at (by omega) (fu_at (by omega) (fu_at (by omega) (fu_at (by omega) (fu_at (by omega) (fu_at (by omega) (fu_at (by omega) (fu_at (by omega) (fu_at (by omega) (fu_at (by omega) (fu_at (by omega) (fu_at (by omega) (fu_at (by omega) (fu_at (by omega) (fu_at (by omega) (fu_at (by omega) (fu_at (by omega) (fu_at (by omega) (fu_at (by omega) (fu_at (by omega) (fu_at (by omega) (fu_at (by omega) (fu_at (by omega) (fu_at (by omega) (fu_at (by omega) (fu_at (by omega) (fu_at (by omega) (fu_at (by omega) (fblk_at 3 (by omega) rfl)))))))))))))))))))))))))))))))))))))))))))
      · cases (show some (.inl (cI, 0, .inl (fun _ => 0))) = some e from hk); exact (fu_at (by omega) (fu_at (by omega) (fu_at (by omega) (fu_at (by omega) (fu_at (by omega) (fu_at (by omega) (fu_at (by omega) (fu_at (by omega) (fu_at (by omega) (fu_at (by omega) (fu_at (by omega) (fu_at (by omega) (fu_at (by omega) (fu_at (by omega) (fu_at (by omega) (fu_at (by omega) (fu_at (by omega) (fu_at (by omega) (fu_at (by omega) (fu_at (by omega) (fu_at (by omega) (fu_at (by omega) (fu_at (by omega) (fu_at (by omega) (fu_at (by omega) (fu_at (by omega) (fu_at (by omega) (fu_at (by omega) (fu_at (by omega) (fu_at (by omega) (fu_at (by omega) (fu_at (by omega) (fu_at (by omega) (fu_at (by omega) (fu_at (by omega) (fu_at (by omega) (fu_at (by omega) (fu_at (by omega) (fu_at (by omega) (fu_at (by omega) (fu_at (by omega) (fu_at (by omega) (fblk_at 4 (by omega) rfl)))))))))))))))))))))))))))))))))))))))))))
      · cases (show some (.inl (cI, 0, .inl (fun _ => 0))) = some e from hk); exact (fu_at (by omega) (fu_at (by omega) (fu_at (by omega) (fu_at (by omega) (fu_at (by omega) (fu_at (by omega) (fu_at (by omega) (fu_at (by omega) (fu_at (by omega) (fu_at (by omega) (fu_at (by omega) (fu_at (by omega) (fu_at (by omega) (fu_at (by omega) (fu_at (by omega) (fu_at (by omega) (fu_at (by omega) (fu_at (by omega) (fu_at (by omega) (fu_at (by omega) (fu_at (by omega) (fu_at (by omega) (fu_at (by omega) (fu_at (by omega) (fu_at (by omega) (fu_at (by omega) (fu_at (by omega) (fu_at (by omega) (fu_at (by omega) (fu_at (by omega) (fu_at (by omega) (fu_at (by omega) (fu_at (by omega) (fu_at (by omega) (fu_at (by omega) (fu_at (by omega) (fu_at (by omega) (fu_at (by omega) (fu_at (by omega) (fu_at (by omega) (fu_at (by omega) (fu_at (by omega) (fblk_at 5 (by omega) rfl)))))))))))))))))))))))))))))))))))))))))))
      · cases (show some (.inl (cII, 1, .inr (.inr (.inr (.inr (fun j => if j < 1 then some ((n + 7) + j) else none)))))) = some e from hk); exact (fu_at (by omega) (fu_at (by omega) (fu_at (by omega) (fu_at (by omega) (fu_at (by omega) (fu_at (by omega) (fu_at (by omega) (fu_at (by omega) (fu_at (by omega) (fu_at (by omega) (fu_at (by omega) (fu_at (by omega) (fu_at (by omega) (fu_at (by omega) (fu_at (by omega) (fu_at (by omega) (fu_at (by omega) (fu_at (by omega) (fu_at (by omega) (fu_at (by omega) (fu_at (by omega) (fu_at (by omega) (fu_at (by omega) (fu_at (by omega) (fu_at (by omega) (fu_at (by omega) (fu_at (by omega) (fu_at (by omega) (fu_at (by omega) (fu_at (by omega) (fu_at (by omega) (fu_at (by omega) (fu_at (by omega) (fu_at (by omega) (fu_at (by omega) (fu_at (by omega) (fu_at (by omega) (fu_at (by omega) (fu_at (by omega) (fu_at (by omega) (fu_at (by omega) (fu_at (by omega) (fblk_at 6 (by omega) rfl)))))))))))))))))))))))))))))))))))))))))))
      · cases (show some (.inl (cI, 1, .inl (fun _ => 0))) = some e from hk); exact (fu_at (by omega) (fu_at (by omega) (fu_at (by omega) (fu_at (by omega) (fu_at (by omega) (fu_at (by omega) (fu_at (by omega) (fu_at (by omega) (fu_at (by omega) (fu_at (by omega) (fu_at (by omega) (fu_at (by omega) (fu_at (by omega) (fu_at (by omega) (fu_at (by omega) (fu_at (by omega) (fu_at (by omega) (fu_at (by omega) (fu_at (by omega) (fu_at (by omega) (fu_at (by omega) (fu_at (by omega) (fu_at (by omega) (fu_at (by omega) (fu_at (by omega) (fu_at (by omega) (fu_at (by omega) (fu_at (by omega) (fu_at (by omega) (fu_at (by omega) (fu_at (by omega) (fu_at (by omega) (fu_at (by omega) (fu_at (by omega) (fu_at (by omega) (fu_at (by omega) (fu_at (by omega) (fu_at (by omega) (fu_at (by omega) (fu_at (by omega) (fu_at (by omega) (fu_at (by omega) (fblk_at 7 (by omega) rfl)))))))))))))))))))))))))))))))))))))))))))
    · rcases fu_cases h with ⟨rfl, he⟩ | ⟨hne0, h⟩
      · cases he; exact fu_s
      · skip
        rcases fu_cases h with ⟨rfl, he⟩ | ⟨hne1, h⟩
        · cases he; exact (fu_at (by omega) fu_s)
        · skip
          rcases fu_cases h with ⟨rfl, he⟩ | ⟨hne2, h⟩
          · cases he; exact (fu_at (by omega) (fu_at (by omega) fu_s))
          · skip
            rcases fu_cases h with ⟨rfl, he⟩ | ⟨hne3, h⟩
            · cases he; exact (fu_at (by omega) (fu_at (by omega) (fu_at (by omega) (fu_at (by omega) (fu_at (by omega) (fu_at (by omega) (fu_at (by omega) (fu_at (by omega) (fu_at (by omega) (fu_at (by omega) (fu_at (by omega) (fu_at (by omega) (fu_at (by omega) (fu_at (by omega) (fu_at (by omega) (fu_at (by omega) (fu_at (by omega) (fu_at (by omega) (fu_at (by omega) (fu_at (by omega) (fu_at (by omega) (fu_at (by omega) (fu_at (by omega) (fu_at (by omega) (fu_at (by omega) (fu_at (by omega) (fu_at (by omega) (fu_at (by omega) (fu_at (by omega) (fu_at (by omega) (fu_at (by omega) (fu_at (by omega) (fu_at (by omega) (fu_at (by omega) (fu_at (by omega) (fu_at (by omega) (fu_at (by omega) (fu_at (by omega) (fu_at (by omega) (fu_at (by omega) (fu_at (by omega) (fu_at (by omega) (fblk_sk 8 rfl (by omega) fu_s)))))))))))))))))))))))))))))))))))))))))))
            · skip
              rcases fu_cases h with ⟨rfl, he⟩ | ⟨hne4, h⟩
              · cases he; exact (fu_at (by omega) (fu_at (by omega) (fu_at (by omega) (fu_at (by omega) (fu_at (by omega) (fu_at (by omega) (fu_at (by omega) (fu_at (by omega) (fu_at (by omega) (fu_at (by omega) (fu_at (by omega) (fu_at (by omega) (fu_at (by omega) (fu_at (by omega) (fu_at (by omega) (fu_at (by omega) (fu_at (by omega) (fu_at (by omega) (fu_at (by omega) (fu_at (by omega) (fu_at (by omega) (fu_at (by omega) (fu_at (by omega) (fu_at (by omega) (fu_at (by omega) (fu_at (by omega) (fu_at (by omega) (fu_at (by omega) (fu_at (by omega) (fu_at (by omega) (fu_at (by omega) (fu_at (by omega) (fu_at (by omega) (fu_at (by omega) (fu_at (by omega) (fu_at (by omega) (fu_at (by omega) (fu_at (by omega) (fu_at (by omega) (fu_at (by omega) (fu_at (by omega) (fu_at (by omega) (fblk_sk 8 rfl (by omega) (fu_at (by omega) fu_s))))))))))))))))))))))))))))))))))))))))))))
              · skip
                rcases fu_cases h with ⟨rfl, he⟩ | ⟨hne5, h⟩
                · cases he; exact (fu_at (by omega) (fu_at (by omega) (fu_at (by omega) (fu_at (by omega) (fu_at (by omega) (fu_at (by omega) (fu_at (by omega) (fu_at (by omega) (fu_at (by omega) (fu_at (by omega) (fu_at (by omega) (fu_at (by omega) (fu_at (by omega) (fu_at (by omega) (fu_at (by omega) (fu_at (by omega) (fu_at (by omega) (fu_at (by omega) (fu_at (by omega) (fu_at (by omega) (fu_at (by omega) (fu_at (by omega) (fu_at (by omega) (fu_at (by omega) (fu_at (by omega) (fu_at (by omega) (fu_at (by omega) (fu_at (by omega) (fu_at (by omega) (fu_at (by omega) (fu_at (by omega) (fu_at (by omega) (fu_at (by omega) (fu_at (by omega) (fu_at (by omega) (fu_at (by omega) (fu_at (by omega) (fu_at (by omega) (fu_at (by omega) (fu_at (by omega) (fu_at (by omega) (fu_at (by omega) (fblk_sk 8 rfl (by omega) (fu_at (by omega) (fu_at (by omega) fu_s)))))))))))))))))))))))))))))))))))))))))))))
                · skip
                  rcases fu_cases h with ⟨rfl, he⟩ | ⟨hne6, h⟩
                  · cases he; exact (fu_at (by omega) (fu_at (by omega) (fu_at (by omega) (fu_at (by omega) (fu_at (by omega) (fu_at (by omega) (fu_at (by omega) (fu_at (by omega) (fu_at (by omega) (fu_at (by omega) (fu_at (by omega) (fu_at (by omega) (fu_at (by omega) (fu_at (by omega) (fu_at (by omega) (fu_at (by omega) (fu_at (by omega) (fu_at (by omega) (fu_at (by omega) (fu_at (by omega) (fu_at (by omega) (fu_at (by omega) (fu_at (by omega) (fu_at (by omega) (fu_at (by omega) (fu_at (by omega) (fu_at (by omega) (fu_at (by omega) (fu_at (by omega) (fu_at (by omega) (fu_at (by omega) (fu_at (by omega) (fu_at (by omega) (fu_at (by omega) (fu_at (by omega) (fu_at (by omega) (fu_at (by omega) (fu_at (by omega) (fu_at (by omega) (fu_at (by omega) (fu_at (by omega) (fu_at (by omega) (fblk_sk 8 rfl (by omega) (fu_at (by omega) (fu_at (by omega) (fu_at (by omega) (fu_at (by omega) fu_s)))))))))))))))))))))))))))))))))))))))))))))))
                  · skip
                    rcases fu_cases h with ⟨rfl, he⟩ | ⟨hne7, h⟩
                    · cases he; exact (fu_at (by omega) (fu_at (by omega) (fu_at (by omega) (fu_at (by omega) (fu_at (by omega) (fu_at (by omega) (fu_at (by omega) (fu_at (by omega) (fu_at (by omega) (fu_at (by omega) (fu_at (by omega) (fu_at (by omega) (fu_at (by omega) (fu_at (by omega) (fu_at (by omega) (fu_at (by omega) (fu_at (by omega) (fu_at (by omega) (fu_at (by omega) (fu_at (by omega) (fu_at (by omega) (fu_at (by omega) (fu_at (by omega) (fu_at (by omega) (fu_at (by omega) (fu_at (by omega) (fu_at (by omega) (fu_at (by omega) (fu_at (by omega) (fu_at (by omega) (fu_at (by omega) (fu_at (by omega) (fu_at (by omega) (fu_at (by omega) (fu_at (by omega) (fu_at (by omega) (fu_at (by omega) (fu_at (by omega) (fu_at (by omega) (fu_at (by omega) (fu_at (by omega) (fu_at (by omega) (fblk_sk 8 rfl (by omega) (fu_at (by omega) (fu_at (by omega) (fu_at (by omega) (fu_at (by omega) (fu_at (by omega) fu_s))))))))))))))))))))))))))))))))))))))))))))))))
                    · skip
                      rcases fu_cases h with ⟨rfl, he⟩ | ⟨hne8, h⟩
                      · cases he; exact (fu_at (by omega) (fu_at (by omega) (fu_at (by omega) (fu_at (by omega) (fu_at (by omega) (fu_at (by omega) (fu_at (by omega) (fu_at (by omega) (fu_at (by omega) (fu_at (by omega) (fu_at (by omega) (fu_at (by omega) (fu_at (by omega) (fu_at (by omega) (fu_at (by omega) (fu_at (by omega) (fu_at (by omega) (fu_at (by omega) (fu_at (by omega) (fu_at (by omega) (fu_at (by omega) (fu_at (by omega) (fu_at (by omega) (fu_at (by omega) (fu_at (by omega) (fu_at (by omega) (fu_at (by omega) (fu_at (by omega) (fu_at (by omega) (fu_at (by omega) (fu_at (by omega) (fu_at (by omega) (fu_at (by omega) (fu_at (by omega) (fu_at (by omega) (fu_at (by omega) (fu_at (by omega) (fu_at (by omega) (fu_at (by omega) (fu_at (by omega) (fu_at (by omega) (fu_at (by omega) (fblk_sk 8 rfl (by omega) (fu_at (by omega) (fu_at (by omega) (fu_at (by omega) (fu_at (by omega) (fu_at (by omega) (fu_at (by omega) fu_s)))))))))))))))))))))))))))))))))))))))))))))))))
                      · skip
                        rcases fu_cases h with ⟨rfl, he⟩ | ⟨hne9, h⟩
                        · cases he; exact (fu_at (by omega) (fu_at (by omega) (fu_at (by omega) (fu_at (by omega) (fu_at (by omega) (fu_at (by omega) (fu_at (by omega) (fu_at (by omega) (fu_at (by omega) (fu_at (by omega) (fu_at (by omega) (fu_at (by omega) (fu_at (by omega) (fu_at (by omega) (fu_at (by omega) (fu_at (by omega) (fu_at (by omega) (fu_at (by omega) (fu_at (by omega) (fu_at (by omega) (fu_at (by omega) (fu_at (by omega) (fu_at (by omega) (fu_at (by omega) (fu_at (by omega) (fu_at (by omega) (fu_at (by omega) (fu_at (by omega) (fu_at (by omega) (fu_at (by omega) (fu_at (by omega) (fu_at (by omega) (fu_at (by omega) (fu_at (by omega) (fu_at (by omega) (fu_at (by omega) (fu_at (by omega) (fu_at (by omega) (fu_at (by omega) (fu_at (by omega) (fu_at (by omega) (fu_at (by omega) (fblk_sk 8 rfl (by omega) (fu_at (by omega) (fu_at (by omega) (fu_at (by omega) (fu_at (by omega) (fu_at (by omega) (fu_at (by omega) (fu_at (by omega) fu_s))))))))))))))))))))))))))))))))))))))))))))))))))
                        · skip
                          rcases fu_cases h with ⟨rfl, he⟩ | ⟨hne10, h⟩
                          · cases he; exact (fu_at (by omega) (fu_at (by omega) (fu_at (by omega) (fu_at (by omega) (fu_at (by omega) (fu_at (by omega) (fu_at (by omega) (fu_at (by omega) (fu_at (by omega) (fu_at (by omega) (fu_at (by omega) (fu_at (by omega) (fu_at (by omega) (fu_at (by omega) (fu_at (by omega) (fu_at (by omega) (fu_at (by omega) (fu_at (by omega) (fu_at (by omega) (fu_at (by omega) (fu_at (by omega) (fu_at (by omega) (fu_at (by omega) (fu_at (by omega) (fu_at (by omega) (fu_at (by omega) (fu_at (by omega) (fu_at (by omega) (fu_at (by omega) (fu_at (by omega) (fu_at (by omega) (fu_at (by omega) (fu_at (by omega) (fu_at (by omega) (fu_at (by omega) (fu_at (by omega) (fu_at (by omega) (fu_at (by omega) (fu_at (by omega) (fu_at (by omega) (fu_at (by omega) (fu_at (by omega) (fblk_sk 8 rfl (by omega) (fu_at (by omega) (fu_at (by omega) (fu_at (by omega) (fu_at (by omega) (fu_at (by omega) (fu_at (by omega) (fu_at (by omega) (fu_at (by omega) fu_s)))))))))))))))))))))))))))))))))))))))))))))))))))
                          · skip
                            rcases fu_cases h with ⟨rfl, he⟩ | ⟨hne11, h⟩
                            · cases he; exact (fu_at (by omega) (fu_at (by omega) (fu_at (by omega) (fu_at (by omega) (fu_at (by omega) (fu_at (by omega) (fu_at (by omega) (fu_at (by omega) (fu_at (by omega) (fu_at (by omega) (fu_at (by omega) (fu_at (by omega) (fu_at (by omega) (fu_at (by omega) (fu_at (by omega) (fu_at (by omega) (fu_at (by omega) (fu_at (by omega) (fu_at (by omega) (fu_at (by omega) (fu_at (by omega) (fu_at (by omega) (fu_at (by omega) (fu_at (by omega) (fu_at (by omega) (fu_at (by omega) (fu_at (by omega) (fu_at (by omega) (fu_at (by omega) (fu_at (by omega) (fu_at (by omega) (fu_at (by omega) (fu_at (by omega) (fu_at (by omega) (fu_at (by omega) (fu_at (by omega) (fu_at (by omega) (fu_at (by omega) (fu_at (by omega) (fu_at (by omega) (fu_at (by omega) (fu_at (by omega) (fblk_sk 8 rfl (by omega) (fu_at (by omega) (fu_at (by omega) (fu_at (by omega) (fu_at (by omega) (fu_at (by omega) (fu_at (by omega) (fu_at (by omega) (fu_at (by omega) (fu_at (by omega) fu_s))))))))))))))))))))))))))))))))))))))))))))))))))))
                            · skip
                              rcases fu_cases h with ⟨rfl, he⟩ | ⟨hne12, h⟩
                              · cases he; exact (fu_at (by omega) (fu_at (by omega) (fu_at (by omega) (fu_at (by omega) (fu_at (by omega) (fu_at (by omega) (fu_at (by omega) (fu_at (by omega) (fu_at (by omega) (fu_at (by omega) (fu_at (by omega) (fu_at (by omega) (fu_at (by omega) (fu_at (by omega) (fu_at (by omega) (fu_at (by omega) (fu_at (by omega) (fu_at (by omega) (fu_at (by omega) (fu_at (by omega) (fu_at (by omega) (fu_at (by omega) (fu_at (by omega) (fu_at (by omega) (fu_at (by omega) (fu_at (by omega) (fu_at (by omega) (fu_at (by omega) (fu_at (by omega) (fu_at (by omega) (fu_at (by omega) (fu_at (by omega) (fu_at (by omega) (fu_at (by omega) (fu_at (by omega) (fu_at (by omega) (fu_at (by omega) (fu_at (by omega) (fu_at (by omega) (fu_at (by omega) (fu_at (by omega) (fu_at (by omega) (fblk_sk 8 rfl (by omega) (fu_at (by omega) (fu_at (by omega) (fu_at (by omega) (fu_at (by omega) (fu_at (by omega) (fu_at (by omega) (fu_at (by omega) (fu_at (by omega) (fu_at (by omega) (fu_at (by omega) fu_s)))))))))))))))))))))))))))))))))))))))))))))))))))))
                              · skip
                                rcases fu_cases h with ⟨rfl, he⟩ | ⟨hne13, h⟩
                                · cases he; exact (fu_at (by omega) (fu_at (by omega) (fu_at (by omega) (fu_at (by omega) (fu_at (by omega) (fu_at (by omega) (fu_at (by omega) (fu_at (by omega) (fu_at (by omega) (fu_at (by omega) (fu_at (by omega) (fu_at (by omega) (fu_at (by omega) (fu_at (by omega) (fu_at (by omega) (fu_at (by omega) (fu_at (by omega) (fu_at (by omega) (fu_at (by omega) (fu_at (by omega) (fu_at (by omega) (fu_at (by omega) (fu_at (by omega) (fu_at (by omega) (fu_at (by omega) (fu_at (by omega) (fu_at (by omega) (fu_at (by omega) (fu_at (by omega) (fu_at (by omega) (fu_at (by omega) (fu_at (by omega) (fu_at (by omega) (fu_at (by omega) (fu_at (by omega) (fu_at (by omega) (fu_at (by omega) (fu_at (by omega) (fu_at (by omega) (fu_at (by omega) (fu_at (by omega) (fu_at (by omega) (fblk_sk 8 rfl (by omega) (fu_at (by omega) (fu_at (by omega) (fu_at (by omega) (fu_at (by omega) (fu_at (by omega) (fu_at (by omega) (fu_at (by omega) (fu_at (by omega) (fu_at (by omega) (fu_at (by omega) (fu_at (by omega) fu_s))))))))))))))))))))))))))))))))))))))))))))))))))))))
                                · skip
                                  rcases fu_cases h with ⟨rfl, he⟩ | ⟨hne14, h⟩
                                  · cases he; exact (fu_at (by omega) (fu_at (by omega) (fu_at (by omega) (fu_at (by omega) (fu_at (by omega) (fu_at (by omega) (fu_at (by omega) (fu_at (by omega) (fu_at (by omega) (fu_at (by omega) (fu_at (by omega) (fu_at (by omega) (fu_at (by omega) (fu_at (by omega) (fu_at (by omega) (fu_at (by omega) (fu_at (by omega) (fu_at (by omega) (fu_at (by omega) (fu_at (by omega) (fu_at (by omega) (fu_at (by omega) (fu_at (by omega) (fu_at (by omega) (fu_at (by omega) (fu_at (by omega) (fu_at (by omega) (fu_at (by omega) (fu_at (by omega) (fu_at (by omega) (fu_at (by omega) (fu_at (by omega) (fu_at (by omega) (fu_at (by omega) (fu_at (by omega) (fu_at (by omega) (fu_at (by omega) (fu_at (by omega) (fu_at (by omega) (fu_at (by omega) (fu_at (by omega) (fu_at (by omega) (fblk_sk 8 rfl (by omega) (fu_at (by omega) (fu_at (by omega) (fu_at (by omega) (fu_at (by omega) (fu_at (by omega) (fu_at (by omega) (fu_at (by omega) (fu_at (by omega) (fu_at (by omega) (fu_at (by omega) (fu_at (by omega) (fu_at (by omega) fu_s)))))))))))))))))))))))))))))))))))))))))))))))))))))))
                                  · skip
                                    rcases fu_cases h with ⟨rfl, he⟩ | ⟨hne15, h⟩
                                    · cases he; exact (fu_at (by omega) (fu_at (by omega) (fu_at (by omega) (fu_at (by omega) (fu_at (by omega) (fu_at (by omega) (fu_at (by omega) (fu_at (by omega) (fu_at (by omega) (fu_at (by omega) (fu_at (by omega) (fu_at (by omega) (fu_at (by omega) (fu_at (by omega) (fu_at (by omega) (fu_at (by omega) (fu_at (by omega) (fu_at (by omega) (fu_at (by omega) (fu_at (by omega) (fu_at (by omega) (fu_at (by omega) (fu_at (by omega) (fu_at (by omega) (fu_at (by omega) (fu_at (by omega) (fu_at (by omega) (fu_at (by omega) (fu_at (by omega) (fu_at (by omega) (fu_at (by omega) (fu_at (by omega) (fu_at (by omega) (fu_at (by omega) (fu_at (by omega) (fu_at (by omega) (fu_at (by omega) (fu_at (by omega) (fu_at (by omega) (fu_at (by omega) (fu_at (by omega) (fu_at (by omega) (fblk_sk 8 rfl (by omega) (fu_at (by omega) (fu_at (by omega) (fu_at (by omega) (fu_at (by omega) (fu_at (by omega) (fu_at (by omega) (fu_at (by omega) (fu_at (by omega) (fu_at (by omega) (fu_at (by omega) (fu_at (by omega) (fu_at (by omega) (fu_at (by omega) fu_s))))))))))))))))))))))))))))))))))))))))))))))))))))))))
                                    · exact (fu_at (by omega) (fu_at (by omega) (fu_at (by omega) (fu_at (by omega) (fu_at (by omega) (fu_at (by omega) (fu_at (by omega) (fu_at (by omega) (fu_at (by omega) (fu_at (by omega) (fu_at (by omega) (fu_at (by omega) (fu_at (by omega) (fu_at (by omega) (fu_at (by omega) (fu_at (by omega) (fu_at (by omega) (fu_at (by omega) (fu_at (by omega) (fu_at (by omega) (fu_at (by omega) (fu_at (by omega) (fu_at (by omega) (fu_at (by omega) (fu_at (by omega) (fu_at (by omega) (fu_at (by omega) (fu_at (by omega) (fu_at (by omega) (fu_at (by omega) (fu_at (by omega) (fu_at (by omega) (fu_at (by omega) (fu_at (by omega) (fu_at (by omega) (fu_at (by omega) (fu_at (by omega) (fu_at (by omega) (fu_at (by omega) (fu_at (by omega) (fu_at (by omega) (fu_at (by omega) (fblk_sk 8 rfl (by omega) (fu_at (by omega) (fu_at (by omega) (fu_at (by omega) (fu_at (by omega) (fu_at (by omega) (fu_at (by omega) (fu_at (by omega) (fu_at (by omega) (fu_at (by omega) (fu_at (by omega) (fu_at (by omega) (fu_at (by omega) (fu_at (by omega) (fu_at (by omega) (fu_at (by omega) h)))))))))))))))))))))))))))))))))))))))))))))))))))))))))))
  exact fx_iret S hr hlocks () hG (rfl) dX10_diff_190
