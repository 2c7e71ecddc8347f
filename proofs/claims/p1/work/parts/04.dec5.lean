theorem dL_subtreeSize_2 : decode cL_subtreeSize 2 = .ok (.aload_n 0, 1) := by decide +kernel
theorem dL_subtreeSize_3 : decode cL_subtreeSize 3 = .ok (.iload_n 1, 1) := by decide +kernel
theorem dL_subtreeSize_4 : decode cL_subtreeSize 4 = .ok (.iload_n 2, 1) := by decide +kernel
theorem dL_subtreeSize_5 : decode cL_subtreeSize 5 = .ok (.invokevirtual 82, 3) := by decide +kernel
theorem dL_subtreeSize_8 : decode cL_subtreeSize 8 = .ok (.i2l, 1) := by decide +kernel
theorem dL_subtreeSize_9 : decode cL_subtreeSize 9 = .ok (.lastore, 1) := by decide +kernel
theorem dL_subtreeSize_10 : decode cL_subtreeSize 10 = .ok (.goto 7, 3) := by decide +kernel
theorem dL_subtreeSize_13 : decode cL_subtreeSize 13 = .ok (.astore 4, 2) := by decide +kernel
theorem dL_subtreeSize_15 : decode cL_subtreeSize 15 = .ok (.iconst 1, 1) := by decide +kernel
theorem dL_subtreeSize_16 : decode cL_subtreeSize 16 = .ok (.ireturn, 1) := by decide +kernel
theorem dL_subtreeSize_17 : decode cL_subtreeSize 17 = .ok (.iconst 0, 1) := by decide +kernel
theorem dL_subtreeSize_18 : decode cL_subtreeSize 18 = .ok (.ireturn, 1) := by decide +kernel
set_option maxRecDepth 20000 in
theorem ggL_subtreeHash_X7_subtreeHash : GoodIn wsL_subtreeHash wsX7_subtreeHash := goodIn_ca (goodIn_r _ [6, 7, 8, 9, 5, 10, 11, 12, 13, 14, 15, 16, 17, 18, 19, 20, 21, 22, 23, 24, 25, 26, 27, 28, 29, 30, 31, 32, 33, 34, 35, 36, 37, 38, 39, 40, 41, 42, 43, 44, 45, 46, 47, 48, 49, 50, 51, 52, 53, 54, 55, 56, 57, 58, 59, 60, 61] (by decide +kernel) (by decide +kernel)) (goodIn_sub (fun _ h => List.mem_cons_of_mem _ (List.mem_append_right _ h)) (by decide +kernel))
set_option maxRecDepth 20000 in
theorem gL_subtreeHash_X7_subtreeHash : GoodIn wsL_subtreeHash (wsV RL 85 RX7 yX7_subtreeHash wsX7_subtreeHash) := goodIn_app (goodIn_of _ (by decide +kernel)) ggL_subtreeHash_X7_subtreeHash
theorem dL_subtreeHash_0 : decode cL_subtreeHash 0 = .ok (.aload_n 3, 1) := by decide +kernel
theorem dL_subtreeHash_1 : decode cL_subtreeHash 1 = .ok (.iconst 0, 1) := by decide +kernel
theorem dL_subtreeHash_2 : decode cL_subtreeHash 2 = .ok (.aload_n 0, 1) := by decide +kernel
theorem dL_subtreeHash_3 : decode cL_subtreeHash 3 = .ok (.iload_n 1, 1) := by decide +kernel
theorem dL_subtreeHash_4 : decode cL_subtreeHash 4 = .ok (.iload_n 2, 1) := by decide +kernel
theorem dL_subtreeHash_5 : decode cL_subtreeHash 5 = .ok (.invokevirtual 85, 3) := by decide +kernel
theorem dL_subtreeHash_8 : decode cL_subtreeHash 8 = .ok (.i2l, 1) := by decide +kernel
theorem dL_subtreeHash_9 : decode cL_subtreeHash 9 = .ok (.lastore, 1) := by decide +kernel
theorem dL_subtreeHash_10 : decode cL_subtreeHash 10 = .ok (.goto 7, 3) := by decide +kernel
theorem dL_subtreeHash_13 : decode cL_subtreeHash 13 = .ok (.astore 4, 2) := by decide +kernel
theorem dL_subtreeHash_15 : decode cL_subtreeHash 15 = .ok (.iconst 1, 1) := by decide +kernel
theorem dL_subtreeHash_16 : decode cL_subtreeHash 16 = .ok (.ireturn, 1) := by decide +kernel
theorem dL_subtreeHash_17 : decode cL_subtreeHash 17 = .ok (.iconst 0, 1) := by decide +kernel
theorem dL_subtreeHash_18 : decode cL_subtreeHash 18 = .ok (.ireturn, 1) := by decide +kernel
set_option maxRecDepth 20000 in
theorem ggL_areEqual_X7_areEqual : GoodIn wsL_areEqual wsX7_areEqual := goodIn_ca (goodIn_r _ [6, 7, 8, 9, 5, 10, 11, 12, 13, 14, 15, 16, 17, 18, 19, 20, 21, 22, 23, 24, 25, 26, 27, 28, 29, 30, 31, 32, 33, 34, 35, 36, 37, 38, 39, 40, 41, 42, 43, 44, 45, 46, 47, 48, 49, 50, 51, 52, 53, 54, 55, 56] (by decide +kernel) (by decide +kernel)) (goodIn_sub (fun _ h => List.mem_cons_of_mem _ (List.mem_append_right _ h)) (by decide +kernel))
set_option maxRecDepth 20000 in
theorem gL_areEqual_X7_areEqual : GoodIn wsL_areEqual (wsV RL 88 RX7 yX7_areEqual wsX7_areEqual) := goodIn_app (goodIn_of _ (by decide +kernel)) ggL_areEqual_X7_areEqual
theorem dL_areEqual_0 : decode cL_areEqual 0 = .ok (.aload 5, 2) := by decide +kernel
theorem dL_areEqual_2 : decode cL_areEqual 2 = .ok (.iconst 0, 1) := by decide +kernel
theorem dL_areEqual_3 : decode cL_areEqual 3 = .ok (.aload_n 0, 1) := by decide +kernel
theorem dL_areEqual_4 : decode cL_areEqual 4 = .ok (.iload_n 1, 1) := by decide +kernel
theorem dL_areEqual_5 : decode cL_areEqual 5 = .ok (.iload_n 2, 1) := by decide +kernel
theorem dL_areEqual_6 : decode cL_areEqual 6 = .ok (.iload_n 3, 1) := by decide +kernel
theorem dL_areEqual_7 : decode cL_areEqual 7 = .ok (.iload 4, 2) := by decide +kernel
theorem dL_areEqual_9 : decode cL_areEqual 9 = .ok (.invokevirtual 88, 3) := by decide +kernel
theorem dL_areEqual_12 : decode cL_areEqual 12 = .ok (.ifCond .eq 7, 3) := by decide +kernel
theorem dL_areEqual_15 : decode cL_areEqual 15 = .ok (.lconst 1, 1) := by decide +kernel
theorem dL_areEqual_16 : decode cL_areEqual 16 = .ok (.goto 4, 3) := by decide +kernel
theorem dL_areEqual_19 : decode cL_areEqual 19 = .ok (.lconst 0, 1) := by decide +kernel
theorem dL_areEqual_20 : decode cL_areEqual 20 = .ok (.lastore, 1) := by decide +kernel
theorem dL_areEqual_21 : decode cL_areEqual 21 = .ok (.goto 7, 3) := by decide +kernel
theorem dL_areEqual_24 : decode cL_areEqual 24 = .ok (.astore 6, 2) := by decide +kernel
theorem dL_areEqual_26 : decode cL_areEqual 26 = .ok (.iconst 1, 1) := by decide +kernel
theorem dL_areEqual_27 : decode cL_areEqual 27 = .ok (.ireturn, 1) := by decide +kernel
theorem dL_areEqual_28 : decode cL_areEqual 28 = .ok (.iconst 0, 1) := by decide +kernel
theorem dL_areEqual_29 : decode cL_areEqual 29 = .ok (.ireturn, 1) := by decide +kernel
set_option maxRecDepth 20000 in
theorem ggL_twin_X7_twin : GoodIn wsL_twin wsX7_twin := goodIn_ca (goodIn_ca (goodIn_r _ [7, 8, 9, 10, 11, 12, 13, 6, 14, 15, 16, 17, 18, 19, 20, 21, 22, 23, 24, 25, 26, 27, 28, 29, 30, 31, 32, 33, 34, 35, 36, 37, 38, 39, 40, 41, 42, 43, 44, 45, 46, 47, 48, 49, 50, 51, 52, 53, 54, 55, 56, 57, 58, 59, 60] (by decide +kernel) (by decide +kernel)) (goodIn_sub (fun _ h => List.mem_cons_of_mem _ (List.mem_append_left _ (List.mem_append_right _ h))) (by decide +kernel))) (goodIn_sub (fun _ h => List.mem_cons_of_mem _ (List.mem_append_right _ h)) (by decide +kernel))
set_option maxRecDepth 20000 in
theorem gL_twin_X7_twin : GoodIn wsL_twin (wsV RL 92 RX7 yX7_twin wsX7_twin) := goodIn_app (goodIn_of _ (by decide +kernel)) ggL_twin_X7_twin
theorem dL_twin_0 : decode cL_twin 0 = .ok (.aload 4, 2) := by decide +kernel
theorem dL_twin_2 : decode cL_twin 2 = .ok (.iconst 0, 1) := by decide +kernel
theorem dL_twin_3 : decode cL_twin 3 = .ok (.aload_n 0, 1) := by decide +kernel
theorem dL_twin_4 : decode cL_twin 4 = .ok (.iload_n 1, 1) := by decide +kernel
theorem dL_twin_5 : decode cL_twin 5 = .ok (.iload_n 2, 1) := by decide +kernel
theorem dL_twin_6 : decode cL_twin 6 = .ok (.iload_n 3, 1) := by decide +kernel
theorem dL_twin_7 : decode cL_twin 7 = .ok (.invokevirtual 92, 3) := by decide +kernel
theorem dL_twin_10 : decode cL_twin 10 = .ok (.i2l, 1) := by decide +kernel
theorem dL_twin_11 : decode cL_twin 11 = .ok (.lastore, 1) := by decide +kernel
theorem dL_twin_12 : decode cL_twin 12 = .ok (.goto 11, 3) := by decide +kernel
theorem dL_twin_15 : decode cL_twin 15 = .ok (.astore 5, 2) := by decide +kernel
theorem dL_twin_17 : decode cL_twin 17 = .ok (.iconst 1, 1) := by decide +kernel
theorem dL_twin_18 : decode cL_twin 18 = .ok (.ireturn, 1) := by decide +kernel
theorem dL_twin_19 : decode cL_twin 19 = .ok (.astore 5, 2) := by decide +kernel
theorem dL_twin_21 : decode cL_twin 21 = .ok (.iconst 2, 1) := by decide +kernel
theorem dL_twin_22 : decode cL_twin 22 = .ok (.ireturn, 1) := by decide +kernel
theorem dL_twin_23 : decode cL_twin 23 = .ok (.iconst 0, 1) := by decide +kernel
theorem dL_twin_24 : decode cL_twin 24 = .ok (.ireturn, 1) := by decide +kernel
set_option maxRecDepth 20000 in
theorem ggL_shapeTwin_X7_shapeTwin : GoodIn wsL_shapeTwin wsX7_shapeTwin := goodIn_ca (goodIn_ca (goodIn_r _ [7, 8, 9, 10, 11, 12, 13, 6, 14, 15, 16, 17, 18, 19, 20, 21, 22, 23, 24, 25, 26, 27, 28, 29, 30, 31, 32, 33, 34, 35, 36, 37, 38, 39, 40, 41, 42, 43, 44, 45, 46, 47, 48, 49, 50, 51, 52, 53] (by decide +kernel) (by decide +kernel)) (goodIn_sub (fun _ h => List.mem_cons_of_mem _ (List.mem_append_left _ (List.mem_append_right _ h))) (by decide +kernel))) (goodIn_sub (fun _ h => List.mem_cons_of_mem _ (List.mem_append_right _ h)) (by decide +kernel))
set_option maxRecDepth 20000 in
theorem gL_shapeTwin_X7_shapeTwin : GoodIn wsL_shapeTwin (wsV RL 95 RX7 yX7_shapeTwin wsX7_shapeTwin) := goodIn_app (goodIn_of _ (by decide +kernel)) ggL_shapeTwin_X7_shapeTwin
theorem dL_shapeTwin_0 : decode cL_shapeTwin 0 = .ok (.aload 4, 2) := by decide +kernel
theorem dL_shapeTwin_2 : decode cL_shapeTwin 2 = .ok (.iconst 0, 1) := by decide +kernel
theorem dL_shapeTwin_3 : decode cL_shapeTwin 3 = .ok (.aload_n 0, 1) := by decide +kernel
theorem dL_shapeTwin_4 : decode cL_shapeTwin 4 = .ok (.iload_n 1, 1) := by decide +kernel
theorem dL_shapeTwin_5 : decode cL_shapeTwin 5 = .ok (.iload_n 2, 1) := by decide +kernel
theorem dL_shapeTwin_6 : decode cL_shapeTwin 6 = .ok (.iload_n 3, 1) := by decide +kernel
theorem dL_shapeTwin_7 : decode cL_shapeTwin 7 = .ok (.invokevirtual 95, 3) := by decide +kernel
theorem dL_shapeTwin_10 : decode cL_shapeTwin 10 = .ok (.i2l, 1) := by decide +kernel
theorem dL_shapeTwin_11 : decode cL_shapeTwin 11 = .ok (.lastore, 1) := by decide +kernel
theorem dL_shapeTwin_12 : decode cL_shapeTwin 12 = .ok (.goto 11, 3) := by decide +kernel
theorem dL_shapeTwin_15 : decode cL_shapeTwin 15 = .ok (.astore 5, 2) := by decide +kernel
theorem dL_shapeTwin_17 : decode cL_shapeTwin 17 = .ok (.iconst 1, 1) := by decide +kernel
theorem dL_shapeTwin_18 : decode cL_shapeTwin 18 = .ok (.ireturn, 1) := by decide +kernel
theorem dL_shapeTwin_19 : decode cL_shapeTwin 19 = .ok (.astore 5, 2) := by decide +kernel
theorem dL_shapeTwin_21 : decode cL_shapeTwin 21 = .ok (.iconst 2, 1) := by decide +kernel
theorem dL_shapeTwin_22 : decode cL_shapeTwin 22 = .ok (.ireturn, 1) := by decide +kernel
theorem dL_shapeTwin_23 : decode cL_shapeTwin 23 = .ok (.iconst 0, 1) := by decide +kernel
theorem dL_shapeTwin_24 : decode cL_shapeTwin 24 = .ok (.ireturn, 1) := by decide +kernel
set_option maxRecDepth 20000 in
theorem ggL_distance_X7_distance : GoodIn wsL_distance wsX7_distance := goodIn_ca (goodIn_r _ [6, 7, 8, 9, 10, 5, 11, 12, 13, 14, 15, 16, 17, 18, 19, 20, 21, 22, 23, 24, 25, 26, 27, 28, 29, 30, 31, 32, 33, 34, 35, 36, 37, 38, 39, 40, 41, 42, 43, 44, 45, 46, 47, 48, 49, 50, 51, 52, 53, 54, 55, 56, 57, 58, 59, 60, 61, 62, 63, 64, 65, 66, 67, 68, 69, 70, 71, 72, 73, 74, 75, 76, 77, 78, 79, 80, 81, 82, 83, 84, 85, 86, 87, 88, 89, 90, 91, 92, 93, 94, 95, 96, 97, 98, 99, 100, 101, 102, 103] (by decide +kernel) (by decide +kernel)) (goodIn_sub (fun _ h => List.mem_cons_of_mem _ (List.mem_append_right _ h)) (by decide +kernel))
set_option maxRecDepth 20000 in
theorem gL_distance_X7_distance : GoodIn wsL_distance (wsV RL 98 RX7 yX7_distance wsX7_distance) := goodIn_app (goodIn_of _ (by decide +kernel)) ggL_distance_X7_distance
theorem dL_distance_0 : decode cL_distance 0 = .ok (.aload_n 3, 1) := by decide +kernel
theorem dL_distance_1 : decode cL_distance 1 = .ok (.iconst 0, 1) := by decide +kernel
theorem dL_distance_2 : decode cL_distance 2 = .ok (.aload_n 0, 1) := by decide +kernel
theorem dL_distance_3 : decode cL_distance 3 = .ok (.iload_n 1, 1) := by decide +kernel
theorem dL_distance_4 : decode cL_distance 4 = .ok (.iload_n 2, 1) := by decide +kernel
theorem dL_distance_5 : decode cL_distance 5 = .ok (.invokevirtual 98, 3) := by decide +kernel
theorem dL_distance_8 : decode cL_distance 8 = .ok (.i2l, 1) := by decide +kernel
theorem dL_distance_9 : decode cL_distance 9 = .ok (.lastore, 1) := by decide +kernel
theorem dL_distance_10 : decode cL_distance 10 = .ok (.goto 7, 3) := by decide +kernel
theorem dL_distance_13 : decode cL_distance 13 = .ok (.astore 4, 2) := by decide +kernel
theorem dL_distance_15 : decode cL_distance 15 = .ok (.iconst 1, 1) := by decide +kernel
theorem dL_distance_16 : decode cL_distance 16 = .ok (.ireturn, 1) := by decide +kernel
theorem dL_distance_17 : decode cL_distance 17 = .ok (.iconst 0, 1) := by decide +kernel
theorem dL_distance_18 : decode cL_distance 18 = .ok (.ireturn, 1) := by decide +kernel
set_option maxRecDepth 20000 in
theorem ggL_distanceByMatchings_X7_distanceByMatchings : GoodIn wsL_distanceByMatchings wsX7_distanceByMatchings := goodIn_ca (goodIn_ca (goodIn_r _ [7, 8, 9, 10, 11, 12, 13, 14, 6, 15, 16, 17, 18, 19, 20, 21, 22, 23, 24, 25, 26, 27, 28, 29, 30, 31, 32, 33, 34, 35, 36, 37, 38, 39, 40, 41, 42, 43, 44, 45, 46, 47, 48, 49, 50, 51, 52, 53, 54, 55, 56, 57, 58, 59, 60, 61, 62, 63, 64, 65, 66, 67, 68] (by decide +kernel) (by decide +kernel)) (goodIn_sub (fun _ h => List.mem_cons_of_mem _ (List.mem_append_left _ (List.mem_append_right _ h))) (by decide +kernel))) (goodIn_sub (fun _ h => List.mem_cons_of_mem _ (List.mem_append_right _ h)) (by decide +kernel))
set_option maxRecDepth 20000 in
theorem gL_distanceByMatchings_X7_distanceByMatchings : GoodIn wsL_distanceByMatchings (wsV RL 101 RX7 yX7_distanceByMatchings wsX7_distanceByMatchings) := goodIn_app (goodIn_of _ (by decide +kernel)) ggL_distanceByMatchings_X7_distanceByMatchings
theorem dL_distanceByMatchings_0 : decode cL_distanceByMatchings 0 = .ok (.aload_n 3, 1) := by decide +kernel
theorem dL_distanceByMatchings_1 : decode cL_distanceByMatchings 1 = .ok (.iconst 0, 1) := by decide +kernel
theorem dL_distanceByMatchings_2 : decode cL_distanceByMatchings 2 = .ok (.aload_n 0, 1) := by decide +kernel
theorem dL_distanceByMatchings_3 : decode cL_distanceByMatchings 3 = .ok (.iload_n 1, 1) := by decide +kernel
theorem dL_distanceByMatchings_4 : decode cL_distanceByMatchings 4 = .ok (.iload_n 2, 1) := by decide +kernel
theorem dL_distanceByMatchings_5 : decode cL_distanceByMatchings 5 = .ok (.invokevirtual 101, 3) := by decide +kernel
theorem dL_distanceByMatchings_8 : decode cL_distanceByMatchings 8 = .ok (.i2l, 1) := by decide +kernel
theorem dL_distanceByMatchings_9 : decode cL_distanceByMatchings 9 = .ok (.lastore, 1) := by decide +kernel
theorem dL_distanceByMatchings_10 : decode cL_distanceByMatchings 10 = .ok (.goto 11, 3) := by decide +kernel
theorem dL_distanceByMatchings_13 : decode cL_distanceByMatchings 13 = .ok (.astore 4, 2) := by decide +kernel
theorem dL_distanceByMatchings_15 : decode cL_distanceByMatchings 15 = .ok (.iconst 1, 1) := by decide +kernel
theorem dL_distanceByMatchings_16 : decode cL_distanceByMatchings 16 = .ok (.ireturn, 1) := by decide +kernel
theorem dL_distanceByMatchings_17 : decode cL_distanceByMatchings 17 = .ok (.astore 4, 2) := by decide +kernel
theorem dL_distanceByMatchings_19 : decode cL_distanceByMatchings 19 = .ok (.iconst 2, 1) := by decide +kernel
theorem dL_distanceByMatchings_20 : decode cL_distanceByMatchings 20 = .ok (.ireturn, 1) := by decide +kernel
theorem dL_distanceByMatchings_21 : decode cL_distanceByMatchings 21 = .ok (.iconst 0, 1) := by decide +kernel
theorem dL_distanceByMatchings_22 : decode cL_distanceByMatchings 22 = .ok (.ireturn, 1) := by decide +kernel
set_option maxRecDepth 20000 in
theorem ggL_similarity_X7_similarity : GoodIn wsL_similarity wsX7_similarity := goodIn_ca (goodIn_r _ [6, 7, 8, 9, 10, 11, 5, 12, 13, 14, 15, 16, 17, 18, 19, 20, 21, 22, 23, 24, 25, 26, 27, 28, 29, 30, 31, 32, 33, 34, 35, 36, 37, 38, 39, 40, 41, 42, 43, 44, 45, 46, 47, 48, 49, 50, 51, 52, 53, 54, 55, 56, 57, 58, 59, 60, 61, 62, 63, 64, 65, 66, 67, 68, 69, 70, 71, 72, 73, 74, 75, 76, 77, 78, 79, 80, 81, 82, 83, 84, 85, 86, 87, 88, 89, 90, 91, 92, 93, 94, 95, 96, 97, 98, 99, 100, 101, 102, 103, 104] (by decide +kernel) (by decide +kernel)) (goodIn_sub (fun _ h => List.mem_cons_of_mem _ (List.mem_append_right _ h)) (by decide +kernel))
set_option maxRecDepth 20000 in
theorem gL_similarity_X7_similarity : GoodIn wsL_similarity (wsV RL 104 RX7 yX7_similarity wsX7_similarity) := goodIn_app (goodIn_of _ (by decide +kernel)) ggL_similarity_X7_similarity
theorem dL_similarity_0 : decode cL_similarity 0 = .ok (.aload_n 3, 1) := by decide +kernel
theorem dL_similarity_1 : decode cL_similarity 1 = .ok (.iconst 0, 1) := by decide +kernel
theorem dL_similarity_2 : decode cL_similarity 2 = .ok (.aload_n 0, 1) := by decide +kernel
theorem dL_similarity_3 : decode cL_similarity 3 = .ok (.iload_n 1, 1) := by decide +kernel
theorem dL_similarity_4 : decode cL_similarity 4 = .ok (.iload_n 2, 1) := by decide +kernel
theorem dL_similarity_5 : decode cL_similarity 5 = .ok (.invokevirtual 104, 3) := by decide +kernel
theorem dL_similarity_8 : decode cL_similarity 8 = .ok (.dastore, 1) := by decide +kernel
theorem dL_similarity_9 : decode cL_similarity 9 = .ok (.goto 7, 3) := by decide +kernel
theorem dL_similarity_12 : decode cL_similarity 12 = .ok (.astore 4, 2) := by decide +kernel
theorem dL_similarity_14 : decode cL_similarity 14 = .ok (.iconst 1, 1) := by decide +kernel
theorem dL_similarity_15 : decode cL_similarity 15 = .ok (.ireturn, 1) := by decide +kernel
theorem dL_similarity_16 : decode cL_similarity 16 = .ok (.iconst 0, 1) := by decide +kernel
theorem dL_similarity_17 : decode cL_similarity 17 = .ok (.ireturn, 1) := by decide +kernel
set_option maxRecDepth 20000 in
theorem ggL_diff_X7_diff : GoodIn wsL_diff wsX7_diff := goodIn_ca (goodIn_r _ [6, 7, 8, 9, 10, 11, 12, 5, 13, 14, 15, 16, 17, 18, 19, 20, 21, 22, 23, 24, 25, 26, 27, 28, 29, 30, 31, 32, 33, 34, 35, 36, 37, 38, 39, 40, 41, 42, 43, 44, 45, 46, 47, 48, 49, 50, 51, 52, 53, 54, 55, 56, 57, 58, 59, 60, 61, 62, 63, 64, 65, 66, 67, 68, 69, 70, 71, 72, 73, 74, 75, 76, 77, 78, 79, 80, 81, 82, 83, 84, 85, 86, 87, 88, 89, 90, 91, 92, 93, 94, 95, 96, 97, 98, 99, 100, 101, 102, 103, 104, 105, 106, 107, 108, 109, 110, 111, 112, 113, 114, 115, 116, 117, 118, 119, 120, 121, 122, 123, 124, 125, 126, 127, 128, 129, 130, 131, 132, 133, 134, 135, 136, 137, 138, 139, 140, 141, 142, 143, 144, 145, 146, 147, 148, 149, 150, 151, 152, 153, 154, 155, 156, 157, 158, 159, 160, 161, 162, 163, 164, 165, 166, 167, 168, 169, 170, 171, 172, 173, 174, 175, 176, 177, 178, 179, 180, 181, 182, 183, 184, 185, 186, 187, 188, 189, 190, 191, 192, 193, 194, 195, 196, 197, 198, 199, 200, 201, 202, 203, 204, 205, 206, 207] (by decide +kernel) (by decide +kernel)) (goodIn_sub (fun _ h => List.mem_cons_of_mem _ (List.mem_append_right _ h)) (by decide +kernel))
set_option maxRecDepth 20000 in
theorem gL_diff_X7_diff : GoodIn wsL_diff (wsV RL 108 RX7 yX7_diff wsX7_diff) := goodIn_app (goodIn_of _ (by decide +kernel)) ggL_diff_X7_diff
theorem dL_diff_0 : decode cL_diff 0 = .ok (.aload_n 3, 1) := by decide +kernel
theorem dL_diff_1 : decode cL_diff 1 = .ok (.iconst 0, 1) := by decide +kernel
theorem dL_diff_2 : decode cL_diff 2 = .ok (.aload_n 0, 1) := by decide +kernel
theorem dL_diff_3 : decode cL_diff 3 = .ok (.iload_n 1, 1) := by decide +kernel
theorem dL_diff_4 : decode cL_diff 4 = .ok (.iload_n 2, 1) := by decide +kernel
theorem dL_diff_5 : decode cL_diff 5 = .ok (.invokevirtual 108, 3) := by decide +kernel
theorem dL_diff_8 : decode cL_diff 8 = .ok (.i2l, 1) := by decide +kernel
theorem dL_diff_9 : decode cL_diff 9 = .ok (.lastore, 1) := by decide +kernel
theorem dL_diff_10 : decode cL_diff 10 = .ok (.goto 7, 3) := by decide +kernel
theorem dL_diff_13 : decode cL_diff 13 = .ok (.astore 4, 2) := by decide +kernel
theorem dL_diff_15 : decode cL_diff 15 = .ok (.iconst 1, 1) := by decide +kernel
theorem dL_diff_16 : decode cL_diff 16 = .ok (.ireturn, 1) := by decide +kernel
theorem dL_diff_17 : decode cL_diff 17 = .ok (.iconst 0, 1) := by decide +kernel
theorem dL_diff_18 : decode cL_diff 18 = .ok (.ireturn, 1) := by decide +kernel
set_option maxRecDepth 20000 in
theorem ggL_operations_X7_operations : GoodIn wsL_operations wsX7_operations := goodIn_ca (goodIn_r _ [6, 7, 8, 9, 10, 11, 5, 12, 13, 14, 15, 16, 17, 18, 19, 20, 21, 22, 23, 24, 25, 26, 27, 28, 29, 30, 31, 32, 33, 34] (by decide +kernel) (by decide +kernel)) (goodIn_sub (fun _ h => List.mem_cons_of_mem _ (List.mem_append_right _ h)) (by decide +kernel))
set_option maxRecDepth 20000 in
theorem gL_operations_X7_operations : GoodIn wsL_operations (wsV RL 111 RX7 yX7_operations wsX7_operations) := goodIn_app (goodIn_of _ (by decide +kernel)) ggL_operations_X7_operations
theorem dL_operations_0 : decode cL_operations 0 = .ok (.aload_n 1, 1) := by decide +kernel
theorem dL_operations_1 : decode cL_operations 1 = .ok (.iconst 0, 1) := by decide +kernel
theorem dL_operations_2 : decode cL_operations 2 = .ok (.aload_n 0, 1) := by decide +kernel
theorem dL_operations_3 : decode cL_operations 3 = .ok (.invokevirtual 111, 3) := by decide +kernel
theorem dL_operations_6 : decode cL_operations 6 = .ok (.i2l, 1) := by decide +kernel
theorem dL_operations_7 : decode cL_operations 7 = .ok (.lastore, 1) := by decide +kernel
theorem dL_operations_8 : decode cL_operations 8 = .ok (.goto 6, 3) := by decide +kernel
theorem dL_operations_11 : decode cL_operations 11 = .ok (.astore_n 2, 1) := by decide +kernel
theorem dL_operations_12 : decode cL_operations 12 = .ok (.iconst 1, 1) := by decide +kernel
theorem dL_operations_13 : decode cL_operations 13 = .ok (.ireturn, 1) := by decide +kernel
theorem dL_operations_14 : decode cL_operations 14 = .ok (.iconst 0, 1) := by decide +kernel
theorem dL_operations_15 : decode cL_operations 15 = .ok (.ireturn, 1) := by decide +kernel
set_option maxRecDepth 20000 in
theorem ggL_opKind_X7_opKind : GoodIn wsL_opKind wsX7_opKind := goodIn_ca (goodIn_ca (goodIn_r _ [7, 8, 9, 10, 11, 12, 6, 13, 14, 15, 16, 17, 18, 19, 20, 21, 22, 23, 24, 25, 26, 27, 28, 29, 30, 31, 32, 33, 34, 35, 36, 37, 38, 39, 40, 41, 42] (by decide +kernel) (by decide +kernel)) (goodIn_sub (fun _ h => List.mem_cons_of_mem _ (List.mem_append_left _ (List.mem_append_right _ h))) (by decide +kernel))) (goodIn_sub (fun _ h => List.mem_cons_of_mem _ (List.mem_append_right _ h)) (by decide +kernel))
set_option maxRecDepth 20000 in
theorem gL_opKind_X7_opKind : GoodIn wsL_opKind (wsV RL 114 RX7 yX7_opKind wsX7_opKind) := goodIn_app (goodIn_of _ (by decide +kernel)) ggL_opKind_X7_opKind
theorem dL_opKind_0 : decode cL_opKind 0 = .ok (.aload_n 2, 1) := by decide +kernel
theorem dL_opKind_1 : decode cL_opKind 1 = .ok (.iconst 0, 1) := by decide +kernel
theorem dL_opKind_2 : decode cL_opKind 2 = .ok (.aload_n 0, 1) := by decide +kernel
theorem dL_opKind_3 : decode cL_opKind 3 = .ok (.iload_n 1, 1) := by decide +kernel
theorem dL_opKind_4 : decode cL_opKind 4 = .ok (.invokevirtual 114, 3) := by decide +kernel
theorem dL_opKind_7 : decode cL_opKind 7 = .ok (.i2l, 1) := by decide +kernel
theorem dL_opKind_8 : decode cL_opKind 8 = .ok (.lastore, 1) := by decide +kernel
theorem dL_opKind_9 : decode cL_opKind 9 = .ok (.goto 9, 3) := by decide +kernel
theorem dL_opKind_12 : decode cL_opKind 12 = .ok (.astore_n 3, 1) := by decide +kernel
theorem dL_opKind_13 : decode cL_opKind 13 = .ok (.iconst 1, 1) := by decide +kernel
theorem dL_opKind_14 : decode cL_opKind 14 = .ok (.ireturn, 1) := by decide +kernel
theorem dL_opKind_15 : decode cL_opKind 15 = .ok (.astore_n 3, 1) := by decide +kernel
theorem dL_opKind_16 : decode cL_opKind 16 = .ok (.iconst 2, 1) := by decide +kernel
theorem dL_opKind_17 : decode cL_opKind 17 = .ok (.ireturn, 1) := by decide +kernel
theorem dL_opKind_18 : decode cL_opKind 18 = .ok (.iconst 0, 1) := by decide +kernel
theorem dL_opKind_19 : decode cL_opKind 19 = .ok (.ireturn, 1) := by decide +kernel
set_option maxRecDepth 20000 in
theorem ggL_opNode_X7_opNode : GoodIn wsL_opNode wsX7_opNode := goodIn_ca (goodIn_ca (goodIn_r _ [7, 8, 9, 10, 11, 6, 12, 13, 14, 15, 16, 17, 18, 19, 20, 21, 22, 23, 24, 25, 26, 27, 28, 29, 30, 31, 32, 33, 34, 35, 36, 37, 38, 39, 40, 41, 42, 43, 44, 45, 46, 47, 48, 49] (by decide +kernel) (by decide +kernel)) (goodIn_sub (fun _ h => List.mem_cons_of_mem _ (List.mem_append_left _ (List.mem_append_right _ h))) (by decide +kernel))) (goodIn_sub (fun _ h => List.mem_cons_of_mem _ (List.mem_append_right _ h)) (by decide +kernel))
set_option maxRecDepth 20000 in
theorem gL_opNode_X7_opNode : GoodIn wsL_opNode (wsV RL 117 RX7 yX7_opNode wsX7_opNode) := goodIn_app (goodIn_of _ (by decide +kernel)) ggL_opNode_X7_opNode
theorem dL_opNode_0 : decode cL_opNode 0 = .ok (.aload_n 2, 1) := by decide +kernel
theorem dL_opNode_1 : decode cL_opNode 1 = .ok (.iconst 0, 1) := by decide +kernel
theorem dL_opNode_2 : decode cL_opNode 2 = .ok (.aload_n 0, 1) := by decide +kernel
theorem dL_opNode_3 : decode cL_opNode 3 = .ok (.iload_n 1, 1) := by decide +kernel
theorem dL_opNode_4 : decode cL_opNode 4 = .ok (.invokevirtual 117, 3) := by decide +kernel
theorem dL_opNode_7 : decode cL_opNode 7 = .ok (.i2l, 1) := by decide +kernel
theorem dL_opNode_8 : decode cL_opNode 8 = .ok (.lastore, 1) := by decide +kernel
theorem dL_opNode_9 : decode cL_opNode 9 = .ok (.goto 9, 3) := by decide +kernel
theorem dL_opNode_12 : decode cL_opNode 12 = .ok (.astore_n 3, 1) := by decide +kernel
theorem dL_opNode_13 : decode cL_opNode 13 = .ok (.iconst 1, 1) := by decide +kernel
theorem dL_opNode_14 : decode cL_opNode 14 = .ok (.ireturn, 1) := by decide +kernel
theorem dL_opNode_15 : decode cL_opNode 15 = .ok (.astore_n 3, 1) := by decide +kernel
theorem dL_opNode_16 : decode cL_opNode 16 = .ok (.iconst 2, 1) := by decide +kernel
theorem dL_opNode_17 : decode cL_opNode 17 = .ok (.ireturn, 1) := by decide +kernel
theorem dL_opNode_18 : decode cL_opNode 18 = .ok (.iconst 0, 1) := by decide +kernel
theorem dL_opNode_19 : decode cL_opNode 19 = .ok (.ireturn, 1) := by decide +kernel
set_option maxRecDepth 20000 in
theorem ggL_opTarget_X7_opTarget : GoodIn wsL_opTarget wsX7_opTarget := goodIn_ca (goodIn_ca (goodIn_ca (goodIn_r _ [8, 9, 10, 11, 12, 13, 14, 15, 16, 7, 17, 18, 19, 20, 21, 22, 23, 24, 25, 26, 27, 28, 29, 30, 31, 32, 33, 34, 35, 36, 37, 38, 39, 40, 41, 42, 43, 44, 45, 46] (by decide +kernel) (by decide +kernel)) (goodIn_sub (fun _ h => List.mem_cons_of_mem _ (List.mem_append_left _ (List.mem_append_left _ (List.mem_append_right _ h)))) (by decide +kernel))) (goodIn_sub (fun _ h => List.mem_cons_of_mem _ (List.mem_append_left _ (List.mem_append_right _ h))) (by decide +kernel))) (goodIn_sub (fun _ h => List.mem_cons_of_mem _ (List.mem_append_right _ h)) (by decide +kernel))
set_option maxRecDepth 20000 in
theorem gL_opTarget_X7_opTarget : GoodIn wsL_opTarget (wsV RL 120 RX7 yX7_opTarget wsX7_opTarget) := goodIn_app (goodIn_of _ (by decide +kernel)) ggL_opTarget_X7_opTarget
theorem dL_opTarget_0 : decode cL_opTarget 0 = .ok (.aload_n 2, 1) := by decide +kernel
theorem dL_opTarget_1 : decode cL_opTarget 1 = .ok (.iconst 0, 1) := by decide +kernel
theorem dL_opTarget_2 : decode cL_opTarget 2 = .ok (.aload_n 0, 1) := by decide +kernel
theorem dL_opTarget_3 : decode cL_opTarget 3 = .ok (.iload_n 1, 1) := by decide +kernel
theorem dL_opTarget_4 : decode cL_opTarget 4 = .ok (.invokevirtual 120, 3) := by decide +kernel
theorem dL_opTarget_7 : decode cL_opTarget 7 = .ok (.i2l, 1) := by decide +kernel
theorem dL_opTarget_8 : decode cL_opTarget 8 = .ok (.lastore, 1) := by decide +kernel
theorem dL_opTarget_9 : decode cL_opTarget 9 = .ok (.goto 12, 3) := by decide +kernel
theorem dL_opTarget_12 : decode cL_opTarget 12 = .ok (.astore_n 3, 1) := by decide +kernel
theorem dL_opTarget_13 : decode cL_opTarget 13 = .ok (.iconst 1, 1) := by decide +kernel
theorem dL_opTarget_14 : decode cL_opTarget 14 = .ok (.ireturn, 1) := by decide +kernel
theorem dL_opTarget_15 : decode cL_opTarget 15 = .ok (.astore_n 3, 1) := by decide +kernel
theorem dL_opTarget_16 : decode cL_opTarget 16 = .ok (.iconst 2, 1) := by decide +kernel
theorem dL_opTarget_17 : decode cL_opTarget 17 = .ok (.ireturn, 1) := by decide +kernel
theorem dL_opTarget_18 : decode cL_opTarget 18 = .ok (.astore_n 3, 1) := by decide +kernel
theorem dL_opTarget_19 : decode cL_opTarget 19 = .ok (.iconst 3, 1) := by decide +kernel
theorem dL_opTarget_20 : decode cL_opTarget 20 = .ok (.ireturn, 1) := by decide +kernel
theorem dL_opTarget_21 : decode cL_opTarget 21 = .ok (.iconst 0, 1) := by decide +kernel
theorem dL_opTarget_22 : decode cL_opTarget 22 = .ok (.ireturn, 1) := by decide +kernel
set_option maxRecDepth 20000 in
theorem ggL_partner_X7_partner : GoodIn wsL_partner wsX7_partner := goodIn_ca (goodIn_ca (goodIn_ca (goodIn_r _ [8, 9, 10, 11, 12, 13, 14, 15, 16, 17, 18, 7, 19, 20, 21, 22, 23, 24, 25, 26, 27, 28, 29, 30, 31, 32, 33, 34, 35, 36, 37, 38, 39, 40, 41, 42, 43, 44, 45, 46, 47, 48, 49, 50, 51, 52, 53, 54] (by decide +kernel) (by decide +kernel)) (goodIn_sub (fun _ h => List.mem_cons_of_mem _ (List.mem_append_left _ (List.mem_append_left _ (List.mem_append_right _ h)))) (by decide +kernel))) (goodIn_sub (fun _ h => List.mem_cons_of_mem _ (List.mem_append_left _ (List.mem_append_right _ h))) (by decide +kernel))) (goodIn_sub (fun _ h => List.mem_cons_of_mem _ (List.mem_append_right _ h)) (by decide +kernel))
set_option maxRecDepth 20000 in
theorem gL_partner_X7_partner : GoodIn wsL_partner (wsV RL 123 RX7 yX7_partner wsX7_partner) := goodIn_app (goodIn_of _ (by decide +kernel)) ggL_partner_X7_partner
theorem dL_partner_0 : decode cL_partner 0 = .ok (.aload_n 2, 1) := by decide +kernel
theorem dL_partner_1 : decode cL_partner 1 = .ok (.iconst 0, 1) := by decide +kernel
theorem dL_partner_2 : decode cL_partner 2 = .ok (.aload_n 0, 1) := by decide +kernel
theorem dL_partner_3 : decode cL_partner 3 = .ok (.iload_n 1, 1) := by decide +kernel
theorem dL_partner_4 : decode cL_partner 4 = .ok (.invokevirtual 123, 3) := by decide +kernel
theorem dL_partner_7 : decode cL_partner 7 = .ok (.i2l, 1) := by decide +kernel
theorem dL_partner_8 : decode cL_partner 8 = .ok (.lastore, 1) := by decide +kernel
theorem dL_partner_9 : decode cL_partner 9 = .ok (.goto 12, 3) := by decide +kernel
theorem dL_partner_12 : decode cL_partner 12 = .ok (.astore_n 3, 1) := by decide +kernel
theorem dL_partner_13 : decode cL_partner 13 = .ok (.iconst 1, 1) := by decide +kernel
theorem dL_partner_14 : decode cL_partner 14 = .ok (.ireturn, 1) := by decide +kernel
theorem dL_partner_15 : decode cL_partner 15 = .ok (.astore_n 3, 1) := by decide +kernel
theorem dL_partner_16 : decode cL_partner 16 = .ok (.iconst 2, 1) := by decide +kernel
theorem dL_partner_17 : decode cL_partner 17 = .ok (.ireturn, 1) := by decide +kernel
theorem dL_partner_18 : decode cL_partner 18 = .ok (.astore_n 3, 1) := by decide +kernel
theorem dL_partner_19 : decode cL_partner 19 = .ok (.iconst 3, 1) := by decide +kernel
theorem dL_partner_20 : decode cL_partner 20 = .ok (.ireturn, 1) := by decide +kernel
theorem dL_partner_21 : decode cL_partner 21 = .ok (.iconst 0, 1) := by decide +kernel
theorem dL_partner_22 : decode cL_partner 22 = .ok (.ireturn, 1) := by decide +kernel
set_option maxRecDepth 20000 in
theorem ggL_moves_X7_moves : GoodIn wsL_moves wsX7_moves := goodIn_ca (goodIn_r _ [6, 7, 8, 9, 10, 5, 11, 12, 13, 14, 15, 16, 17, 18, 19, 20, 21, 22, 23, 24, 25, 26, 27, 28, 29, 30, 31, 32, 33, 34, 35, 36, 37, 38, 39, 40] (by decide +kernel) (by decide +kernel)) (goodIn_sub (fun _ h => List.mem_cons_of_mem _ (List.mem_append_right _ h)) (by decide +kernel))
set_option maxRecDepth 20000 in
theorem gL_moves_X7_moves : GoodIn wsL_moves (wsV RL 126 RX7 yX7_moves wsX7_moves) := goodIn_app (goodIn_of _ (by decide +kernel)) ggL_moves_X7_moves
theorem dL_moves_0 : decode cL_moves 0 = .ok (.aload_n 1, 1) := by decide +kernel
theorem dL_moves_1 : decode cL_moves 1 = .ok (.iconst 0, 1) := by decide +kernel
theorem dL_moves_2 : decode cL_moves 2 = .ok (.aload_n 0, 1) := by decide +kernel
theorem dL_moves_3 : decode cL_moves 3 = .ok (.invokevirtual 126, 3) := by decide +kernel
theorem dL_moves_6 : decode cL_moves 6 = .ok (.i2l, 1) := by decide +kernel
theorem dL_moves_7 : decode cL_moves 7 = .ok (.lastore, 1) := by decide +kernel
theorem dL_moves_8 : decode cL_moves 8 = .ok (.goto 6, 3) := by decide +kernel
theorem dL_moves_11 : decode cL_moves 11 = .ok (.astore_n 2, 1) := by decide +kernel
theorem dL_moves_12 : decode cL_moves 12 = .ok (.iconst 1, 1) := by decide +kernel
theorem dL_moves_13 : decode cL_moves 13 = .ok (.ireturn, 1) := by decide +kernel
theorem dL_moves_14 : decode cL_moves 14 = .ok (.iconst 0, 1) := by decide +kernel
theorem dL_moves_15 : decode cL_moves 15 = .ok (.ireturn, 1) := by decide +kernel
set_option maxRecDepth 20000 in
theorem ggL_scriptCost_X7_scriptCost : GoodIn wsL_scriptCost wsX7_scriptCost := goodIn_ca (goodIn_r _ [6, 7, 8, 9, 10, 5, 11, 12, 13, 14, 15, 16, 17, 18, 19, 20, 21, 22, 23, 24, 25, 26, 27, 28, 29, 30, 31, 32, 33, 34, 35, 36, 37, 38, 39, 40, 41, 42, 43, 44, 45, 46, 47, 48, 49, 50, 51, 52, 53, 54, 55, 56, 57, 58, 59, 60, 61, 62, 63, 64, 65, 66] (by decide +kernel) (by decide +kernel)) (goodIn_sub (fun _ h => List.mem_cons_of_mem _ (List.mem_append_right _ h)) (by decide +kernel))
set_option maxRecDepth 20000 in
theorem gL_scriptCost_X7_scriptCost : GoodIn wsL_scriptCost (wsV RL 129 RX7 yX7_scriptCost wsX7_scriptCost) := goodIn_app (goodIn_of _ (by decide +kernel)) ggL_scriptCost_X7_scriptCost
theorem dL_scriptCost_0 : decode cL_scriptCost 0 = .ok (.aload_n 1, 1) := by decide +kernel
theorem dL_scriptCost_1 : decode cL_scriptCost 1 = .ok (.iconst 0, 1) := by decide +kernel
theorem dL_scriptCost_2 : decode cL_scriptCost 2 = .ok (.aload_n 0, 1) := by decide +kernel
theorem dL_scriptCost_3 : decode cL_scriptCost 3 = .ok (.invokevirtual 129, 3) := by decide +kernel
theorem dL_scriptCost_6 : decode cL_scriptCost 6 = .ok (.i2l, 1) := by decide +kernel
theorem dL_scriptCost_7 : decode cL_scriptCost 7 = .ok (.lastore, 1) := by decide +kernel
theorem dL_scriptCost_8 : decode cL_scriptCost 8 = .ok (.goto 6, 3) := by decide +kernel
theorem dL_scriptCost_11 : decode cL_scriptCost 11 = .ok (.astore_n 2, 1) := by decide +kernel
theorem dL_scriptCost_12 : decode cL_scriptCost 12 = .ok (.iconst 1, 1) := by decide +kernel
theorem dL_scriptCost_13 : decode cL_scriptCost 13 = .ok (.ireturn, 1) := by decide +kernel
theorem dL_scriptCost_14 : decode cL_scriptCost 14 = .ok (.iconst 0, 1) := by decide +kernel
theorem dL_scriptCost_15 : decode cL_scriptCost 15 = .ok (.ireturn, 1) := by decide +kernel
set_option maxRecDepth 20000 in
theorem ggL_givesTarget_X7_givesTarget : GoodIn wsL_givesTarget wsX7_givesTarget := goodIn_ca (goodIn_r _ [6, 7, 8, 9, 10, 11, 12, 13, 14, 5, 15, 16, 17, 18, 19, 20, 21, 22, 23, 24, 25, 26, 27, 28, 29, 30, 31, 32, 33, 34, 35, 36, 37, 38, 39, 40, 41, 42, 43, 44, 45, 46, 47, 48, 49, 50, 51, 52, 53, 54, 55, 56, 57, 58, 59, 60, 61, 62, 63, 64, 65, 66, 67, 68, 69, 70, 71, 72, 73, 74, 75, 76, 77, 78, 79, 80, 81, 82, 83, 84, 85, 86, 87, 88, 89, 90, 91, 92, 93, 94, 95, 96, 97, 98, 99, 100, 101, 102, 103, 104, 105, 106, 107, 108, 109, 110, 111, 112, 113, 114, 115, 116, 117, 118, 119, 120, 121, 122, 123, 124, 125, 126, 127, 128, 129, 130, 131, 132, 133, 134, 135, 136, 137, 138, 139, 140, 141, 142, 143, 144, 145, 146, 147, 148, 149, 150, 151, 152, 153, 154, 155, 156, 157, 158, 159, 160, 161, 162, 163, 164, 165, 166, 167, 168, 169, 170, 171, 172, 173, 174, 175, 176, 177, 178, 179, 180, 181, 182, 183, 184, 185, 186, 187, 188, 189, 190, 191, 192, 193, 194, 195, 196, 197, 198, 199, 200, 201, 202, 203, 204, 205, 206, 207, 208, 209, 210, 211, 212, 213, 214, 215, 216, 217, 218, 219, 220, 221, 222, 223, 224, 225, 226, 227, 228, 229, 230, 231, 232, 233, 234, 235, 236, 237, 238, 239, 240, 241, 242, 243, 244, 245, 246, 247, 248, 249, 250, 251, 252, 253, 254, 255, 256, 257, 258, 259, 260, 261, 262, 263, 264, 265, 266, 267, 268, 269] (by decide +kernel) (by decide +kernel)) (goodIn_sub (fun _ h => List.mem_cons_of_mem _ (List.mem_append_right _ h)) (by decide +kernel))
set_option maxRecDepth 20000 in
theorem gL_givesTarget_X7_givesTarget : GoodIn wsL_givesTarget (wsV RL 132 RX7 yX7_givesTarget wsX7_givesTarget) := goodIn_app (goodIn_of _ (by decide +kernel)) ggL_givesTarget_X7_givesTarget
theorem dL_givesTarget_0 : decode cL_givesTarget 0 = .ok (.aload_n 1, 1) := by decide +kernel
theorem dL_givesTarget_1 : decode cL_givesTarget 1 = .ok (.iconst 0, 1) := by decide +kernel
theorem dL_givesTarget_2 : decode cL_givesTarget 2 = .ok (.aload_n 0, 1) := by decide +kernel
theorem dL_givesTarget_3 : decode cL_givesTarget 3 = .ok (.invokevirtual 132, 3) := by decide +kernel
theorem dL_givesTarget_6 : decode cL_givesTarget 6 = .ok (.ifCond .eq 7, 3) := by decide +kernel
theorem dL_givesTarget_9 : decode cL_givesTarget 9 = .ok (.lconst 1, 1) := by decide +kernel
theorem dL_givesTarget_10 : decode cL_givesTarget 10 = .ok (.goto 4, 3) := by decide +kernel
theorem dL_givesTarget_13 : decode cL_givesTarget 13 = .ok (.lconst 0, 1) := by decide +kernel
theorem dL_givesTarget_14 : decode cL_givesTarget 14 = .ok (.lastore, 1) := by decide +kernel
theorem dL_givesTarget_15 : decode cL_givesTarget 15 = .ok (.goto 6, 3) := by decide +kernel
theorem dL_givesTarget_18 : decode cL_givesTarget 18 = .ok (.astore_n 2, 1) := by decide +kernel
theorem dL_givesTarget_19 : decode cL_givesTarget 19 = .ok (.iconst 1, 1) := by decide +kernel
theorem dL_givesTarget_20 : decode cL_givesTarget 20 = .ok (.ireturn, 1) := by decide +kernel
theorem dL_givesTarget_21 : decode cL_givesTarget 21 = .ok (.iconst 0, 1) := by decide +kernel
theorem dL_givesTarget_22 : decode cL_givesTarget 22 = .ok (.ireturn, 1) := by decide +kernel
set_option maxRecDepth 20000 in
theorem ggL_patch_X7_patch : GoodIn wsL_patch wsX7_patch := goodIn_ca (goodIn_ca (goodIn_ca (goodIn_r _ [8, 9, 10, 11, 12, 13, 14, 15, 16, 17, 18, 19, 20, 21, 7, 22, 23, 24, 25, 26, 27, 28, 29, 30, 31, 32, 33, 34, 35, 36, 37, 38, 39, 40, 41, 42, 43, 44, 45, 46, 47, 48, 49, 50, 51, 52, 53, 54, 55, 56, 57, 58, 59, 60, 61, 62, 63, 64, 65, 66, 67, 68, 69, 70, 71, 72, 73, 74, 75, 76, 77, 78, 79, 80, 81, 82, 83, 84, 85, 86, 87, 88, 89, 90, 91, 92, 93, 94, 95, 96, 97, 98, 99, 100, 101, 102, 103, 104, 105, 106, 107, 108, 109, 110, 111, 112, 113, 114, 115, 116, 117, 118, 119, 120, 121, 122, 123, 124, 125, 126, 127, 128, 129, 130, 131, 132, 133, 134, 135, 136, 137, 138, 139, 140, 141, 142, 143, 144, 145, 146, 147, 148, 149, 150, 151, 152, 153, 154, 155, 156, 157, 158, 159, 160, 161, 162, 163, 164, 165, 166, 167, 168, 169, 170, 171, 172, 173, 174, 175, 176, 177, 178, 179, 180, 181, 182, 183, 184, 185, 186, 187, 188, 189, 190, 191, 192, 193, 194, 195, 196, 197, 198, 199, 200, 201, 202, 203, 204, 205, 206, 207, 208, 209, 210, 211, 212, 213, 214, 215, 216, 217, 218, 219, 220, 221, 222, 223, 224, 225, 226, 227, 228, 229, 230, 231, 232, 233, 234, 235, 236, 237, 238, 239, 240, 241, 242, 243, 244, 245, 246, 247, 248, 249, 250, 251, 252, 253, 254, 255, 256, 257, 258, 259, 260, 261, 262, 263, 264, 265, 266, 267, 268, 269, 270, 271, 272, 273, 274, 275, 276, 277, 278, 279, 280, 281, 282, 283] (by decide +kernel) (by decide +kernel)) (goodIn_sub (fun _ h => List.mem_cons_of_mem _ (List.mem_append_left _ (List.mem_append_left _ (List.mem_append_right _ h)))) (by decide +kernel))) (goodIn_sub (fun _ h => List.mem_cons_of_mem _ (List.mem_append_left _ (List.mem_append_right _ h))) (by decide +kernel))) (goodIn_sub (fun _ h => List.mem_cons_of_mem _ (List.mem_append_right _ h)) (by decide +kernel))
set_option maxRecDepth 20000 in
theorem gL_patch_X7_patch : GoodIn wsL_patch (wsV RL 136 RX7 yX7_patch wsX7_patch) := goodIn_app (goodIn_of _ (by decide +kernel)) ggL_patch_X7_patch
theorem dL_patch_0 : decode cL_patch 0 = .ok (.aload_n 2, 1) := by decide +kernel
theorem dL_patch_1 : decode cL_patch 1 = .ok (.iconst 0, 1) := by decide +kernel
theorem dL_patch_2 : decode cL_patch 2 = .ok (.aload_n 0, 1) := by decide +kernel
theorem dL_patch_3 : decode cL_patch 3 = .ok (.iload_n 1, 1) := by decide +kernel
theorem dL_patch_4 : decode cL_patch 4 = .ok (.invokevirtual 136, 3) := by decide +kernel
theorem dL_patch_7 : decode cL_patch 7 = .ok (.i2l, 1) := by decide +kernel
theorem dL_patch_8 : decode cL_patch 8 = .ok (.lastore, 1) := by decide +kernel
theorem dL_patch_9 : decode cL_patch 9 = .ok (.goto 12, 3) := by decide +kernel
theorem dL_patch_12 : decode cL_patch 12 = .ok (.astore_n 3, 1) := by decide +kernel
theorem dL_patch_13 : decode cL_patch 13 = .ok (.iconst 1, 1) := by decide +kernel
theorem dL_patch_14 : decode cL_patch 14 = .ok (.ireturn, 1) := by decide +kernel
theorem dL_patch_15 : decode cL_patch 15 = .ok (.astore_n 3, 1) := by decide +kernel
theorem dL_patch_16 : decode cL_patch 16 = .ok (.iconst 2, 1) := by decide +kernel
theorem dL_patch_17 : decode cL_patch 17 = .ok (.ireturn, 1) := by decide +kernel
theorem dL_patch_18 : decode cL_patch 18 = .ok (.astore_n 3, 1) := by decide +kernel
theorem dL_patch_19 : decode cL_patch 19 = .ok (.iconst 3, 1) := by decide +kernel
theorem dL_patch_20 : decode cL_patch 20 = .ok (.ireturn, 1) := by decide +kernel
theorem dL_patch_21 : decode cL_patch 21 = .ok (.iconst 0, 1) := by decide +kernel
theorem dL_patch_22 : decode cL_patch 22 = .ok (.ireturn, 1) := by decide +kernel
set_option maxRecDepth 20000 in
theorem ggL_conflictOperation_X7_conflictOperation : GoodIn wsL_conflictOperation wsX7_conflictOperation := goodIn_ca (goodIn_r _ [6, 7, 8, 9, 10, 11, 12, 13, 14, 15, 16, 17, 18, 19] (by decide +kernel) (by decide +kernel)) (goodIn_sub (fun _ h => List.mem_cons_of_mem _ (List.mem_append_right _ h)) (by decide +kernel))
set_option maxRecDepth 20000 in
theorem gL_conflictOperation_X7_conflictOperation : GoodIn wsL_conflictOperation (wsV RL 139 RX7 yX7_conflictOperation wsX7_conflictOperation) := goodIn_app (goodIn_of _ (by decide +kernel)) ggL_conflictOperation_X7_conflictOperation
theorem dL_conflictOperation_0 : decode cL_conflictOperation 0 = .ok (.aload_n 1, 1) := by decide +kernel
theorem dL_conflictOperation_1 : decode cL_conflictOperation 1 = .ok (.iconst 0, 1) := by decide +kernel
theorem dL_conflictOperation_2 : decode cL_conflictOperation 2 = .ok (.aload_n 0, 1) := by decide +kernel
theorem dL_conflictOperation_3 : decode cL_conflictOperation 3 = .ok (.invokevirtual 139, 3) := by decide +kernel
theorem dL_conflictOperation_6 : decode cL_conflictOperation 6 = .ok (.i2l, 1) := by decide +kernel
theorem dL_conflictOperation_7 : decode cL_conflictOperation 7 = .ok (.lastore, 1) := by decide +kernel
theorem dL_conflictOperation_8 : decode cL_conflictOperation 8 = .ok (.goto 6, 3) := by decide +kernel
theorem dL_conflictOperation_11 : decode cL_conflictOperation 11 = .ok (.astore_n 2, 1) := by decide +kernel
theorem dL_conflictOperation_12 : decode cL_conflictOperation 12 = .ok (.iconst 1, 1) := by decide +kernel
theorem dL_conflictOperation_13 : decode cL_conflictOperation 13 = .ok (.ireturn, 1) := by decide +kernel
theorem dL_conflictOperation_14 : decode cL_conflictOperation 14 = .ok (.iconst 0, 1) := by decide +kernel
theorem dL_conflictOperation_15 : decode cL_conflictOperation 15 = .ok (.ireturn, 1) := by decide +kernel
set_option maxRecDepth 20000 in
theorem ggL_conflictReason_X7_conflictReason : GoodIn wsL_conflictReason wsX7_conflictReason := goodIn_ca (goodIn_r _ [6, 7, 8, 9, 10, 11, 12, 13, 14, 15, 16, 17, 18, 19, 20] (by decide +kernel) (by decide +kernel)) (goodIn_sub (fun _ h => List.mem_cons_of_mem _ (List.mem_append_right _ h)) (by decide +kernel))
set_option maxRecDepth 20000 in
theorem gL_conflictReason_X7_conflictReason : GoodIn wsL_conflictReason (wsV RL 142 RX7 yX7_conflictReason wsX7_conflictReason) := goodIn_app (goodIn_of _ (by decide +kernel)) ggL_conflictReason_X7_conflictReason
theorem dL_conflictReason_0 : decode cL_conflictReason 0 = .ok (.aload_n 1, 1) := by decide +kernel
theorem dL_conflictReason_1 : decode cL_conflictReason 1 = .ok (.iconst 0, 1) := by decide +kernel
theorem dL_conflictReason_2 : decode cL_conflictReason 2 = .ok (.aload_n 0, 1) := by decide +kernel
theorem dL_conflictReason_3 : decode cL_conflictReason 3 = .ok (.invokevirtual 142, 3) := by decide +kernel
theorem dL_conflictReason_6 : decode cL_conflictReason 6 = .ok (.i2l, 1) := by decide +kernel
theorem dL_conflictReason_7 : decode cL_conflictReason 7 = .ok (.lastore, 1) := by decide +kernel
theorem dL_conflictReason_8 : decode cL_conflictReason 8 = .ok (.goto 6, 3) := by decide +kernel
theorem dL_conflictReason_11 : decode cL_conflictReason 11 = .ok (.astore_n 2, 1) := by decide +kernel
theorem dL_conflictReason_12 : decode cL_conflictReason 12 = .ok (.iconst 1, 1) := by decide +kernel
theorem dL_conflictReason_13 : decode cL_conflictReason 13 = .ok (.ireturn, 1) := by decide +kernel
theorem dL_conflictReason_14 : decode cL_conflictReason 14 = .ok (.iconst 0, 1) := by decide +kernel
theorem dL_conflictReason_15 : decode cL_conflictReason 15 = .ok (.ireturn, 1) := by decide +kernel
set_option maxRecDepth 20000 in
theorem ggL_law_X7_init : GoodIn wsL_law wsX7_init := goodIn_r _ [10, 11, 12, 13, 14, 15, 16, 17, 18, 19, 20, 21, 22, 23, 24, 25, 26, 27, 28, 29, 30, 31, 32, 33, 34, 35, 36, 37, 38, 39, 40, 41, 42, 43, 44, 45, 46, 47, 48, 49, 50, 51, 52, 53, 54, 55, 56, 57, 58, 59, 60, 61, 62, 63, 64, 65, 66, 67, 68, 69, 70, 71, 72, 73, 74, 75, 76, 77, 78, 79, 80, 81, 82, 83, 84, 85, 86, 87, 88, 89, 90, 91, 92, 93, 94, 95, 96, 97, 98, 99, 100, 101, 102, 103, 104, 105, 106, 1458, 1459, 1460, 1461, 1462, 1463, 1464, 1465, 1466, 1467, 1499, 1500, 1501, 1502, 1503, 1504, 1505, 1506, 1507, 1508, 1509, 1510, 1511, 1512, 1513, 1514, 1515, 1516, 1517, 1518, 1519, 1520, 1521, 1522, 1523, 1524, 1525, 1526, 1527, 1528, 1529, 1530, 1531, 1532, 1533, 1534, 1535, 1536] (by decide +kernel) (by decide +kernel)
set_option maxRecDepth 20000 in
theorem gL_law_X7_init : GoodIn wsL_law (wsX7_init) := ggL_law_X7_init
set_option maxRecDepth 20000 in
theorem ggL_law_X10_init : GoodIn wsL_law wsX10_init := goodIn_r _ [109, 110, 12, 13, 111, 112, 113, 114, 48, 115, 116, 117, 118, 119, 57, 120, 121, 122, 123, 124, 125, 126, 127, 128, 129, 130, 131, 132, 133, 134, 135, 136, 137, 138, 139, 140, 141, 142, 143, 144, 145, 146, 147, 148, 149, 150, 1537, 1538, 1539, 1540, 1541, 1468, 1469, 1470, 1471, 1472, 1473, 1474, 1475, 1476, 1477, 1478, 1479, 1480, 1481, 1482, 1483, 1484, 1485, 1486, 1487, 1488, 1489, 1490, 1491, 1492, 1493, 1494, 1495, 1496, 1497, 1498] (by decide +kernel) (by decide +kernel)
set_option maxRecDepth 20000 in
theorem gL_law_X10_init : GoodIn wsL_law (wsX10_init) := ggL_law_X10_init
set_option maxRecDepth 20000 in
theorem ggL_law_L_type : GoodIn wsL_law wsL_type := goodIn_ca (goodIn_r _ [154, 155, 156, 157, 158, 2, 159, 160, 161, 19, 162, 163, 164, 165, 18, 166, 167, 49, 1458, 1459, 1460, 1461, 1462, 1463, 1464, 1465, 1466, 1467, 1499, 1500, 1501, 1502] (by decide +kernel) (by decide +kernel)) (goodIn_sub (fun _ h => List.mem_append_left _ (List.mem_append_left _ (List.mem_append_left _ (List.mem_append_left _ (List.mem_append_right _ h))))) (by decide +kernel))
set_option maxRecDepth 20000 in
theorem gL_law_L_type : GoodIn wsL_law (va_wsS RL 150 yL_type wsL_type) := goodIn_app (goodIn_of _ (by decide +kernel)) ggL_law_L_type
set_option maxRecDepth 20000 in
theorem ggL_law_X10_type : GoodIn wsL_law wsX10_type := goodIn_r _ [171, 172, 173, 115, 174, 175, 176, 5, 177, 1468, 1469, 1470, 1471, 1472, 1473, 1474, 1475, 1476, 1477, 1478, 1479, 1480, 1481, 1482, 1483, 1484, 1485, 1486, 1487, 1488, 1489, 1490, 1491, 1492, 1493, 1494, 1495, 1496, 1497, 1498] (by decide +kernel) (by decide +kernel)
set_option maxRecDepth 20000 in
theorem gL_law_X10_type : GoodIn wsL_law (wsV RL 155 RX10 yX10_type wsX10_type) := goodIn_app (goodIn_of _ (by decide +kernel)) ggL_law_X10_type
set_option maxRecDepth 20000 in
theorem ggL_law_X10_thrown : GoodIn wsL_law wsX10_thrown := goodIn_r _ [181, 172, 1468, 1469, 1470, 1471, 1472, 1473, 1474, 1475, 1476, 1477, 1478, 1479, 1480, 1481, 1482, 1483, 1484, 1485, 1486, 1487, 1488, 1489, 1490, 1491, 1492, 1493, 1494, 1495, 1496, 1497, 1498] (by decide +kernel) (by decide +kernel)
set_option maxRecDepth 20000 in
theorem gL_law_X10_thrown : GoodIn wsL_law (wsV RL 156 RX10 yX10_thrown wsX10_thrown) := goodIn_app (goodIn_of _ (by decide +kernel)) ggL_law_X10_thrown
set_option maxRecDepth 20000 in
theorem ggL_law_L_read : GoodIn wsL_law wsL_read := goodIn_ca (goodIn_ca (goodIn_r _ [184, 185, 186, 187, 188, 189, 2, 190, 191, 192, 19, 162, 193, 40, 194, 195, 196, 197, 198, 199, 200, 201, 15, 202, 203, 204, 18, 205, 206, 51, 207, 167, 208, 209, 210, 211, 212, 213, 214, 215, 49, 216, 217, 218, 219, 220, 44, 221, 56, 58, 59, 60, 61, 222, 223, 224, 225, 226, 227, 228, 229, 230, 63, 231, 232, 233, 234, 235, 236, 237, 238, 239, 240, 241, 242, 243, 244, 245, 246, 247, 248, 249, 250, 251, 252, 1458, 1459, 1460, 1461, 1462, 1463, 1464, 1465, 1466, 1467, 1499, 1500, 1501, 1502, 1530, 1531, 1532, 1533, 1534, 1535, 1536] (by decide +kernel) (by decide +kernel)) (goodIn_sub (fun _ h => List.mem_append_left _ (List.mem_append_left _ (List.mem_append_left _ (List.mem_append_right _ h)))) (by decide +kernel))) (goodIn_sub (fun _ h => List.mem_append_left _ (List.mem_append_left _ (List.mem_append_right _ h))) (by decide +kernel))
set_option maxRecDepth 20000 in
theorem gL_law_L_read : GoodIn wsL_law (va_wsS RL 159 yL_read wsL_read) := goodIn_app (goodIn_of _ (by decide +kernel)) ggL_law_L_read
set_option maxRecDepth 20000 in
theorem ggL_law_X10_read : GoodIn wsL_law wsX10_read := goodIn_r _ [256, 172, 257, 258, 118, 173, 116, 114, 259, 260, 5, 261, 262, 263, 264, 174, 175, 176, 177, 265, 266, 267, 268, 269, 270, 271, 272, 115, 273, 274, 275, 276, 277, 278, 279, 280, 143, 113, 144, 145, 146, 147, 148, 149, 150, 139, 140, 141, 142, 281, 282, 283, 284, 285, 286, 287, 288, 289, 290, 1468, 1469, 1470, 1471, 1472, 1473, 1474, 1475, 1476, 1477, 1478, 1479, 1480, 1481, 1482, 1483, 1484, 1485, 1486, 1487, 1488, 1489, 1490, 1491, 1492, 1493, 1494, 1495, 1496, 1497, 1498, 1537, 1538, 1539, 1540, 1541] (by decide +kernel) (by decide +kernel)
set_option maxRecDepth 20000 in
theorem gL_law_X10_read : GoodIn wsL_law (wsV RL 162 RX10 yX10_read wsX10_read) := goodIn_app (goodIn_of _ (by decide +kernel)) ggL_law_X10_read
set_option maxRecDepth 20000 in
theorem ggL_law_L_errorPosition : GoodIn wsL_law wsL_errorPosition := goodIn_ca (goodIn_r _ [293, 294, 295, 296, 297, 2, 298, 299, 300, 40, 1458, 1459, 1460, 1461, 1462, 1463, 1464, 1465, 1466, 1467] (by decide +kernel) (by decide +kernel)) (goodIn_sub (fun _ h => List.mem_append_left _ (List.mem_append_right _ h)) (by decide +kernel))
set_option maxRecDepth 20000 in
theorem gL_law_L_errorPosition : GoodIn wsL_law (va_wsS RL 163 yL_errorPosition wsL_errorPosition) := goodIn_app (goodIn_of _ (by decide +kernel)) ggL_law_L_errorPosition
set_option maxRecDepth 20000 in
theorem ggL_law_X10_errorPosition : GoodIn wsL_law wsX10_errorPosition := goodIn_r _ [304, 172, 116, 174, 175, 176, 5, 177, 1468, 1469, 1470, 1471, 1472, 1473, 1474, 1475, 1476, 1477, 1478, 1479, 1480, 1481, 1482, 1483, 1484, 1485, 1486, 1487, 1488, 1489, 1490, 1491, 1492, 1493, 1494, 1495, 1496, 1497, 1498] (by decide +kernel) (by decide +kernel)
set_option maxRecDepth 20000 in
theorem gL_law_X10_errorPosition : GoodIn wsL_law (wsV RL 166 RX10 yX10_errorPosition wsX10_errorPosition) := goodIn_app (goodIn_of _ (by decide +kernel)) ggL_law_X10_errorPosition
set_option maxRecDepth 20000 in
theorem ggL_law_L_writeTree : GoodIn wsL_law wsL_writeTree := goodIn_ca (goodIn_r _ [307, 185, 308, 309, 310, 2, 311, 23, 312, 196, 197, 198, 199, 200, 201, 15, 313, 314, 315, 22, 316, 317, 318, 319, 320, 44, 321, 60, 322, 323, 324, 325, 326, 67, 327, 328, 329, 330, 331, 332, 333, 334, 335, 336, 337, 338, 339, 340, 341, 1458, 1459, 1460, 1461, 1462, 1463, 1464, 1465, 1466, 1467, 1503, 1504, 1530, 1531, 1532, 1533, 1534, 1535, 1536] (by decide +kernel) (by decide +kernel)) (goodIn_sub (fun _ h => List.mem_append_left _ (List.mem_append_left _ (List.mem_append_right _ h))) (by decide +kernel))
set_option maxRecDepth 20000 in
theorem gL_law_L_writeTree : GoodIn wsL_law (va_wsS RL 167 yL_writeTree wsL_writeTree) := goodIn_app (goodIn_of _ (by decide +kernel)) ggL_law_L_writeTree
set_option maxRecDepth 20000 in
theorem ggL_law_X10_writeTree : GoodIn wsL_law wsX10_writeTree := goodIn_r _ [345, 172, 346, 347, 348, 114, 117, 259, 260, 5, 261, 262, 263, 264, 174, 175, 176, 177, 349, 350, 351, 352, 353, 354, 355, 356, 12, 13, 357, 358, 359, 360, 361, 362, 363, 364, 365, 366, 367, 368, 369, 370, 371, 372, 373, 374, 375, 376, 377, 378, 379, 380, 381, 382, 383, 384, 385, 386, 387, 388, 389, 390, 391, 392, 393, 394, 395, 396, 397, 398, 399, 400, 401, 402, 403, 404, 405, 406, 407, 408, 409, 410, 411, 412, 413, 414, 415, 416, 417, 418, 419, 250, 251, 252, 420, 421, 422, 423, 424, 425, 426, 427, 428, 429, 430, 431, 432, 433, 434, 435, 436, 437, 438, 439, 440, 441, 442, 443, 444, 445, 446, 447, 448, 449, 450, 451, 452, 453, 454, 455, 456, 457, 458, 459, 460, 461, 462, 463, 464, 465, 466, 467, 468, 469, 470, 471, 472, 473, 474, 475, 476, 477, 478, 479, 480, 481, 482, 483, 484, 485, 486, 487, 488, 489, 490, 491, 492, 493, 494, 495, 496, 497, 498, 499, 500, 501, 502, 503, 504, 505, 506, 507, 113, 508, 509, 146, 142, 510, 511, 512, 57, 513, 514, 515, 516, 517, 518, 519, 520, 521, 522, 523, 524, 525, 526, 527, 528, 529, 530, 531, 532, 533, 534, 535, 536, 537, 538, 539, 540, 541, 542, 543, 544, 545, 546, 547, 548, 549, 550, 551, 552, 553, 554, 555, 556, 557, 558, 559, 560, 561, 562, 563, 564, 565, 566, 567, 568, 569, 570, 571, 572, 573, 574, 575, 576, 1468, 1469, 1470, 1471, 1472, 1473, 1474, 1475, 1476, 1477, 1478, 1479, 1480, 1481, 1482, 1483, 1484, 1485, 1486, 1487, 1488, 1489, 1490, 1491, 1492, 1493, 1494, 1495, 1496, 1497, 1498, 1542, 1543, 1544, 1545, 1537, 1538, 1539, 1540, 1541, 1546, 1547, 1548, 1549] (by decide +kernel) (by decide +kernel)
set_option maxRecDepth 20000 in
theorem gL_law_X10_writeTree : GoodIn wsL_law (wsV RL 169 RX10 yX10_writeTree wsX10_writeTree) := goodIn_app (goodIn_of _ (by decide +kernel)) ggL_law_X10_writeTree
set_option maxRecDepth 20000 in
theorem ggL_law_L_writeScript : GoodIn wsL_law wsL_writeScript := goodIn_ca (goodIn_r _ [579, 155, 580, 581, 582, 2, 583, 23, 312, 35, 584, 585, 586, 587, 588, 589, 160, 161, 590, 591, 323, 324, 22, 325, 326, 67, 592, 593, 594, 34, 595, 92, 94, 93, 596, 339, 340, 341, 322, 1458, 1459, 1460, 1461, 1462, 1463, 1464, 1465, 1466, 1467, 1503, 1504, 1517, 1518, 1519, 1520, 1521, 1522, 1523, 1524, 1525] (by decide +kernel) (by decide +kernel)) (goodIn_sub (fun _ h => List.mem_append_left _ (List.mem_append_left _ (List.mem_append_left _ (List.mem_append_left _ (List.mem_append_right _ h))))) (by decide +kernel))
set_option maxRecDepth 20000 in
theorem gL_law_L_writeScript : GoodIn wsL_law (va_wsS RL 170 yL_writeScript wsL_writeScript) := goodIn_app (goodIn_of _ (by decide +kernel)) ggL_law_L_writeScript
set_option maxRecDepth 20000 in
theorem ggL_law_X10_writeScript : GoodIn wsL_law wsX10_writeScript := goodIn_r _ [600, 172, 601, 346, 347, 348, 602, 128, 130, 129, 117, 174, 175, 176, 5, 177, 349, 350, 351, 352, 353, 354, 355, 356, 12, 13, 357, 358, 359, 360, 361, 362, 363, 364, 365, 366, 367, 368, 373, 374, 375, 376, 377, 378, 379, 380, 381, 382, 383, 384, 385, 386, 387, 388, 389, 390, 391, 392, 393, 394, 395, 396, 397, 398, 399, 400, 401, 402, 403, 404, 405, 406, 407, 408, 409, 410, 411, 412, 413, 414, 415, 416, 417, 418, 419, 250, 251, 252, 420, 421, 422, 423, 424, 425, 426, 427, 428, 429, 430, 431, 432, 433, 434, 435, 436, 437, 438, 439, 440, 441, 442, 443, 444, 445, 446, 447, 448, 449, 450, 451, 452, 453, 454, 455, 456, 457, 458, 459, 460, 461, 462, 463, 464, 465, 466, 467, 468, 469, 470, 471, 472, 473, 474, 475, 476, 477, 478, 479, 480, 481, 482, 483, 484, 485, 486, 487, 488, 489, 490, 491, 492, 493, 494, 495, 496, 497, 498, 499, 500, 501, 502, 503, 504, 505, 506, 514, 515, 516, 517, 518, 519, 520, 521, 522, 523, 524, 525, 526, 527, 528, 529, 530, 531, 532, 533, 534, 535, 536, 537, 538, 539, 540, 541, 542, 543, 544, 545, 546, 547, 548, 549, 550, 551, 552, 553, 554, 555, 556, 557, 558, 559, 560, 561, 562, 563, 564, 565, 566, 567, 568, 569, 570, 571, 572, 573, 574, 575, 576, 1468, 1469, 1470, 1471, 1472, 1473, 1474, 1475, 1476, 1477, 1478, 1479, 1480, 1481, 1482, 1483, 1484, 1485, 1486, 1487, 1488, 1489, 1490, 1491, 1492, 1493, 1494, 1495, 1496, 1497, 1498, 1542, 1543, 1544, 1545, 1546, 1547, 1548, 1549] (by decide +kernel) (by decide +kernel)
set_option maxRecDepth 20000 in
theorem gL_law_X10_writeScript : GoodIn wsL_law (wsV RL 172 RX10 yX10_writeScript wsX10_writeScript) := goodIn_app (goodIn_of _ (by decide +kernel)) ggL_law_X10_writeScript
set_option maxRecDepth 20000 in
theorem ggL_law_L_charAt : GoodIn wsL_law wsL_charAt := goodIn_ca (goodIn_r _ [605, 185, 606, 607, 608, 2, 609, 200, 201, 23, 312, 610, 1458, 1459, 1460, 1461, 1462, 1463, 1464, 1465, 1466, 1467, 1503, 1504] (by decide +kernel) (by decide +kernel)) (goodIn_sub (fun _ h => List.mem_append_left _ (List.mem_append_left _ (List.mem_append_right _ h))) (by decide +kernel))
set_option maxRecDepth 20000 in
theorem gL_law_L_charAt : GoodIn wsL_law (va_wsS RL 173 yL_charAt wsL_charAt) := goodIn_app (goodIn_of _ (by decide +kernel)) ggL_law_L_charAt
set_option maxRecDepth 20000 in
theorem ggL_law_X10_charAt : GoodIn wsL_law wsX10_charAt := goodIn_r _ [614, 172, 117, 569, 570, 571, 448, 572, 528, 573, 574, 575, 576, 529, 527, 262, 263, 5, 264, 615, 616, 617, 618, 619, 620, 621, 622, 623, 624, 427, 625, 626, 468, 469, 450, 470, 471, 453, 472, 627, 628, 363, 629, 464, 465, 466, 443, 444, 445, 467, 562, 563, 564, 458, 459, 460, 174, 175, 176, 177, 1468, 1469, 1470, 1471, 1472, 1473, 1474, 1475, 1476, 1477, 1478, 1479, 1480, 1481, 1482, 1483, 1484, 1485, 1486, 1487, 1488, 1489, 1490, 1491, 1492, 1493, 1494, 1495, 1496, 1497, 1498, 1546, 1547, 1548, 1549] (by decide +kernel) (by decide +kernel)
set_option maxRecDepth 20000 in
theorem gL_law_X10_charAt : GoodIn wsL_law (wsV RL 175 RX10 yX10_charAt wsX10_charAt) := goodIn_app (goodIn_of _ (by decide +kernel)) ggL_law_X10_charAt
set_option maxRecDepth 20000 in
theorem ggL_law_L_addNode : GoodIn wsL_law wsL_addNode := goodIn_ca (goodIn_ca (goodIn_ca (goodIn_r _ [632, 185, 186, 155, 633, 634, 635, 2, 636, 200, 201, 160, 161, 637, 638, 639, 640, 196, 197, 198, 199, 15, 641, 642, 643, 44, 644, 63, 645, 646, 647, 648, 60, 649, 650, 651, 652, 191, 192, 653, 216, 217, 654, 655, 656, 657, 658, 659, 660, 661, 662, 663, 664, 665, 666, 667, 668, 669, 670, 671, 672, 673, 56, 58, 59, 61, 674, 219, 220, 221, 1458, 1459, 1460, 1461, 1462, 1463, 1464, 1465, 1466, 1467, 1530, 1531, 1532, 1533, 1534, 1535, 1536] (by decide +kernel) (by decide +kernel)) (goodIn_sub (fun _ h => List.mem_append_left _ (List.mem_append_left _ (List.mem_append_right _ h))) (by decide +kernel))) (goodIn_sub (fun _ h => List.mem_append_left _ (List.mem_append_left _ (List.mem_append_left _ (List.mem_append_left _ (List.mem_append_right _ h))))) (by decide +kernel))) (goodIn_sub (fun _ h => List.mem_append_left _ (List.mem_append_left _ (List.mem_append_left _ (List.mem_append_right _ h)))) (by decide +kernel))
set_option maxRecDepth 20000 in
theorem gL_law_L_addNode : GoodIn wsL_law (va_wsS RL 176 yL_addNode wsL_addNode) := goodIn_app (goodIn_of _ (by decide +kernel)) ggL_law_L_addNode
set_option maxRecDepth 20000 in
theorem ggL_law_X10_addNode : GoodIn wsL_law wsX10_addNode := goodIn_r _ [678, 114, 679, 680, 681, 5, 682, 172, 683, 684, 685, 686, 259, 260, 261, 262, 263, 264, 510, 113, 511, 512, 57, 146, 142, 513, 507, 508, 509, 174, 175, 176, 177, 687, 688, 689, 690, 691, 692, 693, 694, 695, 139, 140, 141, 147, 148, 149, 150, 1468, 1469, 1470, 1471, 1472, 1473, 1474, 1475, 1476, 1477, 1478, 1479, 1480, 1481, 1482, 1483, 1484, 1485, 1486, 1487, 1488, 1489, 1490, 1491, 1492, 1493, 1494, 1495, 1496, 1497, 1498, 1537, 1538, 1539, 1540, 1541] (by decide +kernel) (by decide +kernel)
set_option maxRecDepth 20000 in
theorem gL_law_X10_addNode : GoodIn wsL_law (wsV RL 179 RX10 yX10_addNode wsX10_addNode) := goodIn_app (goodIn_of _ (by decide +kernel)) ggL_law_X10_addNode
set_option maxRecDepth 20000 in
theorem ggL_law_L_removeNode : GoodIn wsL_law wsL_removeNode := goodIn_ca (goodIn_ca (goodIn_r _ [698, 185, 699, 700, 701, 702, 2, 703, 704, 705, 195, 637, 638, 639, 640, 200, 201, 196, 197, 198, 199, 15, 641, 642, 643, 44, 644, 63, 706, 707, 708, 709, 662, 663, 664, 665, 60, 670, 671, 672, 673, 56, 58, 59, 61, 1530, 1531, 1532, 1533, 1534, 1535, 1536, 1458, 1459, 1460, 1461, 1462, 1463, 1464, 1465, 1466, 1467] (by decide +kernel) (by decide +kernel)) (goodIn_sub (fun _ h => List.mem_append_right _ h) (by decide +kernel))) (goodIn_sub (fun _ h => List.mem_append_left _ (List.mem_append_left _ (List.mem_append_right _ h))) (by decide +kernel))
set_option maxRecDepth 20000 in
theorem gL_law_L_removeNode : GoodIn wsL_law (va_wsS RL 180 yL_removeNode wsL_removeNode) := goodIn_app (goodIn_of _ (by decide +kernel)) ggL_law_L_removeNode
set_option maxRecDepth 20000 in
theorem ggL_law_X10_removeNode : GoodIn wsL_law wsX10_removeNode := goodIn_r _ [713, 114, 679, 680, 681, 5, 682, 172, 683, 684, 685, 686, 259, 260, 261, 262, 263, 264, 174, 175, 176, 177, 690, 113, 691, 692, 146, 142, 693, 694, 695, 139, 140, 141, 147, 148, 149, 150, 1468, 1469, 1470, 1471, 1472, 1473, 1474, 1475, 1476, 1477, 1478, 1479, 1480, 1481, 1482, 1483, 1484, 1485, 1486, 1487, 1488, 1489, 1490, 1491, 1492, 1493, 1494, 1495, 1496, 1497, 1498, 1537, 1538, 1539, 1540, 1541] (by decide +kernel) (by decide +kernel)
set_option maxRecDepth 20000 in
theorem gL_law_X10_removeNode : GoodIn wsL_law (wsV RL 183 RX10 yX10_removeNode wsX10_removeNode) := goodIn_app (goodIn_of _ (by decide +kernel)) ggL_law_X10_removeNode
set_option maxRecDepth 20000 in
theorem ggL_law_L_setLabel : GoodIn wsL_law wsL_setLabel := goodIn_ca (goodIn_ca (goodIn_r _ [716, 185, 186, 717, 718, 719, 2, 720, 721, 637, 638, 639, 640, 200, 201, 196, 197, 198, 199, 15, 641, 642, 643, 44, 644, 63, 649, 650, 651, 652, 191, 192, 653, 216, 217, 722, 723, 724, 725, 56, 1530, 1531, 1532, 1533, 1534, 1535, 1536, 1458, 1459, 1460, 1461, 1462, 1463, 1464, 1465, 1466, 1467] (by decide +kernel) (by decide +kernel)) (goodIn_sub (fun _ h => List.mem_append_left _ (List.mem_append_left _ (List.mem_append_right _ h))) (by decide +kernel))) (goodIn_sub (fun _ h => List.mem_append_left _ (List.mem_append_left _ (List.mem_append_left _ (List.mem_append_right _ h)))) (by decide +kernel))
set_option maxRecDepth 20000 in
theorem gL_law_L_setLabel : GoodIn wsL_law (va_wsS RL 184 yL_setLabel wsL_setLabel) := goodIn_app (goodIn_of _ (by decide +kernel)) ggL_law_L_setLabel
set_option maxRecDepth 20000 in
theorem ggL_law_X10_setLabel : GoodIn wsL_law wsX10_setLabel := goodIn_r _ [729, 114, 679, 680, 681, 5, 682, 172, 683, 684, 685, 686, 259, 260, 261, 262, 263, 264, 687, 688, 689, 174, 175, 176, 177, 1468, 1469, 1470, 1471, 1472, 1473, 1474, 1475, 1476, 1477, 1478, 1479, 1480, 1481, 1482, 1483, 1484, 1485, 1486, 1487, 1488, 1489, 1490, 1491, 1492, 1493, 1494, 1495, 1496, 1497, 1498, 1537, 1538, 1539, 1540, 1541] (by decide +kernel) (by decide +kernel)
set_option maxRecDepth 20000 in
theorem gL_law_X10_setLabel : GoodIn wsL_law (wsV RL 187 RX10 yX10_setLabel wsX10_setLabel) := goodIn_app (goodIn_of _ (by decide +kernel)) ggL_law_X10_setLabel
set_option maxRecDepth 20000 in
theorem ggL_law_L_setKey : GoodIn wsL_law wsL_setKey := goodIn_ca (goodIn_ca (goodIn_ca (goodIn_ca (goodIn_r _ [732, 185, 186, 699, 155, 733, 734, 735, 2, 736, 191, 192, 704, 705, 160, 161, 737, 738, 637, 638, 639, 640, 200, 201, 196, 197, 198, 199, 15, 641, 642, 643, 44, 644, 63, 739, 740, 741, 742, 228, 229, 230, 60, 58, 1530, 1531, 1532, 1533, 1534, 1535, 1536, 1458, 1459, 1460, 1461, 1462, 1463, 1464, 1465, 1466, 1467] (by decide +kernel) (by decide +kernel)) (goodIn_sub (fun _ h => List.mem_append_left _ (List.mem_append_left _ (List.mem_append_left _ (List.mem_append_right _ h)))) (by decide +kernel))) (goodIn_sub (fun _ h => List.mem_append_right _ h) (by decide +kernel))) (goodIn_sub (fun _ h => List.mem_append_left _ (List.mem_append_left _ (List.mem_append_left _ (List.mem_append_left _ (List.mem_append_right _ h))))) (by decide +kernel))) (goodIn_sub (fun _ h => List.mem_append_left _ (List.mem_append_left _ (List.mem_append_right _ h))) (by decide +kernel))
set_option maxRecDepth 20000 in
theorem gL_law_L_setKey : GoodIn wsL_law (va_wsS RL 188 yL_setKey wsL_setKey) := goodIn_app (goodIn_of _ (by decide +kernel)) ggL_law_L_setKey
set_option maxRecDepth 20000 in
theorem ggL_law_X10_setKey : GoodIn wsL_law wsX10_setKey := goodIn_r _ [746, 114, 679, 680, 681, 5, 682, 172, 683, 684, 685, 686, 259, 260, 261, 262, 263, 264, 174, 175, 176, 177, 281, 113, 282, 283, 146, 142, 140, 1468, 1469, 1470, 1471, 1472, 1473, 1474, 1475, 1476, 1477, 1478, 1479, 1480, 1481, 1482, 1483, 1484, 1485, 1486, 1487, 1488, 1489, 1490, 1491, 1492, 1493, 1494, 1495, 1496, 1497, 1498, 1537, 1538, 1539, 1540, 1541] (by decide +kernel) (by decide +kernel)
set_option maxRecDepth 20000 in
theorem gL_law_X10_setKey : GoodIn wsL_law (wsV RL 191 RX10 yX10_setKey wsX10_setKey) := goodIn_app (goodIn_of _ (by decide +kernel)) ggL_law_X10_setKey
set_option maxRecDepth 20000 in
theorem ggL_law_L_setValue : GoodIn wsL_law wsL_setValue := goodIn_ca (goodIn_ca (goodIn_r _ [749, 185, 186, 750, 751, 752, 2, 753, 191, 192, 754, 637, 638, 639, 640, 200, 201, 196, 197, 198, 199, 15, 641, 642, 643, 44, 644, 63, 755, 756, 757, 1530, 1531, 1532, 1533, 1534, 1535, 1536, 1458, 1459, 1460, 1461, 1462, 1463, 1464, 1465, 1466, 1467] (by decide +kernel) (by decide +kernel)) (goodIn_sub (fun _ h => List.mem_append_left _ (List.mem_append_left _ (List.mem_append_left _ (List.mem_append_right _ h)))) (by decide +kernel))) (goodIn_sub (fun _ h => List.mem_append_left _ (List.mem_append_left _ (List.mem_append_right _ h))) (by decide +kernel))
set_option maxRecDepth 20000 in
theorem gL_law_L_setValue : GoodIn wsL_law (va_wsS RL 192 yL_setValue wsL_setValue) := goodIn_app (goodIn_of _ (by decide +kernel)) ggL_law_L_setValue
set_option maxRecDepth 20000 in
theorem ggL_law_X10_setValue : GoodIn wsL_law wsX10_setValue := goodIn_r _ [761, 114, 679, 680, 681, 5, 682, 172, 683, 684, 685, 686, 259, 260, 261, 262, 263, 264, 174, 175, 176, 177, 1468, 1469, 1470, 1471, 1472, 1473, 1474, 1475, 1476, 1477, 1478, 1479, 1480, 1481, 1482, 1483, 1484, 1485, 1486, 1487, 1488, 1489, 1490, 1491, 1492, 1493, 1494, 1495, 1496, 1497, 1498, 1537, 1538, 1539, 1540, 1541] (by decide +kernel) (by decide +kernel)
set_option maxRecDepth 20000 in
theorem gL_law_X10_setValue : GoodIn wsL_law (wsV RL 194 RX10 yX10_setValue wsX10_setValue) := goodIn_app (goodIn_of _ (by decide +kernel)) ggL_law_X10_setValue
set_option maxRecDepth 20000 in
theorem ggL_law_L_copyTree : GoodIn wsL_law wsL_copyTree := goodIn_ca (goodIn_r _ [764, 185, 765, 766, 767, 2, 768, 195, 196, 197, 198, 199, 200, 201, 15, 245, 246, 247, 44, 248, 56, 249, 250, 251, 252, 58, 59, 60, 63, 1530, 1531, 1532, 1533, 1534, 1535, 1536, 1458, 1459, 1460, 1461, 1462, 1463, 1464, 1465, 1466, 1467] (by decide +kernel) (by decide +kernel)) (goodIn_sub (fun _ h => List.mem_append_left _ (List.mem_append_left _ (List.mem_append_right _ h))) (by decide +kernel))
set_option maxRecDepth 20000 in
theorem gL_law_L_copyTree : GoodIn wsL_law (va_wsS RL 195 yL_copyTree wsL_copyTree) := goodIn_app (goodIn_of _ (by decide +kernel)) ggL_law_L_copyTree
set_option maxRecDepth 20000 in
theorem ggL_law_X10_copyTree : GoodIn wsL_law wsX10_copyTree := goodIn_r _ [772, 114, 773, 774, 775, 5, 776, 172, 259, 260, 261, 262, 263, 264, 288, 113, 289, 290, 146, 139, 140, 141, 142, 147, 148, 149, 150, 1468, 1469, 1470, 1471, 1472, 1473, 1474, 1475, 1476, 1477, 1478, 1479, 1480, 1481, 1482, 1483, 1484, 1485, 1486, 1487, 1488, 1489, 1490, 1491, 1492, 1493, 1494, 1495, 1496, 1497, 1498, 1537, 1538, 1539, 1540, 1541] (by decide +kernel) (by decide +kernel)
set_option maxRecDepth 20000 in
theorem gL_law_X10_copyTree : GoodIn wsL_law (wsV RL 197 RX10 yX10_copyTree wsX10_copyTree) := goodIn_app (goodIn_of _ (by decide +kernel)) ggL_law_X10_copyTree
set_option maxRecDepth 20000 in
theorem ggL_law_L_size : GoodIn wsL_law wsL_size := goodIn_ca (goodIn_r _ [779, 185, 780, 781, 782, 2, 783, 195, 196, 197, 198, 199, 200, 201, 15, 1530, 1531, 1532, 1533, 1534, 1535, 1536, 1458, 1459, 1460, 1461, 1462, 1463, 1464, 1465, 1466, 1467] (by decide +kernel) (by decide +kernel)) (goodIn_sub (fun _ h => List.mem_append_left _ (List.mem_append_left _ (List.mem_append_right _ h))) (by decide +kernel))
set_option maxRecDepth 20000 in
theorem gL_law_L_size : GoodIn wsL_law (va_wsS RL 198 yL_size wsL_size) := goodIn_app (goodIn_of _ (by decide +kernel)) ggL_law_L_size
set_option maxRecDepth 20000 in
theorem ggL_law_X10_size : GoodIn wsL_law wsX10_size := goodIn_r _ [787, 114, 773, 774, 775, 5, 776, 172, 259, 260, 261, 262, 263, 264, 1468, 1469, 1470, 1471, 1472, 1473, 1474, 1475, 1476, 1477, 1478, 1479, 1480, 1481, 1482, 1483, 1484, 1485, 1486, 1487, 1488, 1489, 1490, 1491, 1492, 1493, 1494, 1495, 1496, 1497, 1498, 1537, 1538, 1539, 1540, 1541] (by decide +kernel) (by decide +kernel)
set_option maxRecDepth 20000 in
theorem gL_law_X10_size : GoodIn wsL_law (wsV RL 200 RX10 yX10_size wsX10_size) := goodIn_app (goodIn_of _ (by decide +kernel)) ggL_law_X10_size
set_option maxRecDepth 20000 in
theorem ggL_law_L_label : GoodIn wsL_law wsL_label := goodIn_ca (goodIn_r _ [790, 185, 791, 792, 793, 2, 794, 721, 637, 638, 639, 640, 200, 201, 196, 197, 198, 199, 15, 641, 642, 643, 44, 644, 63, 1530, 1531, 1532, 1533, 1534, 1535, 1536, 1458, 1459, 1460, 1461, 1462, 1463, 1464, 1465, 1466, 1467] (by decide +kernel) (by decide +kernel)) (goodIn_sub (fun _ h => List.mem_append_left _ (List.mem_append_left _ (List.mem_append_right _ h))) (by decide +kernel))
set_option maxRecDepth 20000 in
theorem gL_law_L_label : GoodIn wsL_law (va_wsS RL 201 yL_label wsL_label) := goodIn_app (goodIn_of _ (by decide +kernel)) ggL_law_L_label
set_option maxRecDepth 20000 in
theorem ggL_law_X10_label : GoodIn wsL_law wsX10_label := goodIn_r _ [798, 114, 679, 680, 681, 5, 682, 172, 683, 684, 685, 686, 259, 260, 261, 262, 263, 264, 1468, 1469, 1470, 1471, 1472, 1473, 1474, 1475, 1476, 1477, 1478, 1479, 1480, 1481, 1482, 1483, 1484, 1485, 1486, 1487, 1488, 1489, 1490, 1491, 1492, 1493, 1494, 1495, 1496, 1497, 1498, 1537, 1538, 1539, 1540, 1541] (by decide +kernel) (by decide +kernel)
set_option maxRecDepth 20000 in
theorem gL_law_X10_label : GoodIn wsL_law (wsV RL 203 RX10 yX10_label wsX10_label) := goodIn_app (goodIn_of _ (by decide +kernel)) ggL_law_X10_label
set_option maxRecDepth 20000 in
theorem ggL_law_L_key : GoodIn wsL_law wsL_key := goodIn_ca (goodIn_r _ [801, 185, 802, 803, 804, 2, 805, 738, 637, 638, 639, 640, 200, 201, 196, 197, 198, 199, 15, 641, 642, 643, 44, 644, 63, 1530, 1531, 1532, 1533, 1534, 1535, 1536, 1458, 1459, 1460, 1461, 1462, 1463, 1464, 1465, 1466, 1467] (by decide +kernel) (by decide +kernel)) (goodIn_sub (fun _ h => List.mem_append_left _ (List.mem_append_left _ (List.mem_append_right _ h))) (by decide +kernel))
set_option maxRecDepth 20000 in
theorem gL_law_L_key : GoodIn wsL_law (va_wsS RL 204 yL_key wsL_key) := goodIn_app (goodIn_of _ (by decide +kernel)) ggL_law_L_key
set_option maxRecDepth 20000 in
theorem ggL_law_X10_key : GoodIn wsL_law wsX10_key := goodIn_r _ [809, 114, 679, 680, 681, 5, 682, 172, 683, 684, 685, 686, 259, 260, 261, 262, 263, 264, 1468, 1469, 1470, 1471, 1472, 1473, 1474, 1475, 1476, 1477, 1478, 1479, 1480, 1481, 1482, 1483, 1484, 1485, 1486, 1487, 1488, 1489, 1490, 1491, 1492, 1493, 1494, 1495, 1496, 1497, 1498, 1537, 1538, 1539, 1540, 1541] (by decide +kernel) (by decide +kernel)
set_option maxRecDepth 20000 in
theorem gL_law_X10_key : GoodIn wsL_law (wsV RL 206 RX10 yX10_key wsX10_key) := goodIn_app (goodIn_of _ (by decide +kernel)) ggL_law_X10_key
set_option maxRecDepth 20000 in
theorem ggL_law_L_value : GoodIn wsL_law wsL_value := goodIn_ca (goodIn_r _ [812, 185, 813, 814, 815, 2, 816, 754, 637, 638, 639, 640, 200, 201, 196, 197, 198, 199, 15, 641, 642, 643, 44, 644, 63, 1530, 1531, 1532, 1533, 1534, 1535, 1536, 1458, 1459, 1460, 1461, 1462, 1463, 1464, 1465, 1466, 1467] (by decide +kernel) (by decide +kernel)) (goodIn_sub (fun _ h => List.mem_append_left _ (List.mem_append_left _ (List.mem_append_right _ h))) (by decide +kernel))
set_option maxRecDepth 20000 in
theorem gL_law_L_value : GoodIn wsL_law (va_wsS RL 207 yL_value wsL_value) := goodIn_app (goodIn_of _ (by decide +kernel)) ggL_law_L_value
set_option maxRecDepth 20000 in
theorem ggL_law_X10_value : GoodIn wsL_law wsX10_value := goodIn_r _ [820, 114, 679, 680, 681, 5, 682, 172, 683, 684, 685, 686, 259, 260, 261, 262, 263, 264, 1468, 1469, 1470, 1471, 1472, 1473, 1474, 1475, 1476, 1477, 1478, 1479, 1480, 1481, 1482, 1483, 1484, 1485, 1486, 1487, 1488, 1489, 1490, 1491, 1492, 1493, 1494, 1495, 1496, 1497, 1498, 1537, 1538, 1539, 1540, 1541] (by decide +kernel) (by decide +kernel)
set_option maxRecDepth 20000 in
theorem gL_law_X10_value : GoodIn wsL_law (wsV RL 209 RX10 yX10_value wsX10_value) := goodIn_app (goodIn_of _ (by decide +kernel)) ggL_law_X10_value
set_option maxRecDepth 20000 in
theorem ggL_law_L_children : GoodIn wsL_law wsL_children := goodIn_ca (goodIn_r _ [823, 185, 824, 825, 826, 2, 827, 637, 638, 639, 640, 200, 201, 196, 197, 198, 199, 15, 641, 642, 643, 44, 644, 63, 645, 646, 647, 648, 60, 1458, 1459, 1460, 1461, 1462, 1463, 1464, 1465, 1466, 1467, 1530, 1531, 1532, 1533, 1534, 1535, 1536] (by decide +kernel) (by decide +kernel)) (goodIn_sub (fun _ h => List.mem_append_left _ (List.mem_append_left _ (List.mem_append_right _ h))) (by decide +kernel))
set_option maxRecDepth 20000 in
theorem gL_law_L_children : GoodIn wsL_law (va_wsS RL 210 yL_children wsL_children) := goodIn_app (goodIn_of _ (by decide +kernel)) ggL_law_L_children
set_option maxRecDepth 20000 in
theorem ggL_law_X10_children : GoodIn wsL_law wsX10_children := goodIn_r _ [831, 114, 679, 680, 681, 5, 682, 172, 683, 684, 685, 686, 259, 260, 261, 262, 263, 264, 507, 113, 508, 509, 146, 142, 1468, 1469, 1470, 1471, 1472, 1473, 1474, 1475, 1476, 1477, 1478, 1479, 1480, 1481, 1482, 1483, 1484, 1485, 1486, 1487, 1488, 1489, 1490, 1491, 1492, 1493, 1494, 1495, 1496, 1497, 1498, 1537, 1538, 1539, 1540, 1541] (by decide +kernel) (by decide +kernel)
set_option maxRecDepth 20000 in
theorem gL_law_X10_children : GoodIn wsL_law (wsV RL 212 RX10 yX10_children wsX10_children) := goodIn_app (goodIn_of _ (by decide +kernel)) ggL_law_X10_children
set_option maxRecDepth 20000 in
theorem ggL_law_L_parent : GoodIn wsL_law wsL_parent := goodIn_ca (goodIn_ca (goodIn_r _ [834, 185, 294, 835, 836, 837, 2, 838, 299, 300, 737, 637, 638, 639, 640, 200, 201, 196, 197, 198, 199, 15, 641, 642, 643, 44, 644, 63, 1530, 1531, 1532, 1533, 1534, 1535, 1536, 1458, 1459, 1460, 1461, 1462, 1463, 1464, 1465, 1466, 1467] (by decide +kernel) (by decide +kernel)) (goodIn_sub (fun _ h => List.mem_append_left _ (List.mem_append_right _ h)) (by decide +kernel))) (goodIn_sub (fun _ h => List.mem_append_left _ (List.mem_append_left _ (List.mem_append_right _ h))) (by decide +kernel))
set_option maxRecDepth 20000 in
theorem gL_law_L_parent : GoodIn wsL_law (va_wsS RL 213 yL_parent wsL_parent) := goodIn_app (goodIn_of _ (by decide +kernel)) ggL_law_L_parent
set_option maxRecDepth 20000 in
theorem ggL_law_X10_parent : GoodIn wsL_law wsX10_parent := goodIn_r _ [842, 114, 679, 680, 681, 5, 682, 172, 683, 684, 685, 686, 259, 260, 261, 262, 263, 264, 174, 175, 176, 177, 1468, 1469, 1470, 1471, 1472, 1473, 1474, 1475, 1476, 1477, 1478, 1479, 1480, 1481, 1482, 1483, 1484, 1485, 1486, 1487, 1488, 1489, 1490, 1491, 1492, 1493, 1494, 1495, 1496, 1497, 1498, 1537, 1538, 1539, 1540, 1541] (by decide +kernel) (by decide +kernel)
set_option maxRecDepth 20000 in
theorem gL_law_X10_parent : GoodIn wsL_law (wsV RL 215 RX10 yX10_parent wsX10_parent) := goodIn_app (goodIn_of _ (by decide +kernel)) ggL_law_X10_parent
set_option maxRecDepth 20000 in
theorem ggL_law_L_subtreeSize : GoodIn wsL_law wsL_subtreeSize := goodIn_ca (goodIn_r _ [845, 185, 846, 847, 848, 2, 849, 637, 638, 639, 640, 200, 201, 196, 197, 198, 199, 15, 641, 642, 643, 44, 644, 63, 850, 663, 664, 665, 60, 1458, 1459, 1460, 1461, 1462, 1463, 1464, 1465, 1466, 1467, 1530, 1531, 1532, 1533, 1534, 1535, 1536] (by decide +kernel) (by decide +kernel)) (goodIn_sub (fun _ h => List.mem_append_left _ (List.mem_append_left _ (List.mem_append_right _ h))) (by decide +kernel))
set_option maxRecDepth 20000 in
theorem gL_law_L_subtreeSize : GoodIn wsL_law (va_wsS RL 216 yL_subtreeSize wsL_subtreeSize) := goodIn_app (goodIn_of _ (by decide +kernel)) ggL_law_L_subtreeSize
set_option maxRecDepth 20000 in
theorem ggL_law_X10_subtreeSize : GoodIn wsL_law wsX10_subtreeSize := goodIn_r _ [854, 114, 679, 680, 681, 5, 682, 172, 683, 684, 685, 686, 259, 260, 261, 262, 263, 264, 690, 113, 691, 692, 146, 142, 1468, 1469, 1470, 1471, 1472, 1473, 1474, 1475, 1476, 1477, 1478, 1479, 1480, 1481, 1482, 1483, 1484, 1485, 1486, 1487, 1488, 1489, 1490, 1491, 1492, 1493, 1494, 1495, 1496, 1497, 1498, 1537, 1538, 1539, 1540, 1541] (by decide +kernel) (by decide +kernel)
set_option maxRecDepth 20000 in
theorem gL_law_X10_subtreeSize : GoodIn wsL_law (wsV RL 218 RX10 yX10_subtreeSize wsX10_subtreeSize) := goodIn_app (goodIn_of _ (by decide +kernel)) ggL_law_X10_subtreeSize
set_option maxRecDepth 20000 in
theorem ggL_law_L_subtreeHash : GoodIn wsL_law wsL_subtreeHash := goodIn_ca (goodIn_r _ [857, 185, 858, 859, 860, 2, 861, 637, 638, 639, 640, 200, 201, 196, 197, 198, 199, 15, 641, 642, 643, 44, 644, 63, 862, 863, 864, 865, 56, 58, 59, 60, 62, 658, 659, 660, 661, 662, 663, 664, 665, 866, 646, 647, 648, 1458, 1459, 1460, 1461, 1462, 1463, 1464, 1465, 1466, 1467, 1530, 1531, 1532, 1533, 1534, 1535, 1536] (by decide +kernel) (by decide +kernel)) (goodIn_sub (fun _ h => List.mem_append_left _ (List.mem_append_left _ (List.mem_append_right _ h))) (by decide +kernel))
set_option maxRecDepth 20000 in
theorem gL_law_L_subtreeHash : GoodIn wsL_law (va_wsS RL 219 yL_subtreeHash wsL_subtreeHash) := goodIn_app (goodIn_of _ (by decide +kernel)) ggL_law_L_subtreeHash
set_option maxRecDepth 20000 in
theorem ggL_law_X10_subtreeHash : GoodIn wsL_law wsX10_subtreeHash := goodIn_r _ [870, 114, 679, 680, 681, 5, 682, 172, 683, 684, 685, 686, 259, 260, 261, 262, 263, 264, 871, 113, 872, 873, 139, 140, 141, 874, 510, 511, 512, 57, 146, 142, 513, 507, 508, 509, 875, 1468, 1469, 1470, 1471, 1472, 1473, 1474, 1475, 1476, 1477, 1478, 1479, 1480, 1481, 1482, 1483, 1484, 1485, 1486, 1487, 1488, 1489, 1490, 1491, 1492, 1493, 1494, 1495, 1496, 1497, 1498, 1537, 1538, 1539, 1540, 1541] (by decide +kernel) (by decide +kernel)
set_option maxRecDepth 20000 in
theorem gL_law_X10_subtreeHash : GoodIn wsL_law (wsV RL 221 RX10 yX10_subtreeHash wsX10_subtreeHash) := goodIn_app (goodIn_of _ (by decide +kernel)) ggL_law_X10_subtreeHash
set_option maxRecDepth 20000 in
theorem ggL_law_L_areEqual : GoodIn wsL_law wsL_areEqual := goodIn_ca (goodIn_r _ [878, 185, 879, 880, 881, 2, 882, 637, 638, 639, 640, 200, 201, 196, 197, 198, 199, 15, 641, 642, 643, 44, 644, 63, 883, 884, 885, 886, 56, 58, 59, 887, 888, 889, 890, 60, 662, 663, 664, 665, 1458, 1459, 1460, 1461, 1462, 1463, 1464, 1465, 1466, 1467, 1530, 1531, 1532, 1533, 1534, 1535, 1536] (by decide +kernel) (by decide +kernel)) (goodIn_sub (fun _ h => List.mem_append_left _ (List.mem_append_left _ (List.mem_append_right _ h))) (by decide +kernel))
set_option maxRecDepth 20000 in
theorem gL_law_L_areEqual : GoodIn wsL_law (va_wsS RL 222 yL_areEqual wsL_areEqual) := goodIn_app (goodIn_of _ (by decide +kernel)) ggL_law_L_areEqual
set_option maxRecDepth 20000 in
theorem ggL_law_X10_areEqual : GoodIn wsL_law wsX10_areEqual := goodIn_r _ [894, 114, 679, 680, 681, 5, 682, 172, 683, 684, 685, 686, 259, 260, 261, 262, 263, 264, 895, 896, 897, 690, 113, 691, 692, 146, 142, 1468, 1469, 1470, 1471, 1472, 1473, 1474, 1475, 1476, 1477, 1478, 1479, 1480, 1481, 1482, 1483, 1484, 1485, 1486, 1487, 1488, 1489, 1490, 1491, 1492, 1493, 1494, 1495, 1496, 1497, 1498, 1537, 1538, 1539, 1540, 1541] (by decide +kernel) (by decide +kernel)
set_option maxRecDepth 20000 in
theorem gL_law_X10_areEqual : GoodIn wsL_law (wsV RL 225 RX10 yX10_areEqual wsX10_areEqual) := goodIn_app (goodIn_of _ (by decide +kernel)) ggL_law_X10_areEqual
set_option maxRecDepth 20000 in
theorem ggL_law_L_twin : GoodIn wsL_law wsL_twin := goodIn_ca (goodIn_ca (goodIn_r _ [900, 185, 294, 901, 902, 903, 2, 904, 299, 300, 195, 637, 638, 639, 640, 200, 201, 196, 197, 198, 199, 15, 641, 642, 643, 44, 644, 63, 883, 884, 885, 886, 56, 58, 59, 887, 888, 889, 890, 60, 662, 663, 664, 665, 1530, 1531, 1532, 1533, 1534, 1535, 1536, 1458, 1459, 1460, 1461, 1462, 1463, 1464, 1465, 1466, 1467] (by decide +kernel) (by decide +kernel)) (goodIn_sub (fun _ h => List.mem_append_left _ (List.mem_append_right _ h)) (by decide +kernel))) (goodIn_sub (fun _ h => List.mem_append_left _ (List.mem_append_left _ (List.mem_append_right _ h))) (by decide +kernel))
set_option maxRecDepth 20000 in
theorem gL_law_L_twin : GoodIn wsL_law (va_wsS RL 226 yL_twin wsL_twin) := goodIn_app (goodIn_of _ (by decide +kernel)) ggL_law_L_twin
set_option maxRecDepth 20000 in
theorem ggL_law_X10_twin : GoodIn wsL_law wsX10_twin := goodIn_r _ [908, 909, 910, 911, 5, 912, 172, 114, 683, 684, 685, 686, 259, 260, 261, 262, 263, 264, 895, 896, 897, 690, 113, 691, 692, 146, 142, 174, 175, 176, 177, 1468, 1469, 1470, 1471, 1472, 1473, 1474, 1475, 1476, 1477, 1478, 1479, 1480, 1481, 1482, 1483, 1484, 1485, 1486, 1487, 1488, 1489, 1490, 1491, 1492, 1493, 1494, 1495, 1496, 1497, 1498, 1537, 1538, 1539, 1540, 1541] (by decide +kernel) (by decide +kernel)
set_option maxRecDepth 20000 in
theorem gL_law_X10_twin : GoodIn wsL_law (wsV RL 228 RX10 yX10_twin wsX10_twin) := goodIn_app (goodIn_of _ (by decide +kernel)) ggL_law_X10_twin
set_option maxRecDepth 20000 in
theorem ggL_law_L_shapeTwin : GoodIn wsL_law wsL_shapeTwin := goodIn_ca (goodIn_ca (goodIn_r _ [915, 185, 294, 916, 917, 918, 2, 919, 299, 300, 195, 637, 638, 639, 640, 200, 201, 196, 197, 198, 199, 15, 641, 642, 643, 44, 644, 63, 920, 888, 889, 890, 60, 662, 663, 664, 665, 1530, 1531, 1532, 1533, 1534, 1535, 1536, 1458, 1459, 1460, 1461, 1462, 1463, 1464, 1465, 1466, 1467] (by decide +kernel) (by decide +kernel)) (goodIn_sub (fun _ h => List.mem_append_left _ (List.mem_append_right _ h)) (by decide +kernel))) (goodIn_sub (fun _ h => List.mem_append_left _ (List.mem_append_left _ (List.mem_append_right _ h))) (by decide +kernel))
set_option maxRecDepth 20000 in
theorem gL_law_L_shapeTwin : GoodIn wsL_law (va_wsS RL 229 yL_shapeTwin wsL_shapeTwin) := goodIn_app (goodIn_of _ (by decide +kernel)) ggL_law_L_shapeTwin
set_option maxRecDepth 20000 in
theorem ggL_law_X10_shapeTwin : GoodIn wsL_law wsX10_shapeTwin := goodIn_r _ [924, 909, 910, 911, 5, 912, 172, 114, 683, 684, 685, 686, 259, 260, 261, 262, 263, 264, 895, 896, 897, 690, 113, 691, 692, 146, 142, 174, 175, 176, 177, 1468, 1469, 1470, 1471, 1472, 1473, 1474, 1475, 1476, 1477, 1478, 1479, 1480, 1481, 1482, 1483, 1484, 1485, 1486, 1487, 1488, 1489, 1490, 1491, 1492, 1493, 1494, 1495, 1496, 1497, 1498, 1537, 1538, 1539, 1540, 1541] (by decide +kernel) (by decide +kernel)
set_option maxRecDepth 20000 in
theorem gL_law_X10_shapeTwin : GoodIn wsL_law (wsV RL 231 RX10 yX10_shapeTwin wsX10_shapeTwin) := goodIn_app (goodIn_of _ (by decide +kernel)) ggL_law_X10_shapeTwin
set_option maxRecDepth 20000 in
theorem ggL_law_L_distance : GoodIn wsL_law wsL_distance := goodIn_ca (goodIn_r _ [927, 185, 928, 929, 930, 2, 931, 27, 196, 197, 198, 199, 200, 201, 15, 932, 933, 934, 26, 935, 74, 75, 936, 76, 937, 77, 938, 72, 73, 939, 940, 941, 44, 942, 63, 662, 663, 664, 665, 60, 943, 944, 945, 946, 947, 948, 949, 950, 951, 952, 953, 954, 955, 417, 400, 418, 956, 957, 958, 959, 960, 961, 962, 963, 964, 965, 966, 967, 968, 969, 970, 971, 972, 973, 974, 721, 754, 1458, 1459, 1460, 1461, 1462, 1463, 1464, 1465, 1466, 1467, 1505, 1506, 1507, 1508, 1509, 1510, 1511, 1512, 1513, 1514, 1530, 1531, 1532, 1533, 1534, 1535, 1536] (by decide +kernel) (by decide +kernel)) (goodIn_sub (fun _ h => List.mem_append_left _ (List.mem_append_left _ (List.mem_append_right _ h))) (by decide +kernel))
set_option maxRecDepth 20000 in
theorem gL_law_L_distance : GoodIn wsL_law (va_wsS RL 232 yL_distance wsL_distance) := goodIn_app (goodIn_of _ (by decide +kernel)) ggL_law_L_distance
set_option maxRecDepth 20000 in
theorem ggL_law_X10_distance : GoodIn wsL_law wsX10_distance := goodIn_r _ [978, 114, 773, 774, 775, 5, 776, 172, 259, 260, 261, 262, 263, 264, 979, 980, 981, 982, 120, 510, 113, 511, 512, 57, 146, 142, 513, 507, 508, 509, 983, 984, 985, 986, 119, 987, 988, 417, 400, 418, 690, 691, 692, 1468, 1469, 1470, 1471, 1472, 1473, 1474, 1475, 1476, 1477, 1478, 1479, 1480, 1481, 1482, 1483, 1484, 1485, 1486, 1487, 1488, 1489, 1490, 1491, 1492, 1493, 1494, 1495, 1496, 1497, 1498, 1537, 1538, 1539, 1540, 1541] (by decide +kernel) (by decide +kernel)
set_option maxRecDepth 20000 in
theorem gL_law_X10_distance : GoodIn wsL_law (wsV RL 234 RX10 yX10_distance wsX10_distance) := goodIn_app (goodIn_of _ (by decide +kernel)) ggL_law_X10_distance
set_option maxRecDepth 20000 in
theorem ggL_law_L_distanceByMatchings : GoodIn wsL_law wsL_distanceByMatchings := goodIn_ca (goodIn_ca (goodIn_r _ [991, 185, 699, 992, 993, 994, 2, 995, 704, 705, 195, 31, 196, 197, 198, 199, 200, 201, 15, 996, 997, 998, 30, 999, 83, 1000, 1001, 1002, 1003, 1004, 1005, 417, 400, 418, 1006, 1007, 1008, 1009, 973, 974, 721, 754, 1010, 1011, 1012, 1013, 1014, 1015, 243, 244, 1530, 1531, 1532, 1533, 1534, 1535, 1536, 1458, 1459, 1460, 1461, 1462, 1463, 1464, 1465, 1466, 1467, 1515, 1516] (by decide +kernel) (by decide +kernel)) (goodIn_sub (fun _ h => List.mem_append_right _ h) (by decide +kernel))) (goodIn_sub (fun _ h => List.mem_append_left _ (List.mem_append_left _ (List.mem_append_right _ h))) (by decide +kernel))
set_option maxRecDepth 20000 in
theorem gL_law_L_distanceByMatchings : GoodIn wsL_law (va_wsS RL 235 yL_distanceByMatchings wsL_distanceByMatchings) := goodIn_app (goodIn_of _ (by decide +kernel)) ggL_law_L_distanceByMatchings
set_option maxRecDepth 20000 in
theorem ggL_law_X10_distanceByMatchings : GoodIn wsL_law wsX10_distanceByMatchings := goodIn_r _ [1019, 114, 773, 774, 775, 5, 776, 172, 259, 260, 261, 262, 263, 264, 174, 175, 176, 177, 979, 980, 981, 982, 120, 510, 113, 511, 512, 57, 146, 142, 513, 507, 508, 509, 983, 984, 985, 986, 119, 987, 988, 417, 400, 418, 690, 691, 692, 1468, 1469, 1470, 1471, 1472, 1473, 1474, 1475, 1476, 1477, 1478, 1479, 1480, 1481, 1482, 1483, 1484, 1485, 1486, 1487, 1488, 1489, 1490, 1491, 1492, 1493, 1494, 1495, 1496, 1497, 1498, 1537, 1538, 1539, 1540, 1541] (by decide +kernel) (by decide +kernel)
set_option maxRecDepth 20000 in
theorem gL_law_X10_distanceByMatchings : GoodIn wsL_law (wsV RL 237 RX10 yX10_distanceByMatchings wsX10_distanceByMatchings) := goodIn_app (goodIn_of _ (by decide +kernel)) ggL_law_X10_distanceByMatchings
set_option maxRecDepth 20000 in
theorem ggL_law_L_similarity : GoodIn wsL_law wsL_similarity := goodIn_ca (goodIn_r _ [1022, 185, 1023, 1024, 1025, 2, 1026, 27, 195, 196, 197, 198, 199, 200, 201, 15, 932, 933, 934, 26, 935, 74, 75, 936, 76, 937, 77, 938, 72, 73, 939, 940, 941, 44, 942, 63, 662, 663, 664, 665, 60, 943, 944, 945, 946, 947, 948, 949, 950, 951, 952, 953, 954, 955, 417, 400, 418, 956, 957, 958, 959, 960, 961, 962, 963, 964, 965, 966, 967, 968, 969, 970, 971, 972, 973, 974, 721, 754, 1458, 1459, 1460, 1461, 1462, 1463, 1464, 1465, 1466, 1467, 1530, 1531, 1532, 1533, 1534, 1535, 1536, 1505, 1506, 1507, 1508, 1509, 1510, 1511, 1512, 1513, 1514] (by decide +kernel) (by decide +kernel)) (goodIn_sub (fun _ h => List.mem_append_left _ (List.mem_append_left _ (List.mem_append_right _ h))) (by decide +kernel))
set_option maxRecDepth 20000 in
theorem gL_law_L_similarity : GoodIn wsL_law (va_wsS RL 238 yL_similarity wsL_similarity) := goodIn_app (goodIn_of _ (by decide +kernel)) ggL_law_L_similarity
set_option maxRecDepth 20000 in
theorem ggL_law_X10_similarity : GoodIn wsL_law wsX10_similarity := goodIn_r _ [1030, 114, 773, 774, 775, 5, 776, 172, 259, 260, 261, 262, 263, 264, 979, 980, 981, 982, 120, 510, 113, 511, 512, 57, 146, 142, 513, 507, 508, 509, 983, 984, 985, 986, 119, 987, 988, 417, 400, 418, 690, 691, 692, 1468, 1469, 1470, 1471, 1472, 1473, 1474, 1475, 1476, 1477, 1478, 1479, 1480, 1481, 1482, 1483, 1484, 1485, 1486, 1487, 1488, 1489, 1490, 1491, 1492, 1493, 1494, 1495, 1496, 1497, 1498, 1537, 1538, 1539, 1540, 1541] (by decide +kernel) (by decide +kernel)
set_option maxRecDepth 20000 in
theorem gL_law_X10_similarity : GoodIn wsL_law (wsV RL 241 RX10 yX10_similarity wsX10_similarity) := goodIn_app (goodIn_of _ (by decide +kernel)) ggL_law_X10_similarity
set_option maxRecDepth 20000 in
theorem ggL_law_L_diff : GoodIn wsL_law wsL_diff := goodIn_ca (goodIn_r _ [1033, 185, 1034, 1035, 1036, 2, 1037, 35, 27, 584, 196, 197, 198, 199, 200, 201, 15, 1038, 1039, 1040, 34, 1041, 88, 89, 1042, 90, 1043, 250, 251, 252, 1044, 91, 1045, 1046, 246, 247, 44, 248, 56, 249, 58, 59, 60, 63, 1047, 1048, 1049, 26, 1050, 78, 79, 936, 76, 937, 77, 938, 1051, 933, 934, 935, 74, 75, 72, 73, 939, 940, 941, 942, 662, 663, 664, 665, 943, 944, 945, 946, 947, 948, 949, 950, 951, 952, 953, 954, 955, 417, 400, 418, 956, 957, 958, 959, 960, 961, 962, 963, 964, 965, 966, 967, 968, 969, 970, 971, 972, 973, 974, 721, 754, 1052, 1053, 408, 1054, 1055, 1056, 1057, 1058, 1059, 1060, 1061, 1062, 1063, 1064, 1065, 1066, 1067, 1068, 1069, 1070, 1071, 1072, 1073, 1074, 1075, 1076, 1077, 1078, 92, 93, 94, 1079, 1080, 1081, 1082, 1083, 319, 320, 321, 1084, 659, 660, 661, 1085, 1086, 1087, 1088, 1089, 1090, 1091, 1092, 1093, 884, 885, 886, 887, 888, 889, 890, 1094, 1095, 1096, 1097, 1458, 1459, 1460, 1461, 1462, 1463, 1464, 1465, 1466, 1467, 1517, 1518, 1519, 1520, 1521, 1522, 1523, 1524, 1525, 1505, 1506, 1507, 1508, 1509, 1510, 1511, 1512, 1513, 1514, 1530, 1531, 1532, 1533, 1534, 1535, 1536] (by decide +kernel) (by decide +kernel)) (goodIn_sub (fun _ h => List.mem_append_left _ (List.mem_append_left _ (List.mem_append_right _ h))) (by decide +kernel))
set_option maxRecDepth 20000 in
theorem gL_law_L_diff : GoodIn wsL_law (va_wsS RL 242 yL_diff wsL_diff) := goodIn_app (goodIn_of _ (by decide +kernel)) ggL_law_L_diff
set_option maxRecDepth 20000 in
theorem ggL_law_X10_diff : GoodIn wsL_law wsX10_diff := goodIn_r _ [1101, 126, 114, 127, 602, 1102, 121, 128, 129, 122, 130, 123, 131, 124, 132, 125, 601, 773, 774, 775, 5, 776, 172, 259, 260, 261, 262, 263, 264, 288, 113, 289, 290, 146, 139, 140, 141, 142, 147, 148, 149, 150, 1103, 1104, 1105, 1106, 979, 980, 981, 982, 120, 510, 511, 512, 57, 513, 507, 508, 509, 983, 984, 985, 986, 119, 987, 988, 417, 400, 418, 690, 691, 692, 1107, 1108, 1109, 1110, 1111, 1112, 1113, 1114, 1115, 1116, 1117, 1118, 895, 896, 897, 1468, 1469, 1470, 1471, 1472, 1473, 1474, 1475, 1476, 1477, 1478, 1479, 1480, 1481, 1482, 1483, 1484, 1485, 1486, 1487, 1488, 1489, 1490, 1491, 1492, 1493, 1494, 1495, 1496, 1497, 1498, 1537, 1538, 1539, 1540, 1541] (by decide +kernel) (by decide +kernel)
set_option maxRecDepth 20000 in
theorem gL_law_X10_diff : GoodIn wsL_law (wsV RL 244 RX10 yX10_diff wsX10_diff) := goodIn_app (goodIn_of _ (by decide +kernel)) ggL_law_X10_diff
set_option maxRecDepth 20000 in
theorem ggL_law_L_operations : GoodIn wsL_law wsL_operations := goodIn_ca (goodIn_r _ [1121, 155, 1122, 1123, 1124, 2, 1125, 35, 584, 586, 587, 588, 589, 160, 161, 590, 1458, 1459, 1460, 1461, 1462, 1463, 1464, 1465, 1466, 1467, 1517, 1518, 1519, 1520, 1521, 1522, 1523, 1524, 1525] (by decide +kernel) (by decide +kernel)) (goodIn_sub (fun _ h => List.mem_append_left _ (List.mem_append_left _ (List.mem_append_left _ (List.mem_append_left _ (List.mem_append_right _ h))))) (by decide +kernel))
set_option maxRecDepth 20000 in
theorem gL_law_L_operations : GoodIn wsL_law (va_wsS RL 245 yL_operations wsL_operations) := goodIn_app (goodIn_of _ (by decide +kernel)) ggL_law_L_operations
set_option maxRecDepth 20000 in
theorem ggL_law_X10_operations : GoodIn wsL_law wsX10_operations := goodIn_r _ [1129, 602, 1130, 1131, 1132, 5, 1133, 601, 172, 1468, 1469, 1470, 1471, 1472, 1473, 1474, 1475, 1476, 1477, 1478, 1479, 1480, 1481, 1482, 1483, 1484, 1485, 1486, 1487, 1488, 1489, 1490, 1491, 1492, 1493, 1494, 1495, 1496, 1497, 1498] (by decide +kernel) (by decide +kernel)
set_option maxRecDepth 20000 in
theorem gL_law_X10_operations : GoodIn wsL_law (wsV RL 247 RX10 yX10_operations wsX10_operations) := goodIn_app (goodIn_of _ (by decide +kernel)) ggL_law_X10_operations
set_option maxRecDepth 20000 in
theorem ggL_law_L_opKind : GoodIn wsL_law wsL_opKind := goodIn_ca (goodIn_ca (goodIn_r _ [1136, 155, 185, 1137, 1138, 1139, 2, 1140, 35, 585, 1141, 1142, 1143, 1144, 200, 201, 584, 586, 587, 588, 589, 160, 161, 590, 1458, 1459, 1460, 1461, 1462, 1463, 1464, 1465, 1466, 1467, 1517, 1518, 1519, 1520, 1521, 1522, 1523, 1524, 1525] (by decide +kernel) (by decide +kernel)) (goodIn_sub (fun _ h => List.mem_append_left _ (List.mem_append_left _ (List.mem_append_right _ h))) (by decide +kernel))) (goodIn_sub (fun _ h => List.mem_append_left _ (List.mem_append_left _ (List.mem_append_left _ (List.mem_append_left _ (List.mem_append_right _ h))))) (by decide +kernel))
set_option maxRecDepth 20000 in
theorem gL_law_L_opKind : GoodIn wsL_law (va_wsS RL 248 yL_opKind wsL_opKind) := goodIn_app (goodIn_of _ (by decide +kernel)) ggL_law_L_opKind
set_option maxRecDepth 20000 in
theorem ggL_law_X10_opKind : GoodIn wsL_law wsX10_opKind := goodIn_r _ [1148, 128, 1149, 1150, 1151, 5, 1152, 601, 602, 172, 262, 263, 264, 1468, 1469, 1470, 1471, 1472, 1473, 1474, 1475, 1476, 1477, 1478, 1479, 1480, 1481, 1482, 1483, 1484, 1485, 1486, 1487, 1488, 1489, 1490, 1491, 1492, 1493, 1494, 1495, 1496, 1497, 1498] (by decide +kernel) (by decide +kernel)
set_option maxRecDepth 20000 in
theorem gL_law_X10_opKind : GoodIn wsL_law (wsV RL 250 RX10 yX10_opKind wsX10_opKind) := goodIn_app (goodIn_of _ (by decide +kernel)) ggL_law_X10_opKind
set_option maxRecDepth 20000 in
theorem ggL_law_L_opNode : GoodIn wsL_law wsL_opNode := goodIn_ca (goodIn_ca (goodIn_r _ [1155, 155, 185, 1156, 1157, 1158, 2, 1159, 35, 1141, 1142, 1143, 1144, 200, 201, 584, 586, 587, 588, 589, 160, 161, 590, 592, 593, 594, 34, 595, 92, 94, 93, 1458, 1459, 1460, 1461, 1462, 1463, 1464, 1465, 1466, 1467, 1517, 1518, 1519, 1520, 1521, 1522, 1523, 1524, 1525] (by decide +kernel) (by decide +kernel)) (goodIn_sub (fun _ h => List.mem_append_left _ (List.mem_append_left _ (List.mem_append_right _ h))) (by decide +kernel))) (goodIn_sub (fun _ h => List.mem_append_left _ (List.mem_append_left _ (List.mem_append_left _ (List.mem_append_left _ (List.mem_append_right _ h))))) (by decide +kernel))
set_option maxRecDepth 20000 in
theorem gL_law_L_opNode : GoodIn wsL_law (va_wsS RL 251 yL_opNode wsL_opNode) := goodIn_app (goodIn_of _ (by decide +kernel)) ggL_law_L_opNode
set_option maxRecDepth 20000 in
theorem ggL_law_X10_opNode : GoodIn wsL_law wsX10_opNode := goodIn_r _ [1163, 128, 130, 129, 1149, 1150, 1151, 5, 1152, 601, 602, 172, 262, 263, 264, 1468, 1469, 1470, 1471, 1472, 1473, 1474, 1475, 1476, 1477, 1478, 1479, 1480, 1481, 1482, 1483, 1484, 1485, 1486, 1487, 1488, 1489, 1490, 1491, 1492, 1493, 1494, 1495, 1496, 1497, 1498] (by decide +kernel) (by decide +kernel)
set_option maxRecDepth 20000 in
theorem gL_law_X10_opNode : GoodIn wsL_law (wsV RL 253 RX10 yX10_opNode wsX10_opNode) := goodIn_app (goodIn_of _ (by decide +kernel)) ggL_law_X10_opNode
set_option maxRecDepth 20000 in
theorem ggL_law_L_opTarget : GoodIn wsL_law wsL_opTarget := goodIn_ca (goodIn_ca (goodIn_ca (goodIn_r _ [1166, 155, 185, 294, 1167, 1168, 1169, 2, 1170, 299, 300, 35, 585, 1171, 1141, 1142, 1143, 1144, 200, 201, 584, 586, 587, 588, 589, 160, 161, 590, 1458, 1459, 1460, 1461, 1462, 1463, 1464, 1465, 1466, 1467, 1517, 1518, 1519, 1520, 1521, 1522, 1523, 1524, 1525] (by decide +kernel) (by decide +kernel)) (goodIn_sub (fun _ h => List.mem_append_left _ (List.mem_append_right _ h)) (by decide +kernel))) (goodIn_sub (fun _ h => List.mem_append_left _ (List.mem_append_left _ (List.mem_append_right _ h))) (by decide +kernel))) (goodIn_sub (fun _ h => List.mem_append_left _ (List.mem_append_left _ (List.mem_append_left _ (List.mem_append_left _ (List.mem_append_right _ h))))) (by decide +kernel))
set_option maxRecDepth 20000 in
theorem gL_law_L_opTarget : GoodIn wsL_law (va_wsS RL 254 yL_opTarget wsL_opTarget) := goodIn_app (goodIn_of _ (by decide +kernel)) ggL_law_L_opTarget
set_option maxRecDepth 20000 in
theorem ggL_law_X10_opTarget : GoodIn wsL_law wsX10_opTarget := goodIn_r _ [1175, 128, 130, 1149, 1150, 1151, 5, 1152, 601, 602, 172, 262, 263, 264, 174, 175, 176, 177, 1468, 1469, 1470, 1471, 1472, 1473, 1474, 1475, 1476, 1477, 1478, 1479, 1480, 1481, 1482, 1483, 1484, 1485, 1486, 1487, 1488, 1489, 1490, 1491, 1492, 1493, 1494, 1495, 1496, 1497, 1498] (by decide +kernel) (by decide +kernel)
set_option maxRecDepth 20000 in
theorem gL_law_X10_opTarget : GoodIn wsL_law (wsV RL 256 RX10 yX10_opTarget wsX10_opTarget) := goodIn_app (goodIn_of _ (by decide +kernel)) ggL_law_X10_opTarget
set_option maxRecDepth 20000 in
theorem ggL_law_L_partner : GoodIn wsL_law wsL_partner := goodIn_ca (goodIn_ca (goodIn_ca (goodIn_r _ [1178, 155, 185, 294, 1179, 1180, 1181, 2, 1182, 200, 201, 299, 300, 35, 1183, 1184, 586, 587, 588, 589, 160, 161, 590, 641, 642, 643, 44, 644, 63, 1458, 1459, 1460, 1461, 1462, 1463, 1464, 1465, 1466, 1467, 1517, 1518, 1519, 1520, 1521, 1522, 1523, 1524, 1525, 1530, 1531, 1532, 1533, 1534, 1535, 1536] (by decide +kernel) (by decide +kernel)) (goodIn_sub (fun _ h => List.mem_append_left _ (List.mem_append_left _ (List.mem_append_right _ h))) (by decide +kernel))) (goodIn_sub (fun _ h => List.mem_append_left _ (List.mem_append_right _ h)) (by decide +kernel))) (goodIn_sub (fun _ h => List.mem_append_left _ (List.mem_append_left _ (List.mem_append_left _ (List.mem_append_left _ (List.mem_append_right _ h))))) (by decide +kernel))
set_option maxRecDepth 20000 in
theorem gL_law_L_partner : GoodIn wsL_law (va_wsS RL 257 yL_partner wsL_partner) := goodIn_app (goodIn_of _ (by decide +kernel)) ggL_law_L_partner
set_option maxRecDepth 20000 in
theorem ggL_law_X10_partner : GoodIn wsL_law wsX10_partner := goodIn_r _ [1188, 126, 131, 1130, 1131, 1132, 5, 1133, 601, 172, 262, 263, 264, 174, 175, 176, 177, 1468, 1469, 1470, 1471, 1472, 1473, 1474, 1475, 1476, 1477, 1478, 1479, 1480, 1481, 1482, 1483, 1484, 1485, 1486, 1487, 1488, 1489, 1490, 1491, 1492, 1493, 1494, 1495, 1496, 1497, 1498, 1537, 1538, 1539, 1540, 1541] (by decide +kernel) (by decide +kernel)
set_option maxRecDepth 20000 in
theorem gL_law_X10_partner : GoodIn wsL_law (wsV RL 259 RX10 yX10_partner wsX10_partner) := goodIn_app (goodIn_of _ (by decide +kernel)) ggL_law_X10_partner
set_option maxRecDepth 20000 in
theorem ggL_law_L_moves : GoodIn wsL_law wsL_moves := goodIn_ca (goodIn_r _ [1191, 155, 1192, 1193, 1194, 2, 1195, 35, 586, 587, 588, 589, 160, 161, 590, 1196, 1197, 1198, 34, 1199, 1067, 92, 1458, 1459, 1460, 1461, 1462, 1463, 1464, 1465, 1466, 1467, 1517, 1518, 1519, 1520, 1521, 1522, 1523, 1524, 1525] (by decide +kernel) (by decide +kernel)) (goodIn_sub (fun _ h => List.mem_append_left _ (List.mem_append_left _ (List.mem_append_left _ (List.mem_append_left _ (List.mem_append_right _ h))))) (by decide +kernel))
set_option maxRecDepth 20000 in
theorem gL_law_L_moves : GoodIn wsL_law (va_wsS RL 260 yL_moves wsL_moves) := goodIn_app (goodIn_of _ (by decide +kernel)) ggL_law_L_moves
set_option maxRecDepth 20000 in
theorem ggL_law_X10_moves : GoodIn wsL_law wsX10_moves := goodIn_r _ [1203, 602, 128, 1130, 1131, 1132, 5, 1133, 601, 172, 1468, 1469, 1470, 1471, 1472, 1473, 1474, 1475, 1476, 1477, 1478, 1479, 1480, 1481, 1482, 1483, 1484, 1485, 1486, 1487, 1488, 1489, 1490, 1491, 1492, 1493, 1494, 1495, 1496, 1497, 1498] (by decide +kernel) (by decide +kernel)
set_option maxRecDepth 20000 in
theorem gL_law_X10_moves : GoodIn wsL_law (wsV RL 262 RX10 yX10_moves wsX10_moves) := goodIn_app (goodIn_of _ (by decide +kernel)) ggL_law_X10_moves
set_option maxRecDepth 20000 in
theorem ggL_law_L_scriptCost : GoodIn wsL_law wsL_scriptCost := goodIn_ca (goodIn_r _ [1206, 155, 1207, 1208, 1209, 2, 1210, 35, 586, 587, 588, 589, 160, 161, 590, 1211, 1212, 1213, 34, 1214, 1067, 1215, 1216, 1217, 1218, 92, 88, 89, 1219, 593, 594, 595, 94, 93, 1220, 663, 664, 44, 665, 63, 60, 1458, 1459, 1460, 1461, 1462, 1463, 1464, 1465, 1466, 1467, 1517, 1518, 1519, 1520, 1521, 1522, 1523, 1524, 1525, 1530, 1531, 1532, 1533, 1534, 1535, 1536] (by decide +kernel) (by decide +kernel)) (goodIn_sub (fun _ h => List.mem_append_left _ (List.mem_append_left _ (List.mem_append_left _ (List.mem_append_left _ (List.mem_append_right _ h))))) (by decide +kernel))
set_option maxRecDepth 20000 in
theorem gL_law_L_scriptCost : GoodIn wsL_law (va_wsS RL 263 yL_scriptCost wsL_scriptCost) := goodIn_app (goodIn_of _ (by decide +kernel)) ggL_law_L_scriptCost
set_option maxRecDepth 20000 in
theorem ggL_law_X10_scriptCost : GoodIn wsL_law wsX10_scriptCost := goodIn_r _ [1224, 602, 1130, 1131, 1132, 5, 1133, 601, 172, 1225, 1226, 1227, 1228, 128, 126, 129, 127, 130, 690, 113, 691, 692, 146, 142, 1468, 1469, 1470, 1471, 1472, 1473, 1474, 1475, 1476, 1477, 1478, 1479, 1480, 1481, 1482, 1483, 1484, 1485, 1486, 1487, 1488, 1489, 1490, 1491, 1492, 1493, 1494, 1495, 1496, 1497, 1498, 1537, 1538, 1539, 1540, 1541] (by decide +kernel) (by decide +kernel)
set_option maxRecDepth 20000 in
theorem gL_law_X10_scriptCost : GoodIn wsL_law (wsV RL 265 RX10 yX10_scriptCost wsX10_scriptCost) := goodIn_app (goodIn_of _ (by decide +kernel)) ggL_law_X10_scriptCost
set_option maxRecDepth 20000 in
theorem ggL_law_L_givesTarget : GoodIn wsL_law wsL_givesTarget := goodIn_ca (goodIn_r _ [1231, 155, 1232, 1233, 1234, 2, 1235, 39, 35, 1183, 1236, 1237, 586, 587, 588, 589, 160, 161, 590, 1238, 1239, 1240, 38, 1241, 100, 1242, 102, 1243, 1048, 1049, 26, 1050, 78, 79, 936, 76, 937, 77, 938, 1051, 933, 934, 935, 74, 75, 72, 73, 939, 940, 941, 44, 942, 63, 662, 663, 664, 665, 60, 943, 944, 945, 946, 947, 948, 949, 950, 951, 952, 953, 954, 955, 417, 400, 418, 956, 957, 958, 959, 960, 961, 962, 963, 964, 965, 966, 967, 968, 969, 970, 971, 972, 973, 974, 721, 754, 1052, 1053, 408, 1054, 1055, 1056, 1057, 1058, 1059, 1060, 1061, 1062, 1244, 246, 247, 248, 56, 249, 250, 251, 252, 58, 59, 1245, 1246, 1247, 1248, 61, 1249, 1250, 1251, 1252, 1253, 1254, 1255, 1256, 1257, 1258, 1259, 1260, 243, 244, 1261, 884, 885, 886, 887, 888, 889, 890, 1262, 1263, 1264, 1265, 1266, 707, 708, 709, 670, 671, 672, 673, 1267, 1268, 1269, 1270, 103, 104, 1271, 1272, 1273, 1274, 1275, 1276, 1277, 1278, 1279, 1280, 1281, 1282, 1283, 1284, 1285, 1286, 1287, 1288, 1289, 1290, 1291, 1292, 1293, 1294, 1295, 1296, 1297, 1298, 1299, 1300, 1301, 1302, 1303, 1304, 1305, 1306, 228, 229, 230, 1307, 1308, 1309, 1310, 1311, 1312, 1313, 1314, 659, 660, 661, 1315, 1316, 1317, 1318, 1319, 642, 643, 644, 1320, 667, 668, 669, 1321, 219, 220, 221, 883, 1458, 1459, 1460, 1461, 1462, 1463, 1464, 1465, 1466, 1467, 1517, 1518, 1519, 1520, 1521, 1522, 1523, 1524, 1525, 1526, 1527, 1528, 1529, 1505, 1506, 1507, 1508, 1509, 1510, 1511, 1512, 1513, 1514, 1530, 1531, 1532, 1533, 1534, 1535, 1536] (by decide +kernel) (by decide +kernel)) (goodIn_sub (fun _ h => List.mem_append_left _ (List.mem_append_left _ (List.mem_append_left _ (List.mem_append_left _ (List.mem_append_right _ h))))) (by decide +kernel))
set_option maxRecDepth 20000 in
theorem gL_law_L_givesTarget : GoodIn wsL_law (va_wsS RL 266 yL_givesTarget wsL_givesTarget) := goodIn_app (goodIn_of _ (by decide +kernel)) ggL_law_L_givesTarget
set_option maxRecDepth 20000 in
theorem ggL_law_X10_givesTarget : GoodIn wsL_law wsX10_givesTarget := goodIn_r _ [1325, 126, 118, 127, 1130, 1131, 1132, 5, 1133, 601, 172, 1326, 1327, 1328, 1329, 1330, 1331, 134, 602, 1332, 1103, 1104, 1105, 1106, 1102, 124, 125, 979, 980, 981, 982, 120, 510, 113, 511, 512, 57, 146, 142, 513, 507, 508, 509, 983, 984, 985, 986, 119, 987, 988, 417, 400, 418, 690, 691, 692, 1107, 1108, 1109, 1110, 1111, 1112, 1113, 1114, 121, 122, 123, 1333, 1334, 1335, 133, 1336, 1337, 1338, 1339, 1340, 12, 13, 1341, 1342, 1343, 1344, 1345, 1346, 1347, 1348, 1349, 1350, 1351, 128, 1352, 1353, 1354, 1355, 129, 1356, 1357, 1358, 1359, 895, 896, 897, 1360, 1361, 1362, 1363, 1364, 1365, 1366, 1367, 1368, 1369, 1370, 130, 1371, 1372, 1373, 1374, 132, 1375, 1376, 1377, 1378, 1379, 1380, 1381, 1382, 1383, 1384, 1385, 1386, 143, 144, 145, 147, 148, 149, 150, 139, 140, 141, 1468, 1469, 1470, 1471, 1472, 1473, 1474, 1475, 1476, 1477, 1478, 1479, 1480, 1481, 1482, 1483, 1484, 1485, 1486, 1487, 1488, 1489, 1490, 1491, 1492, 1493, 1494, 1495, 1496, 1497, 1498, 1537, 1538, 1539, 1540, 1541, 1550, 1551, 1552, 1553, 1554, 1555] (by decide +kernel) (by decide +kernel)
set_option maxRecDepth 20000 in
theorem gL_law_X10_givesTarget : GoodIn wsL_law (wsV RL 268 RX10 yX10_givesTarget wsX10_givesTarget) := goodIn_app (goodIn_of _ (by decide +kernel)) ggL_law_X10_givesTarget
set_option maxRecDepth 20000 in
theorem ggL_law_L_patch : GoodIn wsL_law wsL_patch := goodIn_ca (goodIn_ca (goodIn_ca (goodIn_r _ [1389, 185, 155, 699, 1390, 1391, 1392, 2, 1393, 704, 705, 39, 35, 1394, 41, 1395, 42, 1236, 195, 196, 197, 198, 199, 200, 201, 15, 586, 587, 588, 589, 160, 161, 590, 1238, 1239, 1240, 38, 1241, 100, 1242, 102, 1243, 1048, 1049, 26, 1050, 78, 79, 936, 76, 937, 77, 938, 1051, 933, 934, 935, 74, 75, 72, 73, 939, 940, 941, 44, 942, 63, 662, 663, 664, 665, 60, 943, 944, 945, 946, 947, 948, 949, 950, 951, 952, 953, 954, 955, 417, 400, 418, 956, 957, 958, 959, 960, 961, 962, 963, 964, 965, 966, 967, 968, 969, 970, 971, 972, 973, 974, 721, 754, 1052, 1053, 408, 1054, 1055, 1056, 1057, 1058, 1059, 1060, 1061, 1062, 1244, 246, 247, 248, 56, 249, 250, 251, 252, 58, 59, 1245, 1246, 1247, 1248, 61, 1249, 1250, 1251, 1252, 1253, 1254, 1255, 1256, 1257, 1258, 1259, 1260, 243, 244, 1261, 884, 885, 886, 887, 888, 889, 890, 1262, 1263, 1264, 1265, 1266, 707, 708, 709, 670, 671, 672, 673, 1267, 1268, 1269, 1270, 103, 104, 1271, 1272, 1273, 1274, 1275, 1276, 1277, 1278, 1279, 1280, 1281, 1282, 1283, 1284, 1285, 1286, 1287, 1288, 1289, 1290, 1291, 1292, 1293, 1294, 1295, 1296, 1297, 1298, 1299, 1300, 1301, 1302, 1303, 1304, 1305, 1306, 228, 229, 230, 1307, 1308, 1309, 1310, 1311, 1312, 1313, 1314, 659, 660, 661, 1315, 1316, 1317, 1318, 1319, 642, 643, 644, 1320, 667, 668, 669, 1321, 219, 220, 221, 245, 1458, 1459, 1460, 1461, 1462, 1463, 1464, 1465, 1466, 1467, 1526, 1527, 1528, 1529, 1530, 1531, 1532, 1533, 1534, 1535, 1536, 1517, 1518, 1519, 1520, 1521, 1522, 1523, 1524, 1525, 1505, 1506, 1507, 1508, 1509, 1510, 1511, 1512, 1513, 1514] (by decide +kernel) (by decide +kernel)) (goodIn_sub (fun _ h => List.mem_append_right _ h) (by decide +kernel))) (goodIn_sub (fun _ h => List.mem_append_left _ (List.mem_append_left _ (List.mem_append_right _ h))) (by decide +kernel))) (goodIn_sub (fun _ h => List.mem_append_left _ (List.mem_append_left _ (List.mem_append_left _ (List.mem_append_left _ (List.mem_append_right _ h))))) (by decide +kernel))
set_option maxRecDepth 20000 in
theorem gL_law_L_patch : GoodIn wsL_law (va_wsS RL 269 yL_patch wsL_patch) := goodIn_app (goodIn_of _ (by decide +kernel)) ggL_law_L_patch
set_option maxRecDepth 20000 in
theorem ggL_law_X10_patch : GoodIn wsL_law wsX10_patch := goodIn_r _ [1399, 172, 601, 114, 135, 1332, 1400, 118, 259, 260, 5, 261, 262, 263, 264, 174, 175, 176, 177, 1326, 1327, 1328, 1329, 126, 1330, 1331, 134, 602, 1103, 1104, 1105, 1106, 1102, 124, 125, 979, 980, 981, 982, 120, 510, 113, 511, 512, 57, 146, 142, 513, 507, 508, 509, 983, 984, 985, 986, 119, 987, 988, 417, 400, 418, 690, 691, 692, 1107, 1108, 1109, 1110, 1111, 1112, 1113, 1114, 121, 122, 123, 1333, 1334, 1335, 133, 1336, 1337, 1338, 1339, 1340, 12, 13, 1341, 1342, 1343, 1344, 1345, 1346, 1347, 1348, 1349, 1350, 1351, 128, 1352, 1353, 1354, 1355, 129, 1356, 1357, 1358, 1359, 895, 896, 897, 1360, 1361, 1362, 1363, 1364, 1365, 1366, 1367, 1368, 1369, 1370, 127, 130, 1371, 1372, 1373, 1374, 132, 1375, 1376, 1377, 1378, 1379, 1380, 1381, 1382, 1383, 1384, 1385, 1386, 143, 144, 145, 147, 148, 149, 150, 139, 140, 141, 288, 289, 290, 1468, 1469, 1470, 1471, 1472, 1473, 1474, 1475, 1476, 1477, 1478, 1479, 1480, 1481, 1482, 1483, 1484, 1485, 1486, 1487, 1488, 1489, 1490, 1491, 1492, 1493, 1494, 1495, 1496, 1497, 1498, 1537, 1538, 1539, 1540, 1541, 1550, 1551, 1552, 1553, 1554, 1555] (by decide +kernel) (by decide +kernel)
set_option maxRecDepth 20000 in
theorem gL_law_X10_patch : GoodIn wsL_law (wsV RL 271 RX10 yX10_patch wsX10_patch) := goodIn_app (goodIn_of _ (by decide +kernel)) ggL_law_X10_patch
set_option maxRecDepth 20000 in
theorem ggL_law_L_conflictOperation : GoodIn wsL_law wsL_conflictOperation := goodIn_ca (goodIn_r _ [1403, 294, 1404, 1405, 1406, 2, 1407, 299, 300, 41, 1458, 1459, 1460, 1461, 1462, 1463, 1464, 1465, 1466, 1467] (by decide +kernel) (by decide +kernel)) (goodIn_sub (fun _ h => List.mem_append_left _ (List.mem_append_right _ h)) (by decide +kernel))
set_option maxRecDepth 20000 in
theorem gL_law_L_conflictOperation : GoodIn wsL_law (va_wsS RL 272 yL_conflictOperation wsL_conflictOperation) := goodIn_app (goodIn_of _ (by decide +kernel)) ggL_law_L_conflictOperation
set_option maxRecDepth 20000 in
theorem ggL_law_X10_conflictOperation : GoodIn wsL_law wsX10_conflictOperation := goodIn_r _ [1411, 172, 135, 174, 175, 176, 5, 177, 1468, 1469, 1470, 1471, 1472, 1473, 1474, 1475, 1476, 1477, 1478, 1479, 1480, 1481, 1482, 1483, 1484, 1485, 1486, 1487, 1488, 1489, 1490, 1491, 1492, 1493, 1494, 1495, 1496, 1497, 1498] (by decide +kernel) (by decide +kernel)
set_option maxRecDepth 20000 in
theorem gL_law_X10_conflictOperation : GoodIn wsL_law (wsV RL 274 RX10 yX10_conflictOperation wsX10_conflictOperation) := goodIn_app (goodIn_of _ (by decide +kernel)) ggL_law_X10_conflictOperation
set_option maxRecDepth 20000 in
theorem ggL_law_L_conflictReason : GoodIn wsL_law wsL_conflictReason := goodIn_ca (goodIn_r _ [1414, 294, 1415, 1416, 1417, 2, 1418, 299, 300, 41, 42, 1458, 1459, 1460, 1461, 1462, 1463, 1464, 1465, 1466, 1467] (by decide +kernel) (by decide +kernel)) (goodIn_sub (fun _ h => List.mem_append_left _ (List.mem_append_right _ h)) (by decide +kernel))
set_option maxRecDepth 20000 in
theorem gL_law_L_conflictReason : GoodIn wsL_law (va_wsS RL 275 yL_conflictReason wsL_conflictReason) := goodIn_app (goodIn_of _ (by decide +kernel)) ggL_law_L_conflictReason
set_option maxRecDepth 20000 in
theorem ggL_law_X10_conflictReason : GoodIn wsL_law wsX10_conflictReason := goodIn_r _ [1422, 172, 135, 1400, 174, 175, 176, 5, 177, 1468, 1469, 1470, 1471, 1472, 1473, 1474, 1475, 1476, 1477, 1478, 1479, 1480, 1481, 1482, 1483, 1484, 1485, 1486, 1487, 1488, 1489, 1490, 1491, 1492, 1493, 1494, 1495, 1496, 1497, 1498] (by decide +kernel) (by decide +kernel)
set_option maxRecDepth 20000 in
theorem gL_law_X10_conflictReason : GoodIn wsL_law (wsV RL 277 RX10 yX10_conflictReason wsX10_conflictReason) := goodIn_app (goodIn_of _ (by decide +kernel)) ggL_law_X10_conflictReason
set_option maxRecDepth 20000 in
theorem ggL_law_X7_isConsistent : GoodIn wsL_law wsX7_isConsistent := goodIn_r _ [1426, 15, 19, 23, 35, 1427, 1428, 1429, 44, 1430, 63, 60, 58, 56, 59, 216, 2, 217, 740, 741, 756, 757, 1431, 1432, 1433, 1434, 1435, 228, 229, 230, 1436, 1437, 1438, 18, 1439, 167, 1440, 1441, 1442, 22, 1443, 326, 1444, 1445, 1446, 34, 1447, 1045, 1067, 88, 89, 1448, 1449, 1450, 1451, 1452, 1068, 90, 91, 1453, 642, 643, 644, 1458, 1459, 1460, 1461, 1462, 1463, 1464, 1465, 1466, 1467, 1530, 1531, 1532, 1533, 1534, 1535, 1536, 1499, 1500, 1501, 1502, 1503, 1504, 1517, 1518, 1519, 1520, 1521, 1522, 1523, 1524, 1525] (by decide +kernel) (by decide +kernel)
set_option maxRecDepth 20000 in
theorem gL_law_X7_isConsistent : GoodIn wsL_law (wsV RL 278 RX7 yX7_isConsistent wsX7_isConsistent) := goodIn_app (goodIn_of _ (by decide +kernel)) ggL_law_X7_isConsistent
set_option maxRecDepth 20000 in
theorem ggL_law_X10_isConsistent : GoodIn wsL_law wsX10_isConsistent := goodIn_r _ [1457, 172, 1468, 1469, 1470, 1471, 1472, 1473, 1474, 1475, 1476, 1477, 1478, 1479, 1480, 1481, 1482, 1483, 1484, 1485, 1486, 1487, 1488, 1489, 1490, 1491, 1492, 1493, 1494, 1495, 1496, 1497, 1498] (by decide +kernel) (by decide +kernel)
set_option maxRecDepth 20000 in
theorem gL_law_X10_isConsistent : GoodIn wsL_law (wsV RL 281 RX10 yX10_isConsistent wsX10_isConsistent) := goodIn_app (goodIn_of _ (by decide +kernel)) ggL_law_X10_isConsistent
theorem dL_law_0 : decode cL_law 0 = .ok (.new 8, 3) := by decide +kernel
theorem dL_law_3 : decode cL_law 3 = .ok (.dup, 1) := by decide +kernel
theorem dL_law_4 : decode cL_law 4 = .ok (.invokespecial 146, 3) := by decide +kernel
theorem dL_law_7 : decode cL_law 7 = .ok (.astore_n 1, 1) := by decide +kernel
theorem dL_law_8 : decode cL_law 8 = .ok (.new 147, 3) := by decide +kernel
theorem dL_law_11 : decode cL_law 11 = .ok (.dup, 1) := by decide +kernel
theorem dL_law_12 : decode cL_law 12 = .ok (.invokespecial 149, 3) := by decide +kernel
theorem dL_law_15 : decode cL_law 15 = .ok (.astore_n 2, 1) := by decide +kernel
theorem dL_law_16 : decode cL_law 16 = .ok (.iconst 1, 1) := by decide +kernel
theorem dL_law_17 : decode cL_law 17 = .ok (.newarray .long, 2) := by decide +kernel
theorem dL_law_19 : decode cL_law 19 = .ok (.astore_n 3, 1) := by decide +kernel
theorem dL_law_20 : decode cL_law 20 = .ok (.iconst 1, 1) := by decide +kernel
theorem dL_law_21 : decode cL_law 21 = .ok (.newarray .double, 2) := by decide +kernel
theorem dL_law_23 : decode cL_law 23 = .ok (.astore 4, 2) := by decide +kernel
theorem dL_law_25 : decode cL_law 25 = .ok (.iconst 0, 1) := by decide +kernel
theorem dL_law_26 : decode cL_law 26 = .ok (.istore 5, 2) := by decide +kernel
theorem dL_law_28 : decode cL_law 28 = .ok (.iload 5, 2) := by decide +kernel
theorem dL_law_30 : decode cL_law 30 = .ok (.aload_n 0, 1) := by decide +kernel
theorem dL_law_31 : decode cL_law 31 = .ok (.arraylength, 1) := by decide +kernel
theorem dL_law_32 : decode cL_law 32 = .ok (.iconst 5, 1) := by decide +kernel
theorem dL_law_33 : decode cL_law 33 = .ok (.isub, 1) := by decide +kernel
theorem dL_law_34 : decode cL_law 34 = .ok (.if_icmp .gt 2622, 3) := by decide +kernel
theorem dL_law_37 : decode cL_law 37 = .ok (.aload_n 0, 1) := by decide +kernel
theorem dL_law_38 : decode cL_law 38 = .ok (.iload 5, 2) := by decide +kernel
theorem dL_law_40 : decode cL_law 40 = .ok (.iaload, 1) := by decide +kernel
theorem dL_law_41 : decode cL_law 41 = .ok (.bipush 63, 2) := by decide +kernel
theorem dL_law_43 : decode cL_law 43 = .ok (.iand, 1) := by decide +kernel
theorem dL_law_44 : decode cL_law 44 = .ok (.tableswitch 2606 0 38 #[172, 230, 286, 330, 386, 430, 486, 580, 648, 730, 810, 890, 958, 1014, 1082, 1150, 1218, 1286, 1354, 1422, 1490, 1589, 1669, 1749, 1817, 1885, 1974, 2042, 2086, 2142, 2198, 2254, 2310, 2354, 2398, 2449, 2505, 2549, 2593], 172) := by decide +kernel
theorem dL_law_216 : decode cL_law 216 = .ok (.aload_n 1, 1) := by decide +kernel
theorem dL_law_217 : decode cL_law 217 = .ok (.aload_n 0, 1) := by decide +kernel
theorem dL_law_218 : decode cL_law 218 = .ok (.iload 5, 2) := by decide +kernel
theorem dL_law_220 : decode cL_law 220 = .ok (.iconst 1, 1) := by decide +kernel
theorem dL_law_221 : decode cL_law 221 = .ok (.iadd, 1) := by decide +kernel
theorem dL_law_222 : decode cL_law 222 = .ok (.iaload, 1) := by decide +kernel
theorem dL_law_223 : decode cL_law 223 = .ok (.i2c, 1) := by decide +kernel
theorem dL_law_224 : decode cL_law 224 = .ok (.aload_n 3, 1) := by decide +kernel
theorem dL_law_225 : decode cL_law 225 = .ok (.invokestatic 150, 3) := by decide +kernel
theorem dL_law_228 : decode cL_law 228 = .ok (.istore 6, 2) := by decide +kernel
theorem dL_law_230 : decode cL_law 230 = .ok (.aload_n 2, 1) := by decide +kernel
theorem dL_law_231 : decode cL_law 231 = .ok (.aload_n 0, 1) := by decide +kernel
theorem dL_law_232 : decode cL_law 232 = .ok (.iload 5, 2) := by decide +kernel
theorem dL_law_234 : decode cL_law 234 = .ok (.iconst 1, 1) := by decide +kernel
theorem dL_law_235 : decode cL_law 235 = .ok (.iadd, 1) := by decide +kernel
theorem dL_law_236 : decode cL_law 236 = .ok (.iaload, 1) := by decide +kernel
theorem dL_law_237 : decode cL_law 237 = .ok (.i2c, 1) := by decide +kernel
theorem dL_law_238 : decode cL_law 238 = .ok (.invokevirtual 155, 3) := by decide +kernel
theorem dL_law_241 : decode cL_law 241 = .ok (.istore 7, 2) := by decide +kernel
theorem dL_law_243 : decode cL_law 243 = .ok (.aload_n 2, 1) := by decide +kernel
theorem dL_law_244 : decode cL_law 244 = .ok (.invokevirtual 156, 3) := by decide +kernel
theorem dL_law_247 : decode cL_law 247 = .ok (.iload 6, 2) := by decide +kernel
theorem dL_law_249 : decode cL_law 249 = .ok (.if_icmp .eq 5, 3) := by decide +kernel
theorem dL_law_252 : decode cL_law 252 = .ok (.iconst 0, 1) := by decide +kernel
theorem dL_law_253 : decode cL_law 253 = .ok (.ireturn, 1) := by decide +kernel
theorem dL_law_254 : decode cL_law 254 = .ok (.iload 6, 2) := by decide +kernel
theorem dL_law_256 : decode cL_law 256 = .ok (.ifCond .ne 15, 3) := by decide +kernel
theorem dL_law_259 : decode cL_law 259 = .ok (.aload_n 3, 1) := by decide +kernel
theorem dL_law_260 : decode cL_law 260 = .ok (.iconst 0, 1) := by decide +kernel
theorem dL_law_261 : decode cL_law 261 = .ok (.laload, 1) := by decide +kernel
theorem dL_law_262 : decode cL_law 262 = .ok (.iload 7, 2) := by decide +kernel
theorem dL_law_264 : decode cL_law 264 = .ok (.i2l, 1) := by decide +kernel
theorem dL_law_265 : decode cL_law 265 = .ok (.lcmp, 1) := by decide +kernel
theorem dL_law_266 : decode cL_law 266 = .ok (.ifCond .eq 5, 3) := by decide +kernel
theorem dL_law_269 : decode cL_law 269 = .ok (.iconst 0, 1) := by decide +kernel
theorem dL_law_270 : decode cL_law 270 = .ok (.ireturn, 1) := by decide +kernel
theorem dL_law_271 : decode cL_law 271 = .ok (.goto 2379, 3) := by decide +kernel
theorem dL_law_274 : decode cL_law 274 = .ok (.aload_n 1, 1) := by decide +kernel
theorem dL_law_275 : decode cL_law 275 = .ok (.aload_n 0, 1) := by decide +kernel
theorem dL_law_276 : decode cL_law 276 = .ok (.iload 5, 2) := by decide +kernel
theorem dL_law_278 : decode cL_law 278 = .ok (.iconst 1, 1) := by decide +kernel
theorem dL_law_279 : decode cL_law 279 = .ok (.iadd, 1) := by decide +kernel
theorem dL_law_280 : decode cL_law 280 = .ok (.iaload, 1) := by decide +kernel
theorem dL_law_281 : decode cL_law 281 = .ok (.aload_n 3, 1) := by decide +kernel
theorem dL_law_282 : decode cL_law 282 = .ok (.invokestatic 159, 3) := by decide +kernel
theorem dL_law_285 : decode cL_law 285 = .ok (.istore 6, 2) := by decide +kernel
theorem dL_law_287 : decode cL_law 287 = .ok (.aload_n 2, 1) := by decide +kernel
theorem dL_law_288 : decode cL_law 288 = .ok (.aload_n 0, 1) := by decide +kernel
theorem dL_law_289 : decode cL_law 289 = .ok (.iload 5, 2) := by decide +kernel
theorem dL_law_291 : decode cL_law 291 = .ok (.iconst 1, 1) := by decide +kernel
theorem dL_law_292 : decode cL_law 292 = .ok (.iadd, 1) := by decide +kernel
theorem dL_law_293 : decode cL_law 293 = .ok (.iaload, 1) := by decide +kernel
theorem dL_law_294 : decode cL_law 294 = .ok (.invokevirtual 162, 3) := by decide +kernel
theorem dL_law_297 : decode cL_law 297 = .ok (.istore 7, 2) := by decide +kernel
theorem dL_law_299 : decode cL_law 299 = .ok (.aload_n 2, 1) := by decide +kernel
theorem dL_law_300 : decode cL_law 300 = .ok (.invokevirtual 156, 3) := by decide +kernel
theorem dL_law_303 : decode cL_law 303 = .ok (.iload 6, 2) := by decide +kernel
theorem dL_law_305 : decode cL_law 305 = .ok (.if_icmp .eq 5, 3) := by decide +kernel
theorem dL_law_308 : decode cL_law 308 = .ok (.iconst 0, 1) := by decide +kernel
theorem dL_law_309 : decode cL_law 309 = .ok (.ireturn, 1) := by decide +kernel
theorem dL_law_310 : decode cL_law 310 = .ok (.iload 6, 2) := by decide +kernel
theorem dL_law_312 : decode cL_law 312 = .ok (.ifCond .ne 15, 3) := by decide +kernel
theorem dL_law_315 : decode cL_law 315 = .ok (.aload_n 3, 1) := by decide +kernel
theorem dL_law_316 : decode cL_law 316 = .ok (.iconst 0, 1) := by decide +kernel
theorem dL_law_317 : decode cL_law 317 = .ok (.laload, 1) := by decide +kernel
theorem dL_law_318 : decode cL_law 318 = .ok (.iload 7, 2) := by decide +kernel
theorem dL_law_320 : decode cL_law 320 = .ok (.i2l, 1) := by decide +kernel
theorem dL_law_321 : decode cL_law 321 = .ok (.lcmp, 1) := by decide +kernel
theorem dL_law_322 : decode cL_law 322 = .ok (.ifCond .eq 5, 3) := by decide +kernel
theorem dL_law_325 : decode cL_law 325 = .ok (.iconst 0, 1) := by decide +kernel
theorem dL_law_326 : decode cL_law 326 = .ok (.ireturn, 1) := by decide +kernel
theorem dL_law_327 : decode cL_law 327 = .ok (.goto 2323, 3) := by decide +kernel
theorem dL_law_330 : decode cL_law 330 = .ok (.aload_n 1, 1) := by decide +kernel
theorem dL_law_331 : decode cL_law 331 = .ok (.aload_n 3, 1) := by decide +kernel
theorem dL_law_332 : decode cL_law 332 = .ok (.invokestatic 163, 3) := by decide +kernel
theorem dL_law_335 : decode cL_law 335 = .ok (.istore 6, 2) := by decide +kernel
theorem dL_law_337 : decode cL_law 337 = .ok (.aload_n 2, 1) := by decide +kernel
theorem dL_law_338 : decode cL_law 338 = .ok (.invokevirtual 166, 3) := by decide +kernel
theorem dL_law_341 : decode cL_law 341 = .ok (.istore 7, 2) := by decide +kernel
theorem dL_law_343 : decode cL_law 343 = .ok (.aload_n 2, 1) := by decide +kernel
theorem dL_law_344 : decode cL_law 344 = .ok (.invokevirtual 156, 3) := by decide +kernel
theorem dL_law_347 : decode cL_law 347 = .ok (.iload 6, 2) := by decide +kernel
theorem dL_law_349 : decode cL_law 349 = .ok (.if_icmp .eq 5, 3) := by decide +kernel
theorem dL_law_352 : decode cL_law 352 = .ok (.iconst 0, 1) := by decide +kernel
theorem dL_law_353 : decode cL_law 353 = .ok (.ireturn, 1) := by decide +kernel
theorem dL_law_354 : decode cL_law 354 = .ok (.iload 6, 2) := by decide +kernel
theorem dL_law_356 : decode cL_law 356 = .ok (.ifCond .ne 15, 3) := by decide +kernel
theorem dL_law_359 : decode cL_law 359 = .ok (.aload_n 3, 1) := by decide +kernel
theorem dL_law_360 : decode cL_law 360 = .ok (.iconst 0, 1) := by decide +kernel
theorem dL_law_361 : decode cL_law 361 = .ok (.laload, 1) := by decide +kernel
theorem dL_law_362 : decode cL_law 362 = .ok (.iload 7, 2) := by decide +kernel
theorem dL_law_364 : decode cL_law 364 = .ok (.i2l, 1) := by decide +kernel
theorem dL_law_365 : decode cL_law 365 = .ok (.lcmp, 1) := by decide +kernel
theorem dL_law_366 : decode cL_law 366 = .ok (.ifCond .eq 5, 3) := by decide +kernel
theorem dL_law_369 : decode cL_law 369 = .ok (.iconst 0, 1) := by decide +kernel
theorem dL_law_370 : decode cL_law 370 = .ok (.ireturn, 1) := by decide +kernel
theorem dL_law_371 : decode cL_law 371 = .ok (.goto 2279, 3) := by decide +kernel
theorem dL_law_374 : decode cL_law 374 = .ok (.aload_n 1, 1) := by decide +kernel
theorem dL_law_375 : decode cL_law 375 = .ok (.aload_n 0, 1) := by decide +kernel
theorem dL_law_376 : decode cL_law 376 = .ok (.iload 5, 2) := by decide +kernel
theorem dL_law_378 : decode cL_law 378 = .ok (.iconst 1, 1) := by decide +kernel
theorem dL_law_379 : decode cL_law 379 = .ok (.iadd, 1) := by decide +kernel
theorem dL_law_380 : decode cL_law 380 = .ok (.iaload, 1) := by decide +kernel
theorem dL_law_381 : decode cL_law 381 = .ok (.aload_n 3, 1) := by decide +kernel
theorem dL_law_382 : decode cL_law 382 = .ok (.invokestatic 167, 3) := by decide +kernel
theorem dL_law_385 : decode cL_law 385 = .ok (.istore 6, 2) := by decide +kernel
theorem dL_law_387 : decode cL_law 387 = .ok (.aload_n 2, 1) := by decide +kernel
theorem dL_law_388 : decode cL_law 388 = .ok (.aload_n 0, 1) := by decide +kernel
theorem dL_law_389 : decode cL_law 389 = .ok (.iload 5, 2) := by decide +kernel
theorem dL_law_391 : decode cL_law 391 = .ok (.iconst 1, 1) := by decide +kernel
theorem dL_law_392 : decode cL_law 392 = .ok (.iadd, 1) := by decide +kernel
theorem dL_law_393 : decode cL_law 393 = .ok (.iaload, 1) := by decide +kernel
theorem dL_law_394 : decode cL_law 394 = .ok (.invokevirtual 169, 3) := by decide +kernel
theorem dL_law_397 : decode cL_law 397 = .ok (.istore 7, 2) := by decide +kernel
theorem dL_law_399 : decode cL_law 399 = .ok (.aload_n 2, 1) := by decide +kernel
theorem dL_law_400 : decode cL_law 400 = .ok (.invokevirtual 156, 3) := by decide +kernel
theorem dL_law_403 : decode cL_law 403 = .ok (.iload 6, 2) := by decide +kernel
theorem dL_law_405 : decode cL_law 405 = .ok (.if_icmp .eq 5, 3) := by decide +kernel
theorem dL_law_408 : decode cL_law 408 = .ok (.iconst 0, 1) := by decide +kernel
theorem dL_law_409 : decode cL_law 409 = .ok (.ireturn, 1) := by decide +kernel
theorem dL_law_410 : decode cL_law 410 = .ok (.iload 6, 2) := by decide +kernel
theorem dL_law_412 : decode cL_law 412 = .ok (.ifCond .ne 15, 3) := by decide +kernel
theorem dL_law_415 : decode cL_law 415 = .ok (.aload_n 3, 1) := by decide +kernel
theorem dL_law_416 : decode cL_law 416 = .ok (.iconst 0, 1) := by decide +kernel
theorem dL_law_417 : decode cL_law 417 = .ok (.laload, 1) := by decide +kernel
theorem dL_law_418 : decode cL_law 418 = .ok (.iload 7, 2) := by decide +kernel
theorem dL_law_420 : decode cL_law 420 = .ok (.i2l, 1) := by decide +kernel
theorem dL_law_421 : decode cL_law 421 = .ok (.lcmp, 1) := by decide +kernel
theorem dL_law_422 : decode cL_law 422 = .ok (.ifCond .eq 5, 3) := by decide +kernel
theorem dL_law_425 : decode cL_law 425 = .ok (.iconst 0, 1) := by decide +kernel
theorem dL_law_426 : decode cL_law 426 = .ok (.ireturn, 1) := by decide +kernel
theorem dL_law_427 : decode cL_law 427 = .ok (.goto 2223, 3) := by decide +kernel
theorem dL_law_430 : decode cL_law 430 = .ok (.aload_n 1, 1) := by decide +kernel
theorem dL_law_431 : decode cL_law 431 = .ok (.aload_n 3, 1) := by decide +kernel
theorem dL_law_432 : decode cL_law 432 = .ok (.invokestatic 170, 3) := by decide +kernel
theorem dL_law_435 : decode cL_law 435 = .ok (.istore 6, 2) := by decide +kernel
theorem dL_law_437 : decode cL_law 437 = .ok (.aload_n 2, 1) := by decide +kernel
theorem dL_law_438 : decode cL_law 438 = .ok (.invokevirtual 172, 3) := by decide +kernel
theorem dL_law_441 : decode cL_law 441 = .ok (.istore 7, 2) := by decide +kernel
theorem dL_law_443 : decode cL_law 443 = .ok (.aload_n 2, 1) := by decide +kernel
theorem dL_law_444 : decode cL_law 444 = .ok (.invokevirtual 156, 3) := by decide +kernel
theorem dL_law_447 : decode cL_law 447 = .ok (.iload 6, 2) := by decide +kernel
theorem dL_law_449 : decode cL_law 449 = .ok (.if_icmp .eq 5, 3) := by decide +kernel
theorem dL_law_452 : decode cL_law 452 = .ok (.iconst 0, 1) := by decide +kernel
theorem dL_law_453 : decode cL_law 453 = .ok (.ireturn, 1) := by decide +kernel
theorem dL_law_454 : decode cL_law 454 = .ok (.iload 6, 2) := by decide +kernel
theorem dL_law_456 : decode cL_law 456 = .ok (.ifCond .ne 15, 3) := by decide +kernel
theorem dL_law_459 : decode cL_law 459 = .ok (.aload_n 3, 1) := by decide +kernel
theorem dL_law_460 : decode cL_law 460 = .ok (.iconst 0, 1) := by decide +kernel
theorem dL_law_461 : decode cL_law 461 = .ok (.laload, 1) := by decide +kernel
theorem dL_law_462 : decode cL_law 462 = .ok (.iload 7, 2) := by decide +kernel
theorem dL_law_464 : decode cL_law 464 = .ok (.i2l, 1) := by decide +kernel
theorem dL_law_465 : decode cL_law 465 = .ok (.lcmp, 1) := by decide +kernel
theorem dL_law_466 : decode cL_law 466 = .ok (.ifCond .eq 5, 3) := by decide +kernel
theorem dL_law_469 : decode cL_law 469 = .ok (.iconst 0, 1) := by decide +kernel
theorem dL_law_470 : decode cL_law 470 = .ok (.ireturn, 1) := by decide +kernel
theorem dL_law_471 : decode cL_law 471 = .ok (.goto 2179, 3) := by decide +kernel
theorem dL_law_474 : decode cL_law 474 = .ok (.aload_n 1, 1) := by decide +kernel
theorem dL_law_475 : decode cL_law 475 = .ok (.aload_n 0, 1) := by decide +kernel
theorem dL_law_476 : decode cL_law 476 = .ok (.iload 5, 2) := by decide +kernel
theorem dL_law_478 : decode cL_law 478 = .ok (.iconst 1, 1) := by decide +kernel
theorem dL_law_479 : decode cL_law 479 = .ok (.iadd, 1) := by decide +kernel
theorem dL_law_480 : decode cL_law 480 = .ok (.iaload, 1) := by decide +kernel
theorem dL_law_481 : decode cL_law 481 = .ok (.aload_n 3, 1) := by decide +kernel
theorem dL_law_482 : decode cL_law 482 = .ok (.invokestatic 173, 3) := by decide +kernel
theorem dL_law_485 : decode cL_law 485 = .ok (.istore 6, 2) := by decide +kernel
theorem dL_law_487 : decode cL_law 487 = .ok (.aload_n 2, 1) := by decide +kernel
theorem dL_law_488 : decode cL_law 488 = .ok (.aload_n 0, 1) := by decide +kernel
theorem dL_law_489 : decode cL_law 489 = .ok (.iload 5, 2) := by decide +kernel
theorem dL_law_491 : decode cL_law 491 = .ok (.iconst 1, 1) := by decide +kernel
theorem dL_law_492 : decode cL_law 492 = .ok (.iadd, 1) := by decide +kernel
theorem dL_law_493 : decode cL_law 493 = .ok (.iaload, 1) := by decide +kernel
theorem dL_law_494 : decode cL_law 494 = .ok (.invokevirtual 175, 3) := by decide +kernel
theorem dL_law_497 : decode cL_law 497 = .ok (.istore 7, 2) := by decide +kernel
theorem dL_law_499 : decode cL_law 499 = .ok (.aload_n 2, 1) := by decide +kernel
theorem dL_law_500 : decode cL_law 500 = .ok (.invokevirtual 156, 3) := by decide +kernel
theorem dL_law_503 : decode cL_law 503 = .ok (.iload 6, 2) := by decide +kernel
theorem dL_law_505 : decode cL_law 505 = .ok (.if_icmp .eq 5, 3) := by decide +kernel
theorem dL_law_508 : decode cL_law 508 = .ok (.iconst 0, 1) := by decide +kernel
theorem dL_law_509 : decode cL_law 509 = .ok (.ireturn, 1) := by decide +kernel
theorem dL_law_510 : decode cL_law 510 = .ok (.iload 6, 2) := by decide +kernel
theorem dL_law_512 : decode cL_law 512 = .ok (.ifCond .ne 15, 3) := by decide +kernel
theorem dL_law_515 : decode cL_law 515 = .ok (.aload_n 3, 1) := by decide +kernel
theorem dL_law_516 : decode cL_law 516 = .ok (.iconst 0, 1) := by decide +kernel
theorem dL_law_517 : decode cL_law 517 = .ok (.laload, 1) := by decide +kernel
theorem dL_law_518 : decode cL_law 518 = .ok (.iload 7, 2) := by decide +kernel
theorem dL_law_520 : decode cL_law 520 = .ok (.i2l, 1) := by decide +kernel
theorem dL_law_521 : decode cL_law 521 = .ok (.lcmp, 1) := by decide +kernel
theorem dL_law_522 : decode cL_law 522 = .ok (.ifCond .eq 5, 3) := by decide +kernel
theorem dL_law_525 : decode cL_law 525 = .ok (.iconst 0, 1) := by decide +kernel
theorem dL_law_526 : decode cL_law 526 = .ok (.ireturn, 1) := by decide +kernel
theorem dL_law_527 : decode cL_law 527 = .ok (.goto 2123, 3) := by decide +kernel
theorem dL_law_530 : decode cL_law 530 = .ok (.aload_n 1, 1) := by decide +kernel
theorem dL_law_531 : decode cL_law 531 = .ok (.aload_n 0, 1) := by decide +kernel
theorem dL_law_532 : decode cL_law 532 = .ok (.iload 5, 2) := by decide +kernel
theorem dL_law_534 : decode cL_law 534 = .ok (.iconst 1, 1) := by decide +kernel
theorem dL_law_535 : decode cL_law 535 = .ok (.iadd, 1) := by decide +kernel
theorem dL_law_536 : decode cL_law 536 = .ok (.iaload, 1) := by decide +kernel
theorem dL_law_537 : decode cL_law 537 = .ok (.aload_n 0, 1) := by decide +kernel
theorem dL_law_538 : decode cL_law 538 = .ok (.iload 5, 2) := by decide +kernel
theorem dL_law_540 : decode cL_law 540 = .ok (.iconst 2, 1) := by decide +kernel
theorem dL_law_541 : decode cL_law 541 = .ok (.iadd, 1) := by decide +kernel
theorem dL_law_542 : decode cL_law 542 = .ok (.iaload, 1) := by decide +kernel
theorem dL_law_543 : decode cL_law 543 = .ok (.aload_n 0, 1) := by decide +kernel
theorem dL_law_544 : decode cL_law 544 = .ok (.iload 5, 2) := by decide +kernel
theorem dL_law_546 : decode cL_law 546 = .ok (.iconst 3, 1) := by decide +kernel
theorem dL_law_547 : decode cL_law 547 = .ok (.iadd, 1) := by decide +kernel
theorem dL_law_548 : decode cL_law 548 = .ok (.iaload, 1) := by decide +kernel
theorem dL_law_549 : decode cL_law 549 = .ok (.aload_n 0, 1) := by decide +kernel
theorem dL_law_550 : decode cL_law 550 = .ok (.iload 5, 2) := by decide +kernel
theorem dL_law_552 : decode cL_law 552 = .ok (.iconst 4, 1) := by decide +kernel
theorem dL_law_553 : decode cL_law 553 = .ok (.iadd, 1) := by decide +kernel
theorem dL_law_554 : decode cL_law 554 = .ok (.iaload, 1) := by decide +kernel
theorem dL_law_555 : decode cL_law 555 = .ok (.i2c, 1) := by decide +kernel
theorem dL_law_556 : decode cL_law 556 = .ok (.aload_n 3, 1) := by decide +kernel
theorem dL_law_557 : decode cL_law 557 = .ok (.invokestatic 176, 3) := by decide +kernel
theorem dL_law_560 : decode cL_law 560 = .ok (.istore 6, 2) := by decide +kernel
theorem dL_law_562 : decode cL_law 562 = .ok (.aload_n 2, 1) := by decide +kernel
theorem dL_law_563 : decode cL_law 563 = .ok (.aload_n 0, 1) := by decide +kernel
theorem dL_law_564 : decode cL_law 564 = .ok (.iload 5, 2) := by decide +kernel
theorem dL_law_566 : decode cL_law 566 = .ok (.iconst 1, 1) := by decide +kernel
theorem dL_law_567 : decode cL_law 567 = .ok (.iadd, 1) := by decide +kernel
theorem dL_law_568 : decode cL_law 568 = .ok (.iaload, 1) := by decide +kernel
theorem dL_law_569 : decode cL_law 569 = .ok (.aload_n 0, 1) := by decide +kernel
theorem dL_law_570 : decode cL_law 570 = .ok (.iload 5, 2) := by decide +kernel
theorem dL_law_572 : decode cL_law 572 = .ok (.iconst 2, 1) := by decide +kernel
theorem dL_law_573 : decode cL_law 573 = .ok (.iadd, 1) := by decide +kernel
theorem dL_law_574 : decode cL_law 574 = .ok (.iaload, 1) := by decide +kernel
theorem dL_law_575 : decode cL_law 575 = .ok (.aload_n 0, 1) := by decide +kernel
theorem dL_law_576 : decode cL_law 576 = .ok (.iload 5, 2) := by decide +kernel
theorem dL_law_578 : decode cL_law 578 = .ok (.iconst 3, 1) := by decide +kernel
theorem dL_law_579 : decode cL_law 579 = .ok (.iadd, 1) := by decide +kernel
theorem dL_law_580 : decode cL_law 580 = .ok (.iaload, 1) := by decide +kernel
theorem dL_law_581 : decode cL_law 581 = .ok (.aload_n 0, 1) := by decide +kernel
theorem dL_law_582 : decode cL_law 582 = .ok (.iload 5, 2) := by decide +kernel
theorem dL_law_584 : decode cL_law 584 = .ok (.iconst 4, 1) := by decide +kernel
theorem dL_law_585 : decode cL_law 585 = .ok (.iadd, 1) := by decide +kernel
theorem dL_law_586 : decode cL_law 586 = .ok (.iaload, 1) := by decide +kernel
theorem dL_law_587 : decode cL_law 587 = .ok (.i2c, 1) := by decide +kernel
theorem dL_law_588 : decode cL_law 588 = .ok (.invokevirtual 179, 3) := by decide +kernel
theorem dL_law_591 : decode cL_law 591 = .ok (.istore 7, 2) := by decide +kernel
theorem dL_law_593 : decode cL_law 593 = .ok (.aload_n 2, 1) := by decide +kernel
theorem dL_law_594 : decode cL_law 594 = .ok (.invokevirtual 156, 3) := by decide +kernel
theorem dL_law_597 : decode cL_law 597 = .ok (.iload 6, 2) := by decide +kernel
theorem dL_law_599 : decode cL_law 599 = .ok (.if_icmp .eq 5, 3) := by decide +kernel
theorem dL_law_602 : decode cL_law 602 = .ok (.iconst 0, 1) := by decide +kernel
theorem dL_law_603 : decode cL_law 603 = .ok (.ireturn, 1) := by decide +kernel
theorem dL_law_604 : decode cL_law 604 = .ok (.iload 6, 2) := by decide +kernel
theorem dL_law_606 : decode cL_law 606 = .ok (.ifCond .ne 15, 3) := by decide +kernel
theorem dL_law_609 : decode cL_law 609 = .ok (.aload_n 3, 1) := by decide +kernel
theorem dL_law_610 : decode cL_law 610 = .ok (.iconst 0, 1) := by decide +kernel
theorem dL_law_611 : decode cL_law 611 = .ok (.laload, 1) := by decide +kernel
theorem dL_law_612 : decode cL_law 612 = .ok (.iload 7, 2) := by decide +kernel
theorem dL_law_614 : decode cL_law 614 = .ok (.i2l, 1) := by decide +kernel
theorem dL_law_615 : decode cL_law 615 = .ok (.lcmp, 1) := by decide +kernel
theorem dL_law_616 : decode cL_law 616 = .ok (.ifCond .eq 5, 3) := by decide +kernel
theorem dL_law_619 : decode cL_law 619 = .ok (.iconst 0, 1) := by decide +kernel
theorem dL_law_620 : decode cL_law 620 = .ok (.ireturn, 1) := by decide +kernel
theorem dL_law_621 : decode cL_law 621 = .ok (.goto 2029, 3) := by decide +kernel
theorem dL_law_624 : decode cL_law 624 = .ok (.aload_n 1, 1) := by decide +kernel
theorem dL_law_625 : decode cL_law 625 = .ok (.aload_n 0, 1) := by decide +kernel
theorem dL_law_626 : decode cL_law 626 = .ok (.iload 5, 2) := by decide +kernel
theorem dL_law_628 : decode cL_law 628 = .ok (.iconst 1, 1) := by decide +kernel
theorem dL_law_629 : decode cL_law 629 = .ok (.iadd, 1) := by decide +kernel
theorem dL_law_630 : decode cL_law 630 = .ok (.iaload, 1) := by decide +kernel
theorem dL_law_631 : decode cL_law 631 = .ok (.aload_n 0, 1) := by decide +kernel
theorem dL_law_632 : decode cL_law 632 = .ok (.iload 5, 2) := by decide +kernel
theorem dL_law_634 : decode cL_law 634 = .ok (.iconst 2, 1) := by decide +kernel
theorem dL_law_635 : decode cL_law 635 = .ok (.iadd, 1) := by decide +kernel
theorem dL_law_636 : decode cL_law 636 = .ok (.iaload, 1) := by decide +kernel
theorem dL_law_637 : decode cL_law 637 = .ok (.aload_n 3, 1) := by decide +kernel
theorem dL_law_638 : decode cL_law 638 = .ok (.invokestatic 180, 3) := by decide +kernel
theorem dL_law_641 : decode cL_law 641 = .ok (.istore 6, 2) := by decide +kernel
theorem dL_law_643 : decode cL_law 643 = .ok (.aload_n 2, 1) := by decide +kernel
theorem dL_law_644 : decode cL_law 644 = .ok (.aload_n 0, 1) := by decide +kernel
theorem dL_law_645 : decode cL_law 645 = .ok (.iload 5, 2) := by decide +kernel
theorem dL_law_647 : decode cL_law 647 = .ok (.iconst 1, 1) := by decide +kernel
theorem dL_law_648 : decode cL_law 648 = .ok (.iadd, 1) := by decide +kernel
theorem dL_law_649 : decode cL_law 649 = .ok (.iaload, 1) := by decide +kernel
theorem dL_law_650 : decode cL_law 650 = .ok (.aload_n 0, 1) := by decide +kernel
theorem dL_law_651 : decode cL_law 651 = .ok (.iload 5, 2) := by decide +kernel
theorem dL_law_653 : decode cL_law 653 = .ok (.iconst 2, 1) := by decide +kernel
theorem dL_law_654 : decode cL_law 654 = .ok (.iadd, 1) := by decide +kernel
theorem dL_law_655 : decode cL_law 655 = .ok (.iaload, 1) := by decide +kernel
theorem dL_law_656 : decode cL_law 656 = .ok (.invokevirtual 183, 3) := by decide +kernel
theorem dL_law_659 : decode cL_law 659 = .ok (.istore 7, 2) := by decide +kernel
theorem dL_law_661 : decode cL_law 661 = .ok (.aload_n 2, 1) := by decide +kernel
theorem dL_law_662 : decode cL_law 662 = .ok (.invokevirtual 156, 3) := by decide +kernel
theorem dL_law_665 : decode cL_law 665 = .ok (.iload 6, 2) := by decide +kernel
theorem dL_law_667 : decode cL_law 667 = .ok (.if_icmp .eq 5, 3) := by decide +kernel
theorem dL_law_670 : decode cL_law 670 = .ok (.iconst 0, 1) := by decide +kernel
theorem dL_law_671 : decode cL_law 671 = .ok (.ireturn, 1) := by decide +kernel
theorem dL_law_672 : decode cL_law 672 = .ok (.iload 6, 2) := by decide +kernel
theorem dL_law_674 : decode cL_law 674 = .ok (.ifCond .ne 15, 3) := by decide +kernel
theorem dL_law_677 : decode cL_law 677 = .ok (.aload_n 3, 1) := by decide +kernel
theorem dL_law_678 : decode cL_law 678 = .ok (.iconst 0, 1) := by decide +kernel
theorem dL_law_679 : decode cL_law 679 = .ok (.laload, 1) := by decide +kernel
theorem dL_law_680 : decode cL_law 680 = .ok (.iload 7, 2) := by decide +kernel
theorem dL_law_682 : decode cL_law 682 = .ok (.i2l, 1) := by decide +kernel
theorem dL_law_683 : decode cL_law 683 = .ok (.lcmp, 1) := by decide +kernel
theorem dL_law_684 : decode cL_law 684 = .ok (.ifCond .eq 5, 3) := by decide +kernel
theorem dL_law_687 : decode cL_law 687 = .ok (.iconst 0, 1) := by decide +kernel
theorem dL_law_688 : decode cL_law 688 = .ok (.ireturn, 1) := by decide +kernel
theorem dL_law_689 : decode cL_law 689 = .ok (.goto 1961, 3) := by decide +kernel
theorem dL_law_692 : decode cL_law 692 = .ok (.aload_n 1, 1) := by decide +kernel
theorem dL_law_693 : decode cL_law 693 = .ok (.aload_n 0, 1) := by decide +kernel
theorem dL_law_694 : decode cL_law 694 = .ok (.iload 5, 2) := by decide +kernel
theorem dL_law_696 : decode cL_law 696 = .ok (.iconst 1, 1) := by decide +kernel
theorem dL_law_697 : decode cL_law 697 = .ok (.iadd, 1) := by decide +kernel
theorem dL_law_698 : decode cL_law 698 = .ok (.iaload, 1) := by decide +kernel
theorem dL_law_699 : decode cL_law 699 = .ok (.aload_n 0, 1) := by decide +kernel
theorem dL_law_700 : decode cL_law 700 = .ok (.iload 5, 2) := by decide +kernel
theorem dL_law_702 : decode cL_law 702 = .ok (.iconst 2, 1) := by decide +kernel
theorem dL_law_703 : decode cL_law 703 = .ok (.iadd, 1) := by decide +kernel
theorem dL_law_704 : decode cL_law 704 = .ok (.iaload, 1) := by decide +kernel
theorem dL_law_705 : decode cL_law 705 = .ok (.aload_n 0, 1) := by decide +kernel
theorem dL_law_706 : decode cL_law 706 = .ok (.iload 5, 2) := by decide +kernel
theorem dL_law_708 : decode cL_law 708 = .ok (.iconst 3, 1) := by decide +kernel
theorem dL_law_709 : decode cL_law 709 = .ok (.iadd, 1) := by decide +kernel
theorem dL_law_710 : decode cL_law 710 = .ok (.iaload, 1) := by decide +kernel
theorem dL_law_711 : decode cL_law 711 = .ok (.i2c, 1) := by decide +kernel
theorem dL_law_712 : decode cL_law 712 = .ok (.aload_n 3, 1) := by decide +kernel
theorem dL_law_713 : decode cL_law 713 = .ok (.invokestatic 184, 3) := by decide +kernel
theorem dL_law_716 : decode cL_law 716 = .ok (.istore 6, 2) := by decide +kernel
theorem dL_law_718 : decode cL_law 718 = .ok (.aload_n 2, 1) := by decide +kernel
theorem dL_law_719 : decode cL_law 719 = .ok (.aload_n 0, 1) := by decide +kernel
theorem dL_law_720 : decode cL_law 720 = .ok (.iload 5, 2) := by decide +kernel
theorem dL_law_722 : decode cL_law 722 = .ok (.iconst 1, 1) := by decide +kernel
theorem dL_law_723 : decode cL_law 723 = .ok (.iadd, 1) := by decide +kernel
theorem dL_law_724 : decode cL_law 724 = .ok (.iaload, 1) := by decide +kernel
theorem dL_law_725 : decode cL_law 725 = .ok (.aload_n 0, 1) := by decide +kernel
theorem dL_law_726 : decode cL_law 726 = .ok (.iload 5, 2) := by decide +kernel
theorem dL_law_728 : decode cL_law 728 = .ok (.iconst 2, 1) := by decide +kernel
theorem dL_law_729 : decode cL_law 729 = .ok (.iadd, 1) := by decide +kernel
theorem dL_law_730 : decode cL_law 730 = .ok (.iaload, 1) := by decide +kernel
theorem dL_law_731 : decode cL_law 731 = .ok (.aload_n 0, 1) := by decide +kernel
theorem dL_law_732 : decode cL_law 732 = .ok (.iload 5, 2) := by decide +kernel
theorem dL_law_734 : decode cL_law 734 = .ok (.iconst 3, 1) := by decide +kernel
theorem dL_law_735 : decode cL_law 735 = .ok (.iadd, 1) := by decide +kernel
theorem dL_law_736 : decode cL_law 736 = .ok (.iaload, 1) := by decide +kernel
theorem dL_law_737 : decode cL_law 737 = .ok (.i2c, 1) := by decide +kernel
theorem dL_law_738 : decode cL_law 738 = .ok (.invokevirtual 187, 3) := by decide +kernel
theorem dL_law_741 : decode cL_law 741 = .ok (.istore 7, 2) := by decide +kernel
theorem dL_law_743 : decode cL_law 743 = .ok (.aload_n 2, 1) := by decide +kernel
theorem dL_law_744 : decode cL_law 744 = .ok (.invokevirtual 156, 3) := by decide +kernel
theorem dL_law_747 : decode cL_law 747 = .ok (.iload 6, 2) := by decide +kernel
theorem dL_law_749 : decode cL_law 749 = .ok (.if_icmp .eq 5, 3) := by decide +kernel
theorem dL_law_752 : decode cL_law 752 = .ok (.iconst 0, 1) := by decide +kernel
theorem dL_law_753 : decode cL_law 753 = .ok (.ireturn, 1) := by decide +kernel
theorem dL_law_754 : decode cL_law 754 = .ok (.iload 6, 2) := by decide +kernel
theorem dL_law_756 : decode cL_law 756 = .ok (.ifCond .ne 15, 3) := by decide +kernel
theorem dL_law_759 : decode cL_law 759 = .ok (.aload_n 3, 1) := by decide +kernel
theorem dL_law_760 : decode cL_law 760 = .ok (.iconst 0, 1) := by decide +kernel
theorem dL_law_761 : decode cL_law 761 = .ok (.laload, 1) := by decide +kernel
theorem dL_law_762 : decode cL_law 762 = .ok (.iload 7, 2) := by decide +kernel
theorem dL_law_764 : decode cL_law 764 = .ok (.i2l, 1) := by decide +kernel
theorem dL_law_765 : decode cL_law 765 = .ok (.lcmp, 1) := by decide +kernel
theorem dL_law_766 : decode cL_law 766 = .ok (.ifCond .eq 5, 3) := by decide +kernel
theorem dL_law_769 : decode cL_law 769 = .ok (.iconst 0, 1) := by decide +kernel
theorem dL_law_770 : decode cL_law 770 = .ok (.ireturn, 1) := by decide +kernel
theorem dL_law_771 : decode cL_law 771 = .ok (.goto 1879, 3) := by decide +kernel
theorem dL_law_774 : decode cL_law 774 = .ok (.aload_n 1, 1) := by decide +kernel
theorem dL_law_775 : decode cL_law 775 = .ok (.aload_n 0, 1) := by decide +kernel
theorem dL_law_776 : decode cL_law 776 = .ok (.iload 5, 2) := by decide +kernel
theorem dL_law_778 : decode cL_law 778 = .ok (.iconst 1, 1) := by decide +kernel
theorem dL_law_779 : decode cL_law 779 = .ok (.iadd, 1) := by decide +kernel
theorem dL_law_780 : decode cL_law 780 = .ok (.iaload, 1) := by decide +kernel
theorem dL_law_781 : decode cL_law 781 = .ok (.aload_n 0, 1) := by decide +kernel
theorem dL_law_782 : decode cL_law 782 = .ok (.iload 5, 2) := by decide +kernel
theorem dL_law_784 : decode cL_law 784 = .ok (.iconst 2, 1) := by decide +kernel
theorem dL_law_785 : decode cL_law 785 = .ok (.iadd, 1) := by decide +kernel
theorem dL_law_786 : decode cL_law 786 = .ok (.iaload, 1) := by decide +kernel
theorem dL_law_787 : decode cL_law 787 = .ok (.aload_n 0, 1) := by decide +kernel
theorem dL_law_788 : decode cL_law 788 = .ok (.iload 5, 2) := by decide +kernel
theorem dL_law_790 : decode cL_law 790 = .ok (.iconst 3, 1) := by decide +kernel
theorem dL_law_791 : decode cL_law 791 = .ok (.iadd, 1) := by decide +kernel
theorem dL_law_792 : decode cL_law 792 = .ok (.iaload, 1) := by decide +kernel
theorem dL_law_793 : decode cL_law 793 = .ok (.aload_n 3, 1) := by decide +kernel
theorem dL_law_794 : decode cL_law 794 = .ok (.invokestatic 188, 3) := by decide +kernel
theorem dL_law_797 : decode cL_law 797 = .ok (.istore 6, 2) := by decide +kernel
theorem dL_law_799 : decode cL_law 799 = .ok (.aload_n 2, 1) := by decide +kernel
theorem dL_law_800 : decode cL_law 800 = .ok (.aload_n 0, 1) := by decide +kernel
theorem dL_law_801 : decode cL_law 801 = .ok (.iload 5, 2) := by decide +kernel
theorem dL_law_803 : decode cL_law 803 = .ok (.iconst 1, 1) := by decide +kernel
theorem dL_law_804 : decode cL_law 804 = .ok (.iadd, 1) := by decide +kernel
theorem dL_law_805 : decode cL_law 805 = .ok (.iaload, 1) := by decide +kernel
theorem dL_law_806 : decode cL_law 806 = .ok (.aload_n 0, 1) := by decide +kernel
theorem dL_law_807 : decode cL_law 807 = .ok (.iload 5, 2) := by decide +kernel
theorem dL_law_809 : decode cL_law 809 = .ok (.iconst 2, 1) := by decide +kernel
theorem dL_law_810 : decode cL_law 810 = .ok (.iadd, 1) := by decide +kernel
theorem dL_law_811 : decode cL_law 811 = .ok (.iaload, 1) := by decide +kernel
theorem dL_law_812 : decode cL_law 812 = .ok (.aload_n 0, 1) := by decide +kernel
theorem dL_law_813 : decode cL_law 813 = .ok (.iload 5, 2) := by decide +kernel
theorem dL_law_815 : decode cL_law 815 = .ok (.iconst 3, 1) := by decide +kernel
theorem dL_law_816 : decode cL_law 816 = .ok (.iadd, 1) := by decide +kernel
theorem dL_law_817 : decode cL_law 817 = .ok (.iaload, 1) := by decide +kernel
theorem dL_law_818 : decode cL_law 818 = .ok (.invokevirtual 191, 3) := by decide +kernel
theorem dL_law_821 : decode cL_law 821 = .ok (.istore 7, 2) := by decide +kernel
theorem dL_law_823 : decode cL_law 823 = .ok (.aload_n 2, 1) := by decide +kernel
theorem dL_law_824 : decode cL_law 824 = .ok (.invokevirtual 156, 3) := by decide +kernel
theorem dL_law_827 : decode cL_law 827 = .ok (.iload 6, 2) := by decide +kernel
theorem dL_law_829 : decode cL_law 829 = .ok (.if_icmp .eq 5, 3) := by decide +kernel
theorem dL_law_832 : decode cL_law 832 = .ok (.iconst 0, 1) := by decide +kernel
theorem dL_law_833 : decode cL_law 833 = .ok (.ireturn, 1) := by decide +kernel
theorem dL_law_834 : decode cL_law 834 = .ok (.iload 6, 2) := by decide +kernel
theorem dL_law_836 : decode cL_law 836 = .ok (.ifCond .ne 15, 3) := by decide +kernel
theorem dL_law_839 : decode cL_law 839 = .ok (.aload_n 3, 1) := by decide +kernel
theorem dL_law_840 : decode cL_law 840 = .ok (.iconst 0, 1) := by decide +kernel
theorem dL_law_841 : decode cL_law 841 = .ok (.laload, 1) := by decide +kernel
theorem dL_law_842 : decode cL_law 842 = .ok (.iload 7, 2) := by decide +kernel
theorem dL_law_844 : decode cL_law 844 = .ok (.i2l, 1) := by decide +kernel
theorem dL_law_845 : decode cL_law 845 = .ok (.lcmp, 1) := by decide +kernel
theorem dL_law_846 : decode cL_law 846 = .ok (.ifCond .eq 5, 3) := by decide +kernel
theorem dL_law_849 : decode cL_law 849 = .ok (.iconst 0, 1) := by decide +kernel
theorem dL_law_850 : decode cL_law 850 = .ok (.ireturn, 1) := by decide +kernel
theorem dL_law_851 : decode cL_law 851 = .ok (.goto 1799, 3) := by decide +kernel
theorem dL_law_854 : decode cL_law 854 = .ok (.aload_n 1, 1) := by decide +kernel
theorem dL_law_855 : decode cL_law 855 = .ok (.aload_n 0, 1) := by decide +kernel
theorem dL_law_856 : decode cL_law 856 = .ok (.iload 5, 2) := by decide +kernel
theorem dL_law_858 : decode cL_law 858 = .ok (.iconst 1, 1) := by decide +kernel
theorem dL_law_859 : decode cL_law 859 = .ok (.iadd, 1) := by decide +kernel
theorem dL_law_860 : decode cL_law 860 = .ok (.iaload, 1) := by decide +kernel
theorem dL_law_861 : decode cL_law 861 = .ok (.aload_n 0, 1) := by decide +kernel
theorem dL_law_862 : decode cL_law 862 = .ok (.iload 5, 2) := by decide +kernel
theorem dL_law_864 : decode cL_law 864 = .ok (.iconst 2, 1) := by decide +kernel
theorem dL_law_865 : decode cL_law 865 = .ok (.iadd, 1) := by decide +kernel
theorem dL_law_866 : decode cL_law 866 = .ok (.iaload, 1) := by decide +kernel
theorem dL_law_867 : decode cL_law 867 = .ok (.aload_n 0, 1) := by decide +kernel
theorem dL_law_868 : decode cL_law 868 = .ok (.iload 5, 2) := by decide +kernel
theorem dL_law_870 : decode cL_law 870 = .ok (.iconst 3, 1) := by decide +kernel
theorem dL_law_871 : decode cL_law 871 = .ok (.iadd, 1) := by decide +kernel
theorem dL_law_872 : decode cL_law 872 = .ok (.iaload, 1) := by decide +kernel
theorem dL_law_873 : decode cL_law 873 = .ok (.aload_n 3, 1) := by decide +kernel
theorem dL_law_874 : decode cL_law 874 = .ok (.invokestatic 192, 3) := by decide +kernel
theorem dL_law_877 : decode cL_law 877 = .ok (.istore 6, 2) := by decide +kernel
theorem dL_law_879 : decode cL_law 879 = .ok (.aload_n 2, 1) := by decide +kernel
theorem dL_law_880 : decode cL_law 880 = .ok (.aload_n 0, 1) := by decide +kernel
theorem dL_law_881 : decode cL_law 881 = .ok (.iload 5, 2) := by decide +kernel
theorem dL_law_883 : decode cL_law 883 = .ok (.iconst 1, 1) := by decide +kernel
theorem dL_law_884 : decode cL_law 884 = .ok (.iadd, 1) := by decide +kernel
theorem dL_law_885 : decode cL_law 885 = .ok (.iaload, 1) := by decide +kernel
theorem dL_law_886 : decode cL_law 886 = .ok (.aload_n 0, 1) := by decide +kernel
theorem dL_law_887 : decode cL_law 887 = .ok (.iload 5, 2) := by decide +kernel
theorem dL_law_889 : decode cL_law 889 = .ok (.iconst 2, 1) := by decide +kernel
theorem dL_law_890 : decode cL_law 890 = .ok (.iadd, 1) := by decide +kernel
theorem dL_law_891 : decode cL_law 891 = .ok (.iaload, 1) := by decide +kernel
theorem dL_law_892 : decode cL_law 892 = .ok (.aload_n 0, 1) := by decide +kernel
theorem dL_law_893 : decode cL_law 893 = .ok (.iload 5, 2) := by decide +kernel
theorem dL_law_895 : decode cL_law 895 = .ok (.iconst 3, 1) := by decide +kernel
theorem dL_law_896 : decode cL_law 896 = .ok (.iadd, 1) := by decide +kernel
theorem dL_law_897 : decode cL_law 897 = .ok (.iaload, 1) := by decide +kernel
theorem dL_law_898 : decode cL_law 898 = .ok (.invokevirtual 194, 3) := by decide +kernel
theorem dL_law_901 : decode cL_law 901 = .ok (.istore 7, 2) := by decide +kernel
theorem dL_law_903 : decode cL_law 903 = .ok (.aload_n 2, 1) := by decide +kernel
theorem dL_law_904 : decode cL_law 904 = .ok (.invokevirtual 156, 3) := by decide +kernel
theorem dL_law_907 : decode cL_law 907 = .ok (.iload 6, 2) := by decide +kernel
theorem dL_law_909 : decode cL_law 909 = .ok (.if_icmp .eq 5, 3) := by decide +kernel
theorem dL_law_912 : decode cL_law 912 = .ok (.iconst 0, 1) := by decide +kernel
theorem dL_law_913 : decode cL_law 913 = .ok (.ireturn, 1) := by decide +kernel
theorem dL_law_914 : decode cL_law 914 = .ok (.iload 6, 2) := by decide +kernel
theorem dL_law_916 : decode cL_law 916 = .ok (.ifCond .ne 15, 3) := by decide +kernel
theorem dL_law_919 : decode cL_law 919 = .ok (.aload_n 3, 1) := by decide +kernel
theorem dL_law_920 : decode cL_law 920 = .ok (.iconst 0, 1) := by decide +kernel
theorem dL_law_921 : decode cL_law 921 = .ok (.laload, 1) := by decide +kernel
theorem dL_law_922 : decode cL_law 922 = .ok (.iload 7, 2) := by decide +kernel
theorem dL_law_924 : decode cL_law 924 = .ok (.i2l, 1) := by decide +kernel
theorem dL_law_925 : decode cL_law 925 = .ok (.lcmp, 1) := by decide +kernel
theorem dL_law_926 : decode cL_law 926 = .ok (.ifCond .eq 5, 3) := by decide +kernel
theorem dL_law_929 : decode cL_law 929 = .ok (.iconst 0, 1) := by decide +kernel
theorem dL_law_930 : decode cL_law 930 = .ok (.ireturn, 1) := by decide +kernel
theorem dL_law_931 : decode cL_law 931 = .ok (.goto 1719, 3) := by decide +kernel
theorem dL_law_934 : decode cL_law 934 = .ok (.aload_n 1, 1) := by decide +kernel
theorem dL_law_935 : decode cL_law 935 = .ok (.aload_n 0, 1) := by decide +kernel
theorem dL_law_936 : decode cL_law 936 = .ok (.iload 5, 2) := by decide +kernel
theorem dL_law_938 : decode cL_law 938 = .ok (.iconst 1, 1) := by decide +kernel
theorem dL_law_939 : decode cL_law 939 = .ok (.iadd, 1) := by decide +kernel
theorem dL_law_940 : decode cL_law 940 = .ok (.iaload, 1) := by decide +kernel
theorem dL_law_941 : decode cL_law 941 = .ok (.aload_n 0, 1) := by decide +kernel
theorem dL_law_942 : decode cL_law 942 = .ok (.iload 5, 2) := by decide +kernel
theorem dL_law_944 : decode cL_law 944 = .ok (.iconst 2, 1) := by decide +kernel
theorem dL_law_945 : decode cL_law 945 = .ok (.iadd, 1) := by decide +kernel
theorem dL_law_946 : decode cL_law 946 = .ok (.iaload, 1) := by decide +kernel
theorem dL_law_947 : decode cL_law 947 = .ok (.aload_n 3, 1) := by decide +kernel
theorem dL_law_948 : decode cL_law 948 = .ok (.invokestatic 195, 3) := by decide +kernel
theorem dL_law_951 : decode cL_law 951 = .ok (.istore 6, 2) := by decide +kernel
theorem dL_law_953 : decode cL_law 953 = .ok (.aload_n 2, 1) := by decide +kernel
theorem dL_law_954 : decode cL_law 954 = .ok (.aload_n 0, 1) := by decide +kernel
theorem dL_law_955 : decode cL_law 955 = .ok (.iload 5, 2) := by decide +kernel
theorem dL_law_957 : decode cL_law 957 = .ok (.iconst 1, 1) := by decide +kernel
theorem dL_law_958 : decode cL_law 958 = .ok (.iadd, 1) := by decide +kernel
theorem dL_law_959 : decode cL_law 959 = .ok (.iaload, 1) := by decide +kernel
theorem dL_law_960 : decode cL_law 960 = .ok (.aload_n 0, 1) := by decide +kernel
theorem dL_law_961 : decode cL_law 961 = .ok (.iload 5, 2) := by decide +kernel
theorem dL_law_963 : decode cL_law 963 = .ok (.iconst 2, 1) := by decide +kernel
theorem dL_law_964 : decode cL_law 964 = .ok (.iadd, 1) := by decide +kernel
theorem dL_law_965 : decode cL_law 965 = .ok (.iaload, 1) := by decide +kernel
theorem dL_law_966 : decode cL_law 966 = .ok (.invokevirtual 197, 3) := by decide +kernel
theorem dL_law_969 : decode cL_law 969 = .ok (.istore 7, 2) := by decide +kernel
theorem dL_law_971 : decode cL_law 971 = .ok (.aload_n 2, 1) := by decide +kernel
theorem dL_law_972 : decode cL_law 972 = .ok (.invokevirtual 156, 3) := by decide +kernel
theorem dL_law_975 : decode cL_law 975 = .ok (.iload 6, 2) := by decide +kernel
theorem dL_law_977 : decode cL_law 977 = .ok (.if_icmp .eq 5, 3) := by decide +kernel
theorem dL_law_980 : decode cL_law 980 = .ok (.iconst 0, 1) := by decide +kernel
theorem dL_law_981 : decode cL_law 981 = .ok (.ireturn, 1) := by decide +kernel
theorem dL_law_982 : decode cL_law 982 = .ok (.iload 6, 2) := by decide +kernel
theorem dL_law_984 : decode cL_law 984 = .ok (.ifCond .ne 15, 3) := by decide +kernel
theorem dL_law_987 : decode cL_law 987 = .ok (.aload_n 3, 1) := by decide +kernel
theorem dL_law_988 : decode cL_law 988 = .ok (.iconst 0, 1) := by decide +kernel
theorem dL_law_989 : decode cL_law 989 = .ok (.laload, 1) := by decide +kernel
theorem dL_law_990 : decode cL_law 990 = .ok (.iload 7, 2) := by decide +kernel
theorem dL_law_992 : decode cL_law 992 = .ok (.i2l, 1) := by decide +kernel
theorem dL_law_993 : decode cL_law 993 = .ok (.lcmp, 1) := by decide +kernel
theorem dL_law_994 : decode cL_law 994 = .ok (.ifCond .eq 5, 3) := by decide +kernel
theorem dL_law_997 : decode cL_law 997 = .ok (.iconst 0, 1) := by decide +kernel
theorem dL_law_998 : decode cL_law 998 = .ok (.ireturn, 1) := by decide +kernel
theorem dL_law_999 : decode cL_law 999 = .ok (.goto 1651, 3) := by decide +kernel
theorem dL_law_1002 : decode cL_law 1002 = .ok (.aload_n 1, 1) := by decide +kernel
theorem dL_law_1003 : decode cL_law 1003 = .ok (.aload_n 0, 1) := by decide +kernel
theorem dL_law_1004 : decode cL_law 1004 = .ok (.iload 5, 2) := by decide +kernel
theorem dL_law_1006 : decode cL_law 1006 = .ok (.iconst 1, 1) := by decide +kernel
theorem dL_law_1007 : decode cL_law 1007 = .ok (.iadd, 1) := by decide +kernel
theorem dL_law_1008 : decode cL_law 1008 = .ok (.iaload, 1) := by decide +kernel
theorem dL_law_1009 : decode cL_law 1009 = .ok (.aload_n 3, 1) := by decide +kernel
theorem dL_law_1010 : decode cL_law 1010 = .ok (.invokestatic 198, 3) := by decide +kernel
theorem dL_law_1013 : decode cL_law 1013 = .ok (.istore 6, 2) := by decide +kernel
theorem dL_law_1015 : decode cL_law 1015 = .ok (.aload_n 2, 1) := by decide +kernel
theorem dL_law_1016 : decode cL_law 1016 = .ok (.aload_n 0, 1) := by decide +kernel
theorem dL_law_1017 : decode cL_law 1017 = .ok (.iload 5, 2) := by decide +kernel
theorem dL_law_1019 : decode cL_law 1019 = .ok (.iconst 1, 1) := by decide +kernel
theorem dL_law_1020 : decode cL_law 1020 = .ok (.iadd, 1) := by decide +kernel
theorem dL_law_1021 : decode cL_law 1021 = .ok (.iaload, 1) := by decide +kernel
theorem dL_law_1022 : decode cL_law 1022 = .ok (.invokevirtual 200, 3) := by decide +kernel
theorem dL_law_1025 : decode cL_law 1025 = .ok (.istore 7, 2) := by decide +kernel
theorem dL_law_1027 : decode cL_law 1027 = .ok (.aload_n 2, 1) := by decide +kernel
theorem dL_law_1028 : decode cL_law 1028 = .ok (.invokevirtual 156, 3) := by decide +kernel
theorem dL_law_1031 : decode cL_law 1031 = .ok (.iload 6, 2) := by decide +kernel
theorem dL_law_1033 : decode cL_law 1033 = .ok (.if_icmp .eq 5, 3) := by decide +kernel
theorem dL_law_1036 : decode cL_law 1036 = .ok (.iconst 0, 1) := by decide +kernel
theorem dL_law_1037 : decode cL_law 1037 = .ok (.ireturn, 1) := by decide +kernel
theorem dL_law_1038 : decode cL_law 1038 = .ok (.iload 6, 2) := by decide +kernel
theorem dL_law_1040 : decode cL_law 1040 = .ok (.ifCond .ne 15, 3) := by decide +kernel
theorem dL_law_1043 : decode cL_law 1043 = .ok (.aload_n 3, 1) := by decide +kernel
theorem dL_law_1044 : decode cL_law 1044 = .ok (.iconst 0, 1) := by decide +kernel
theorem dL_law_1045 : decode cL_law 1045 = .ok (.laload, 1) := by decide +kernel
theorem dL_law_1046 : decode cL_law 1046 = .ok (.iload 7, 2) := by decide +kernel
theorem dL_law_1048 : decode cL_law 1048 = .ok (.i2l, 1) := by decide +kernel
theorem dL_law_1049 : decode cL_law 1049 = .ok (.lcmp, 1) := by decide +kernel
theorem dL_law_1050 : decode cL_law 1050 = .ok (.ifCond .eq 5, 3) := by decide +kernel
theorem dL_law_1053 : decode cL_law 1053 = .ok (.iconst 0, 1) := by decide +kernel
theorem dL_law_1054 : decode cL_law 1054 = .ok (.ireturn, 1) := by decide +kernel
theorem dL_law_1055 : decode cL_law 1055 = .ok (.goto 1595, 3) := by decide +kernel
theorem dL_law_1058 : decode cL_law 1058 = .ok (.aload_n 1, 1) := by decide +kernel
theorem dL_law_1059 : decode cL_law 1059 = .ok (.aload_n 0, 1) := by decide +kernel
theorem dL_law_1060 : decode cL_law 1060 = .ok (.iload 5, 2) := by decide +kernel
theorem dL_law_1062 : decode cL_law 1062 = .ok (.iconst 1, 1) := by decide +kernel
theorem dL_law_1063 : decode cL_law 1063 = .ok (.iadd, 1) := by decide +kernel
theorem dL_law_1064 : decode cL_law 1064 = .ok (.iaload, 1) := by decide +kernel
theorem dL_law_1065 : decode cL_law 1065 = .ok (.aload_n 0, 1) := by decide +kernel
theorem dL_law_1066 : decode cL_law 1066 = .ok (.iload 5, 2) := by decide +kernel
theorem dL_law_1068 : decode cL_law 1068 = .ok (.iconst 2, 1) := by decide +kernel
theorem dL_law_1069 : decode cL_law 1069 = .ok (.iadd, 1) := by decide +kernel
theorem dL_law_1070 : decode cL_law 1070 = .ok (.iaload, 1) := by decide +kernel
theorem dL_law_1071 : decode cL_law 1071 = .ok (.aload_n 3, 1) := by decide +kernel
theorem dL_law_1072 : decode cL_law 1072 = .ok (.invokestatic 201, 3) := by decide +kernel
theorem dL_law_1075 : decode cL_law 1075 = .ok (.istore 6, 2) := by decide +kernel
theorem dL_law_1077 : decode cL_law 1077 = .ok (.aload_n 2, 1) := by decide +kernel
theorem dL_law_1078 : decode cL_law 1078 = .ok (.aload_n 0, 1) := by decide +kernel
theorem dL_law_1079 : decode cL_law 1079 = .ok (.iload 5, 2) := by decide +kernel
theorem dL_law_1081 : decode cL_law 1081 = .ok (.iconst 1, 1) := by decide +kernel
theorem dL_law_1082 : decode cL_law 1082 = .ok (.iadd, 1) := by decide +kernel
theorem dL_law_1083 : decode cL_law 1083 = .ok (.iaload, 1) := by decide +kernel
theorem dL_law_1084 : decode cL_law 1084 = .ok (.aload_n 0, 1) := by decide +kernel
theorem dL_law_1085 : decode cL_law 1085 = .ok (.iload 5, 2) := by decide +kernel
theorem dL_law_1087 : decode cL_law 1087 = .ok (.iconst 2, 1) := by decide +kernel
theorem dL_law_1088 : decode cL_law 1088 = .ok (.iadd, 1) := by decide +kernel
theorem dL_law_1089 : decode cL_law 1089 = .ok (.iaload, 1) := by decide +kernel
theorem dL_law_1090 : decode cL_law 1090 = .ok (.invokevirtual 203, 3) := by decide +kernel
theorem dL_law_1093 : decode cL_law 1093 = .ok (.istore 7, 2) := by decide +kernel
theorem dL_law_1095 : decode cL_law 1095 = .ok (.aload_n 2, 1) := by decide +kernel
theorem dL_law_1096 : decode cL_law 1096 = .ok (.invokevirtual 156, 3) := by decide +kernel
theorem dL_law_1099 : decode cL_law 1099 = .ok (.iload 6, 2) := by decide +kernel
theorem dL_law_1101 : decode cL_law 1101 = .ok (.if_icmp .eq 5, 3) := by decide +kernel
theorem dL_law_1104 : decode cL_law 1104 = .ok (.iconst 0, 1) := by decide +kernel
theorem dL_law_1105 : decode cL_law 1105 = .ok (.ireturn, 1) := by decide +kernel
theorem dL_law_1106 : decode cL_law 1106 = .ok (.iload 6, 2) := by decide +kernel
theorem dL_law_1108 : decode cL_law 1108 = .ok (.ifCond .ne 15, 3) := by decide +kernel
theorem dL_law_1111 : decode cL_law 1111 = .ok (.aload_n 3, 1) := by decide +kernel
theorem dL_law_1112 : decode cL_law 1112 = .ok (.iconst 0, 1) := by decide +kernel
theorem dL_law_1113 : decode cL_law 1113 = .ok (.laload, 1) := by decide +kernel
theorem dL_law_1114 : decode cL_law 1114 = .ok (.iload 7, 2) := by decide +kernel
theorem dL_law_1116 : decode cL_law 1116 = .ok (.i2l, 1) := by decide +kernel
theorem dL_law_1117 : decode cL_law 1117 = .ok (.lcmp, 1) := by decide +kernel
theorem dL_law_1118 : decode cL_law 1118 = .ok (.ifCond .eq 5, 3) := by decide +kernel
theorem dL_law_1121 : decode cL_law 1121 = .ok (.iconst 0, 1) := by decide +kernel
theorem dL_law_1122 : decode cL_law 1122 = .ok (.ireturn, 1) := by decide +kernel
theorem dL_law_1123 : decode cL_law 1123 = .ok (.goto 1527, 3) := by decide +kernel
theorem dL_law_1126 : decode cL_law 1126 = .ok (.aload_n 1, 1) := by decide +kernel
theorem dL_law_1127 : decode cL_law 1127 = .ok (.aload_n 0, 1) := by decide +kernel
theorem dL_law_1128 : decode cL_law 1128 = .ok (.iload 5, 2) := by decide +kernel
theorem dL_law_1130 : decode cL_law 1130 = .ok (.iconst 1, 1) := by decide +kernel
theorem dL_law_1131 : decode cL_law 1131 = .ok (.iadd, 1) := by decide +kernel
theorem dL_law_1132 : decode cL_law 1132 = .ok (.iaload, 1) := by decide +kernel
theorem dL_law_1133 : decode cL_law 1133 = .ok (.aload_n 0, 1) := by decide +kernel
theorem dL_law_1134 : decode cL_law 1134 = .ok (.iload 5, 2) := by decide +kernel
theorem dL_law_1136 : decode cL_law 1136 = .ok (.iconst 2, 1) := by decide +kernel
theorem dL_law_1137 : decode cL_law 1137 = .ok (.iadd, 1) := by decide +kernel
theorem dL_law_1138 : decode cL_law 1138 = .ok (.iaload, 1) := by decide +kernel
theorem dL_law_1139 : decode cL_law 1139 = .ok (.aload_n 3, 1) := by decide +kernel
theorem dL_law_1140 : decode cL_law 1140 = .ok (.invokestatic 204, 3) := by decide +kernel
theorem dL_law_1143 : decode cL_law 1143 = .ok (.istore 6, 2) := by decide +kernel
theorem dL_law_1145 : decode cL_law 1145 = .ok (.aload_n 2, 1) := by decide +kernel
theorem dL_law_1146 : decode cL_law 1146 = .ok (.aload_n 0, 1) := by decide +kernel
theorem dL_law_1147 : decode cL_law 1147 = .ok (.iload 5, 2) := by decide +kernel
theorem dL_law_1149 : decode cL_law 1149 = .ok (.iconst 1, 1) := by decide +kernel
theorem dL_law_1150 : decode cL_law 1150 = .ok (.iadd, 1) := by decide +kernel
theorem dL_law_1151 : decode cL_law 1151 = .ok (.iaload, 1) := by decide +kernel
theorem dL_law_1152 : decode cL_law 1152 = .ok (.aload_n 0, 1) := by decide +kernel
theorem dL_law_1153 : decode cL_law 1153 = .ok (.iload 5, 2) := by decide +kernel
theorem dL_law_1155 : decode cL_law 1155 = .ok (.iconst 2, 1) := by decide +kernel
theorem dL_law_1156 : decode cL_law 1156 = .ok (.iadd, 1) := by decide +kernel
theorem dL_law_1157 : decode cL_law 1157 = .ok (.iaload, 1) := by decide +kernel
theorem dL_law_1158 : decode cL_law 1158 = .ok (.invokevirtual 206, 3) := by decide +kernel
theorem dL_law_1161 : decode cL_law 1161 = .ok (.istore 7, 2) := by decide +kernel
theorem dL_law_1163 : decode cL_law 1163 = .ok (.aload_n 2, 1) := by decide +kernel
theorem dL_law_1164 : decode cL_law 1164 = .ok (.invokevirtual 156, 3) := by decide +kernel
theorem dL_law_1167 : decode cL_law 1167 = .ok (.iload 6, 2) := by decide +kernel
theorem dL_law_1169 : decode cL_law 1169 = .ok (.if_icmp .eq 5, 3) := by decide +kernel
theorem dL_law_1172 : decode cL_law 1172 = .ok (.iconst 0, 1) := by decide +kernel
theorem dL_law_1173 : decode cL_law 1173 = .ok (.ireturn, 1) := by decide +kernel
theorem dL_law_1174 : decode cL_law 1174 = .ok (.iload 6, 2) := by decide +kernel
theorem dL_law_1176 : decode cL_law 1176 = .ok (.ifCond .ne 15, 3) := by decide +kernel
theorem dL_law_1179 : decode cL_law 1179 = .ok (.aload_n 3, 1) := by decide +kernel
theorem dL_law_1180 : decode cL_law 1180 = .ok (.iconst 0, 1) := by decide +kernel
theorem dL_law_1181 : decode cL_law 1181 = .ok (.laload, 1) := by decide +kernel
theorem dL_law_1182 : decode cL_law 1182 = .ok (.iload 7, 2) := by decide +kernel
theorem dL_law_1184 : decode cL_law 1184 = .ok (.i2l, 1) := by decide +kernel
theorem dL_law_1185 : decode cL_law 1185 = .ok (.lcmp, 1) := by decide +kernel
theorem dL_law_1186 : decode cL_law 1186 = .ok (.ifCond .eq 5, 3) := by decide +kernel
theorem dL_law_1189 : decode cL_law 1189 = .ok (.iconst 0, 1) := by decide +kernel
theorem dL_law_1190 : decode cL_law 1190 = .ok (.ireturn, 1) := by decide +kernel
theorem dL_law_1191 : decode cL_law 1191 = .ok (.goto 1459, 3) := by decide +kernel
theorem dL_law_1194 : decode cL_law 1194 = .ok (.aload_n 1, 1) := by decide +kernel
theorem dL_law_1195 : decode cL_law 1195 = .ok (.aload_n 0, 1) := by decide +kernel
theorem dL_law_1196 : decode cL_law 1196 = .ok (.iload 5, 2) := by decide +kernel
theorem dL_law_1198 : decode cL_law 1198 = .ok (.iconst 1, 1) := by decide +kernel
theorem dL_law_1199 : decode cL_law 1199 = .ok (.iadd, 1) := by decide +kernel
theorem dL_law_1200 : decode cL_law 1200 = .ok (.iaload, 1) := by decide +kernel
theorem dL_law_1201 : decode cL_law 1201 = .ok (.aload_n 0, 1) := by decide +kernel
theorem dL_law_1202 : decode cL_law 1202 = .ok (.iload 5, 2) := by decide +kernel
theorem dL_law_1204 : decode cL_law 1204 = .ok (.iconst 2, 1) := by decide +kernel
theorem dL_law_1205 : decode cL_law 1205 = .ok (.iadd, 1) := by decide +kernel
theorem dL_law_1206 : decode cL_law 1206 = .ok (.iaload, 1) := by decide +kernel
theorem dL_law_1207 : decode cL_law 1207 = .ok (.aload_n 3, 1) := by decide +kernel
theorem dL_law_1208 : decode cL_law 1208 = .ok (.invokestatic 207, 3) := by decide +kernel
theorem dL_law_1211 : decode cL_law 1211 = .ok (.istore 6, 2) := by decide +kernel
theorem dL_law_1213 : decode cL_law 1213 = .ok (.aload_n 2, 1) := by decide +kernel
theorem dL_law_1214 : decode cL_law 1214 = .ok (.aload_n 0, 1) := by decide +kernel
theorem dL_law_1215 : decode cL_law 1215 = .ok (.iload 5, 2) := by decide +kernel
theorem dL_law_1217 : decode cL_law 1217 = .ok (.iconst 1, 1) := by decide +kernel
theorem dL_law_1218 : decode cL_law 1218 = .ok (.iadd, 1) := by decide +kernel
theorem dL_law_1219 : decode cL_law 1219 = .ok (.iaload, 1) := by decide +kernel
theorem dL_law_1220 : decode cL_law 1220 = .ok (.aload_n 0, 1) := by decide +kernel
theorem dL_law_1221 : decode cL_law 1221 = .ok (.iload 5, 2) := by decide +kernel
theorem dL_law_1223 : decode cL_law 1223 = .ok (.iconst 2, 1) := by decide +kernel
theorem dL_law_1224 : decode cL_law 1224 = .ok (.iadd, 1) := by decide +kernel
theorem dL_law_1225 : decode cL_law 1225 = .ok (.iaload, 1) := by decide +kernel
theorem dL_law_1226 : decode cL_law 1226 = .ok (.invokevirtual 209, 3) := by decide +kernel
theorem dL_law_1229 : decode cL_law 1229 = .ok (.istore 7, 2) := by decide +kernel
theorem dL_law_1231 : decode cL_law 1231 = .ok (.aload_n 2, 1) := by decide +kernel
theorem dL_law_1232 : decode cL_law 1232 = .ok (.invokevirtual 156, 3) := by decide +kernel
theorem dL_law_1235 : decode cL_law 1235 = .ok (.iload 6, 2) := by decide +kernel
theorem dL_law_1237 : decode cL_law 1237 = .ok (.if_icmp .eq 5, 3) := by decide +kernel
theorem dL_law_1240 : decode cL_law 1240 = .ok (.iconst 0, 1) := by decide +kernel
theorem dL_law_1241 : decode cL_law 1241 = .ok (.ireturn, 1) := by decide +kernel
theorem dL_law_1242 : decode cL_law 1242 = .ok (.iload 6, 2) := by decide +kernel
theorem dL_law_1244 : decode cL_law 1244 = .ok (.ifCond .ne 15, 3) := by decide +kernel
theorem dL_law_1247 : decode cL_law 1247 = .ok (.aload_n 3, 1) := by decide +kernel
theorem dL_law_1248 : decode cL_law 1248 = .ok (.iconst 0, 1) := by decide +kernel
theorem dL_law_1249 : decode cL_law 1249 = .ok (.laload, 1) := by decide +kernel
theorem dL_law_1250 : decode cL_law 1250 = .ok (.iload 7, 2) := by decide +kernel
theorem dL_law_1252 : decode cL_law 1252 = .ok (.i2l, 1) := by decide +kernel
theorem dL_law_1253 : decode cL_law 1253 = .ok (.lcmp, 1) := by decide +kernel
theorem dL_law_1254 : decode cL_law 1254 = .ok (.ifCond .eq 5, 3) := by decide +kernel
theorem dL_law_1257 : decode cL_law 1257 = .ok (.iconst 0, 1) := by decide +kernel
theorem dL_law_1258 : decode cL_law 1258 = .ok (.ireturn, 1) := by decide +kernel
theorem dL_law_1259 : decode cL_law 1259 = .ok (.goto 1391, 3) := by decide +kernel
theorem dL_law_1262 : decode cL_law 1262 = .ok (.aload_n 1, 1) := by decide +kernel
theorem dL_law_1263 : decode cL_law 1263 = .ok (.aload_n 0, 1) := by decide +kernel
theorem dL_law_1264 : decode cL_law 1264 = .ok (.iload 5, 2) := by decide +kernel
theorem dL_law_1266 : decode cL_law 1266 = .ok (.iconst 1, 1) := by decide +kernel
theorem dL_law_1267 : decode cL_law 1267 = .ok (.iadd, 1) := by decide +kernel
theorem dL_law_1268 : decode cL_law 1268 = .ok (.iaload, 1) := by decide +kernel
theorem dL_law_1269 : decode cL_law 1269 = .ok (.aload_n 0, 1) := by decide +kernel
theorem dL_law_1270 : decode cL_law 1270 = .ok (.iload 5, 2) := by decide +kernel
theorem dL_law_1272 : decode cL_law 1272 = .ok (.iconst 2, 1) := by decide +kernel
theorem dL_law_1273 : decode cL_law 1273 = .ok (.iadd, 1) := by decide +kernel
theorem dL_law_1274 : decode cL_law 1274 = .ok (.iaload, 1) := by decide +kernel
theorem dL_law_1275 : decode cL_law 1275 = .ok (.aload_n 3, 1) := by decide +kernel
theorem dL_law_1276 : decode cL_law 1276 = .ok (.invokestatic 210, 3) := by decide +kernel
theorem dL_law_1279 : decode cL_law 1279 = .ok (.istore 6, 2) := by decide +kernel
theorem dL_law_1281 : decode cL_law 1281 = .ok (.aload_n 2, 1) := by decide +kernel
theorem dL_law_1282 : decode cL_law 1282 = .ok (.aload_n 0, 1) := by decide +kernel
theorem dL_law_1283 : decode cL_law 1283 = .ok (.iload 5, 2) := by decide +kernel
theorem dL_law_1285 : decode cL_law 1285 = .ok (.iconst 1, 1) := by decide +kernel
theorem dL_law_1286 : decode cL_law 1286 = .ok (.iadd, 1) := by decide +kernel
theorem dL_law_1287 : decode cL_law 1287 = .ok (.iaload, 1) := by decide +kernel
theorem dL_law_1288 : decode cL_law 1288 = .ok (.aload_n 0, 1) := by decide +kernel
theorem dL_law_1289 : decode cL_law 1289 = .ok (.iload 5, 2) := by decide +kernel
theorem dL_law_1291 : decode cL_law 1291 = .ok (.iconst 2, 1) := by decide +kernel
theorem dL_law_1292 : decode cL_law 1292 = .ok (.iadd, 1) := by decide +kernel
theorem dL_law_1293 : decode cL_law 1293 = .ok (.iaload, 1) := by decide +kernel
theorem dL_law_1294 : decode cL_law 1294 = .ok (.invokevirtual 212, 3) := by decide +kernel
theorem dL_law_1297 : decode cL_law 1297 = .ok (.istore 7, 2) := by decide +kernel
theorem dL_law_1299 : decode cL_law 1299 = .ok (.aload_n 2, 1) := by decide +kernel
theorem dL_law_1300 : decode cL_law 1300 = .ok (.invokevirtual 156, 3) := by decide +kernel
theorem dL_law_1303 : decode cL_law 1303 = .ok (.iload 6, 2) := by decide +kernel
theorem dL_law_1305 : decode cL_law 1305 = .ok (.if_icmp .eq 5, 3) := by decide +kernel
theorem dL_law_1308 : decode cL_law 1308 = .ok (.iconst 0, 1) := by decide +kernel
theorem dL_law_1309 : decode cL_law 1309 = .ok (.ireturn, 1) := by decide +kernel
theorem dL_law_1310 : decode cL_law 1310 = .ok (.iload 6, 2) := by decide +kernel
theorem dL_law_1312 : decode cL_law 1312 = .ok (.ifCond .ne 15, 3) := by decide +kernel
theorem dL_law_1315 : decode cL_law 1315 = .ok (.aload_n 3, 1) := by decide +kernel
theorem dL_law_1316 : decode cL_law 1316 = .ok (.iconst 0, 1) := by decide +kernel
theorem dL_law_1317 : decode cL_law 1317 = .ok (.laload, 1) := by decide +kernel
theorem dL_law_1318 : decode cL_law 1318 = .ok (.iload 7, 2) := by decide +kernel
theorem dL_law_1320 : decode cL_law 1320 = .ok (.i2l, 1) := by decide +kernel
theorem dL_law_1321 : decode cL_law 1321 = .ok (.lcmp, 1) := by decide +kernel
theorem dL_law_1322 : decode cL_law 1322 = .ok (.ifCond .eq 5, 3) := by decide +kernel
theorem dL_law_1325 : decode cL_law 1325 = .ok (.iconst 0, 1) := by decide +kernel
theorem dL_law_1326 : decode cL_law 1326 = .ok (.ireturn, 1) := by decide +kernel
theorem dL_law_1327 : decode cL_law 1327 = .ok (.goto 1323, 3) := by decide +kernel
theorem dL_law_1330 : decode cL_law 1330 = .ok (.aload_n 1, 1) := by decide +kernel
theorem dL_law_1331 : decode cL_law 1331 = .ok (.aload_n 0, 1) := by decide +kernel
theorem dL_law_1332 : decode cL_law 1332 = .ok (.iload 5, 2) := by decide +kernel
theorem dL_law_1334 : decode cL_law 1334 = .ok (.iconst 1, 1) := by decide +kernel
theorem dL_law_1335 : decode cL_law 1335 = .ok (.iadd, 1) := by decide +kernel
theorem dL_law_1336 : decode cL_law 1336 = .ok (.iaload, 1) := by decide +kernel
theorem dL_law_1337 : decode cL_law 1337 = .ok (.aload_n 0, 1) := by decide +kernel
theorem dL_law_1338 : decode cL_law 1338 = .ok (.iload 5, 2) := by decide +kernel
theorem dL_law_1340 : decode cL_law 1340 = .ok (.iconst 2, 1) := by decide +kernel
theorem dL_law_1341 : decode cL_law 1341 = .ok (.iadd, 1) := by decide +kernel
theorem dL_law_1342 : decode cL_law 1342 = .ok (.iaload, 1) := by decide +kernel
theorem dL_law_1343 : decode cL_law 1343 = .ok (.aload_n 3, 1) := by decide +kernel
theorem dL_law_1344 : decode cL_law 1344 = .ok (.invokestatic 213, 3) := by decide +kernel
theorem dL_law_1347 : decode cL_law 1347 = .ok (.istore 6, 2) := by decide +kernel
theorem dL_law_1349 : decode cL_law 1349 = .ok (.aload_n 2, 1) := by decide +kernel
theorem dL_law_1350 : decode cL_law 1350 = .ok (.aload_n 0, 1) := by decide +kernel
theorem dL_law_1351 : decode cL_law 1351 = .ok (.iload 5, 2) := by decide +kernel
theorem dL_law_1353 : decode cL_law 1353 = .ok (.iconst 1, 1) := by decide +kernel
theorem dL_law_1354 : decode cL_law 1354 = .ok (.iadd, 1) := by decide +kernel
theorem dL_law_1355 : decode cL_law 1355 = .ok (.iaload, 1) := by decide +kernel
theorem dL_law_1356 : decode cL_law 1356 = .ok (.aload_n 0, 1) := by decide +kernel
theorem dL_law_1357 : decode cL_law 1357 = .ok (.iload 5, 2) := by decide +kernel
theorem dL_law_1359 : decode cL_law 1359 = .ok (.iconst 2, 1) := by decide +kernel
theorem dL_law_1360 : decode cL_law 1360 = .ok (.iadd, 1) := by decide +kernel
theorem dL_law_1361 : decode cL_law 1361 = .ok (.iaload, 1) := by decide +kernel
theorem dL_law_1362 : decode cL_law 1362 = .ok (.invokevirtual 215, 3) := by decide +kernel
theorem dL_law_1365 : decode cL_law 1365 = .ok (.istore 7, 2) := by decide +kernel
theorem dL_law_1367 : decode cL_law 1367 = .ok (.aload_n 2, 1) := by decide +kernel
theorem dL_law_1368 : decode cL_law 1368 = .ok (.invokevirtual 156, 3) := by decide +kernel
theorem dL_law_1371 : decode cL_law 1371 = .ok (.iload 6, 2) := by decide +kernel
theorem dL_law_1373 : decode cL_law 1373 = .ok (.if_icmp .eq 5, 3) := by decide +kernel
theorem dL_law_1376 : decode cL_law 1376 = .ok (.iconst 0, 1) := by decide +kernel
theorem dL_law_1377 : decode cL_law 1377 = .ok (.ireturn, 1) := by decide +kernel
theorem dL_law_1378 : decode cL_law 1378 = .ok (.iload 6, 2) := by decide +kernel
theorem dL_law_1380 : decode cL_law 1380 = .ok (.ifCond .ne 15, 3) := by decide +kernel
theorem dL_law_1383 : decode cL_law 1383 = .ok (.aload_n 3, 1) := by decide +kernel
theorem dL_law_1384 : decode cL_law 1384 = .ok (.iconst 0, 1) := by decide +kernel
theorem dL_law_1385 : decode cL_law 1385 = .ok (.laload, 1) := by decide +kernel
theorem dL_law_1386 : decode cL_law 1386 = .ok (.iload 7, 2) := by decide +kernel
theorem dL_law_1388 : decode cL_law 1388 = .ok (.i2l, 1) := by decide +kernel
theorem dL_law_1389 : decode cL_law 1389 = .ok (.lcmp, 1) := by decide +kernel
theorem dL_law_1390 : decode cL_law 1390 = .ok (.ifCond .eq 5, 3) := by decide +kernel
theorem dL_law_1393 : decode cL_law 1393 = .ok (.iconst 0, 1) := by decide +kernel
theorem dL_law_1394 : decode cL_law 1394 = .ok (.ireturn, 1) := by decide +kernel
theorem dL_law_1395 : decode cL_law 1395 = .ok (.goto 1255, 3) := by decide +kernel
theorem dL_law_1398 : decode cL_law 1398 = .ok (.aload_n 1, 1) := by decide +kernel
theorem dL_law_1399 : decode cL_law 1399 = .ok (.aload_n 0, 1) := by decide +kernel
theorem dL_law_1400 : decode cL_law 1400 = .ok (.iload 5, 2) := by decide +kernel
theorem dL_law_1402 : decode cL_law 1402 = .ok (.iconst 1, 1) := by decide +kernel
theorem dL_law_1403 : decode cL_law 1403 = .ok (.iadd, 1) := by decide +kernel
theorem dL_law_1404 : decode cL_law 1404 = .ok (.iaload, 1) := by decide +kernel
theorem dL_law_1405 : decode cL_law 1405 = .ok (.aload_n 0, 1) := by decide +kernel
theorem dL_law_1406 : decode cL_law 1406 = .ok (.iload 5, 2) := by decide +kernel
theorem dL_law_1408 : decode cL_law 1408 = .ok (.iconst 2, 1) := by decide +kernel
theorem dL_law_1409 : decode cL_law 1409 = .ok (.iadd, 1) := by decide +kernel
theorem dL_law_1410 : decode cL_law 1410 = .ok (.iaload, 1) := by decide +kernel
theorem dL_law_1411 : decode cL_law 1411 = .ok (.aload_n 3, 1) := by decide +kernel
theorem dL_law_1412 : decode cL_law 1412 = .ok (.invokestatic 216, 3) := by decide +kernel
theorem dL_law_1415 : decode cL_law 1415 = .ok (.istore 6, 2) := by decide +kernel
theorem dL_law_1417 : decode cL_law 1417 = .ok (.aload_n 2, 1) := by decide +kernel
theorem dL_law_1418 : decode cL_law 1418 = .ok (.aload_n 0, 1) := by decide +kernel
theorem dL_law_1419 : decode cL_law 1419 = .ok (.iload 5, 2) := by decide +kernel
theorem dL_law_1421 : decode cL_law 1421 = .ok (.iconst 1, 1) := by decide +kernel
theorem dL_law_1422 : decode cL_law 1422 = .ok (.iadd, 1) := by decide +kernel
theorem dL_law_1423 : decode cL_law 1423 = .ok (.iaload, 1) := by decide +kernel
theorem dL_law_1424 : decode cL_law 1424 = .ok (.aload_n 0, 1) := by decide +kernel
theorem dL_law_1425 : decode cL_law 1425 = .ok (.iload 5, 2) := by decide +kernel
theorem dL_law_1427 : decode cL_law 1427 = .ok (.iconst 2, 1) := by decide +kernel
theorem dL_law_1428 : decode cL_law 1428 = .ok (.iadd, 1) := by decide +kernel
theorem dL_law_1429 : decode cL_law 1429 = .ok (.iaload, 1) := by decide +kernel
theorem dL_law_1430 : decode cL_law 1430 = .ok (.invokevirtual 218, 3) := by decide +kernel
theorem dL_law_1433 : decode cL_law 1433 = .ok (.istore 7, 2) := by decide +kernel
theorem dL_law_1435 : decode cL_law 1435 = .ok (.aload_n 2, 1) := by decide +kernel
theorem dL_law_1436 : decode cL_law 1436 = .ok (.invokevirtual 156, 3) := by decide +kernel
theorem dL_law_1439 : decode cL_law 1439 = .ok (.iload 6, 2) := by decide +kernel
theorem dL_law_1441 : decode cL_law 1441 = .ok (.if_icmp .eq 5, 3) := by decide +kernel
theorem dL_law_1444 : decode cL_law 1444 = .ok (.iconst 0, 1) := by decide +kernel
theorem dL_law_1445 : decode cL_law 1445 = .ok (.ireturn, 1) := by decide +kernel
theorem dL_law_1446 : decode cL_law 1446 = .ok (.iload 6, 2) := by decide +kernel
theorem dL_law_1448 : decode cL_law 1448 = .ok (.ifCond .ne 15, 3) := by decide +kernel
theorem dL_law_1451 : decode cL_law 1451 = .ok (.aload_n 3, 1) := by decide +kernel
theorem dL_law_1452 : decode cL_law 1452 = .ok (.iconst 0, 1) := by decide +kernel
theorem dL_law_1453 : decode cL_law 1453 = .ok (.laload, 1) := by decide +kernel
theorem dL_law_1454 : decode cL_law 1454 = .ok (.iload 7, 2) := by decide +kernel
theorem dL_law_1456 : decode cL_law 1456 = .ok (.i2l, 1) := by decide +kernel
theorem dL_law_1457 : decode cL_law 1457 = .ok (.lcmp, 1) := by decide +kernel
theorem dL_law_1458 : decode cL_law 1458 = .ok (.ifCond .eq 5, 3) := by decide +kernel
theorem dL_law_1461 : decode cL_law 1461 = .ok (.iconst 0, 1) := by decide +kernel
theorem dL_law_1462 : decode cL_law 1462 = .ok (.ireturn, 1) := by decide +kernel
theorem dL_law_1463 : decode cL_law 1463 = .ok (.goto 1187, 3) := by decide +kernel
theorem dL_law_1466 : decode cL_law 1466 = .ok (.aload_n 1, 1) := by decide +kernel
theorem dL_law_1467 : decode cL_law 1467 = .ok (.aload_n 0, 1) := by decide +kernel
theorem dL_law_1468 : decode cL_law 1468 = .ok (.iload 5, 2) := by decide +kernel
theorem dL_law_1470 : decode cL_law 1470 = .ok (.iconst 1, 1) := by decide +kernel
theorem dL_law_1471 : decode cL_law 1471 = .ok (.iadd, 1) := by decide +kernel
theorem dL_law_1472 : decode cL_law 1472 = .ok (.iaload, 1) := by decide +kernel
theorem dL_law_1473 : decode cL_law 1473 = .ok (.aload_n 0, 1) := by decide +kernel
theorem dL_law_1474 : decode cL_law 1474 = .ok (.iload 5, 2) := by decide +kernel
theorem dL_law_1476 : decode cL_law 1476 = .ok (.iconst 2, 1) := by decide +kernel
theorem dL_law_1477 : decode cL_law 1477 = .ok (.iadd, 1) := by decide +kernel
theorem dL_law_1478 : decode cL_law 1478 = .ok (.iaload, 1) := by decide +kernel
theorem dL_law_1479 : decode cL_law 1479 = .ok (.aload_n 3, 1) := by decide +kernel
theorem dL_law_1480 : decode cL_law 1480 = .ok (.invokestatic 219, 3) := by decide +kernel
theorem dL_law_1483 : decode cL_law 1483 = .ok (.istore 6, 2) := by decide +kernel
theorem dL_law_1485 : decode cL_law 1485 = .ok (.aload_n 2, 1) := by decide +kernel
theorem dL_law_1486 : decode cL_law 1486 = .ok (.aload_n 0, 1) := by decide +kernel
theorem dL_law_1487 : decode cL_law 1487 = .ok (.iload 5, 2) := by decide +kernel
theorem dL_law_1489 : decode cL_law 1489 = .ok (.iconst 1, 1) := by decide +kernel
theorem dL_law_1490 : decode cL_law 1490 = .ok (.iadd, 1) := by decide +kernel
theorem dL_law_1491 : decode cL_law 1491 = .ok (.iaload, 1) := by decide +kernel
theorem dL_law_1492 : decode cL_law 1492 = .ok (.aload_n 0, 1) := by decide +kernel
theorem dL_law_1493 : decode cL_law 1493 = .ok (.iload 5, 2) := by decide +kernel
theorem dL_law_1495 : decode cL_law 1495 = .ok (.iconst 2, 1) := by decide +kernel
theorem dL_law_1496 : decode cL_law 1496 = .ok (.iadd, 1) := by decide +kernel
theorem dL_law_1497 : decode cL_law 1497 = .ok (.iaload, 1) := by decide +kernel
theorem dL_law_1498 : decode cL_law 1498 = .ok (.invokevirtual 221, 3) := by decide +kernel
theorem dL_law_1501 : decode cL_law 1501 = .ok (.istore 7, 2) := by decide +kernel
theorem dL_law_1503 : decode cL_law 1503 = .ok (.aload_n 2, 1) := by decide +kernel
theorem dL_law_1504 : decode cL_law 1504 = .ok (.invokevirtual 156, 3) := by decide +kernel
theorem dL_law_1507 : decode cL_law 1507 = .ok (.iload 6, 2) := by decide +kernel
theorem dL_law_1509 : decode cL_law 1509 = .ok (.if_icmp .eq 5, 3) := by decide +kernel
theorem dL_law_1512 : decode cL_law 1512 = .ok (.iconst 0, 1) := by decide +kernel
theorem dL_law_1513 : decode cL_law 1513 = .ok (.ireturn, 1) := by decide +kernel
theorem dL_law_1514 : decode cL_law 1514 = .ok (.iload 6, 2) := by decide +kernel
theorem dL_law_1516 : decode cL_law 1516 = .ok (.ifCond .ne 15, 3) := by decide +kernel
theorem dL_law_1519 : decode cL_law 1519 = .ok (.aload_n 3, 1) := by decide +kernel
theorem dL_law_1520 : decode cL_law 1520 = .ok (.iconst 0, 1) := by decide +kernel
theorem dL_law_1521 : decode cL_law 1521 = .ok (.laload, 1) := by decide +kernel
theorem dL_law_1522 : decode cL_law 1522 = .ok (.iload 7, 2) := by decide +kernel
theorem dL_law_1524 : decode cL_law 1524 = .ok (.i2l, 1) := by decide +kernel
theorem dL_law_1525 : decode cL_law 1525 = .ok (.lcmp, 1) := by decide +kernel
theorem dL_law_1526 : decode cL_law 1526 = .ok (.ifCond .eq 5, 3) := by decide +kernel
theorem dL_law_1529 : decode cL_law 1529 = .ok (.iconst 0, 1) := by decide +kernel
theorem dL_law_1530 : decode cL_law 1530 = .ok (.ireturn, 1) := by decide +kernel
theorem dL_law_1531 : decode cL_law 1531 = .ok (.goto 1119, 3) := by decide +kernel
theorem dL_law_1534 : decode cL_law 1534 = .ok (.aload_n 1, 1) := by decide +kernel
theorem dL_law_1535 : decode cL_law 1535 = .ok (.aload_n 0, 1) := by decide +kernel
theorem dL_law_1536 : decode cL_law 1536 = .ok (.iload 5, 2) := by decide +kernel
theorem dL_law_1538 : decode cL_law 1538 = .ok (.iconst 1, 1) := by decide +kernel
theorem dL_law_1539 : decode cL_law 1539 = .ok (.iadd, 1) := by decide +kernel
theorem dL_law_1540 : decode cL_law 1540 = .ok (.iaload, 1) := by decide +kernel
theorem dL_law_1541 : decode cL_law 1541 = .ok (.aload_n 0, 1) := by decide +kernel
theorem dL_law_1542 : decode cL_law 1542 = .ok (.iload 5, 2) := by decide +kernel
theorem dL_law_1544 : decode cL_law 1544 = .ok (.iconst 2, 1) := by decide +kernel
theorem dL_law_1545 : decode cL_law 1545 = .ok (.iadd, 1) := by decide +kernel
theorem dL_law_1546 : decode cL_law 1546 = .ok (.iaload, 1) := by decide +kernel
theorem dL_law_1547 : decode cL_law 1547 = .ok (.aload_n 0, 1) := by decide +kernel
theorem dL_law_1548 : decode cL_law 1548 = .ok (.iload 5, 2) := by decide +kernel
theorem dL_law_1550 : decode cL_law 1550 = .ok (.iconst 3, 1) := by decide +kernel
theorem dL_law_1551 : decode cL_law 1551 = .ok (.iadd, 1) := by decide +kernel
theorem dL_law_1552 : decode cL_law 1552 = .ok (.iaload, 1) := by decide +kernel
theorem dL_law_1553 : decode cL_law 1553 = .ok (.aload_n 0, 1) := by decide +kernel
theorem dL_law_1554 : decode cL_law 1554 = .ok (.iload 5, 2) := by decide +kernel
theorem dL_law_1556 : decode cL_law 1556 = .ok (.iconst 4, 1) := by decide +kernel
theorem dL_law_1557 : decode cL_law 1557 = .ok (.iadd, 1) := by decide +kernel
theorem dL_law_1558 : decode cL_law 1558 = .ok (.iaload, 1) := by decide +kernel
theorem dL_law_1559 : decode cL_law 1559 = .ok (.aload_n 3, 1) := by decide +kernel
theorem dL_law_1560 : decode cL_law 1560 = .ok (.invokestatic 222, 3) := by decide +kernel
theorem dL_law_1563 : decode cL_law 1563 = .ok (.istore 6, 2) := by decide +kernel
theorem dL_law_1565 : decode cL_law 1565 = .ok (.aload_n 2, 1) := by decide +kernel
theorem dL_law_1566 : decode cL_law 1566 = .ok (.aload_n 0, 1) := by decide +kernel
theorem dL_law_1567 : decode cL_law 1567 = .ok (.iload 5, 2) := by decide +kernel
theorem dL_law_1569 : decode cL_law 1569 = .ok (.iconst 1, 1) := by decide +kernel
theorem dL_law_1570 : decode cL_law 1570 = .ok (.iadd, 1) := by decide +kernel
theorem dL_law_1571 : decode cL_law 1571 = .ok (.iaload, 1) := by decide +kernel
theorem dL_law_1572 : decode cL_law 1572 = .ok (.aload_n 0, 1) := by decide +kernel
theorem dL_law_1573 : decode cL_law 1573 = .ok (.iload 5, 2) := by decide +kernel
theorem dL_law_1575 : decode cL_law 1575 = .ok (.iconst 2, 1) := by decide +kernel
theorem dL_law_1576 : decode cL_law 1576 = .ok (.iadd, 1) := by decide +kernel
theorem dL_law_1577 : decode cL_law 1577 = .ok (.iaload, 1) := by decide +kernel
theorem dL_law_1578 : decode cL_law 1578 = .ok (.aload_n 0, 1) := by decide +kernel
theorem dL_law_1579 : decode cL_law 1579 = .ok (.iload 5, 2) := by decide +kernel
theorem dL_law_1581 : decode cL_law 1581 = .ok (.iconst 3, 1) := by decide +kernel
theorem dL_law_1582 : decode cL_law 1582 = .ok (.iadd, 1) := by decide +kernel
theorem dL_law_1583 : decode cL_law 1583 = .ok (.iaload, 1) := by decide +kernel
theorem dL_law_1584 : decode cL_law 1584 = .ok (.aload_n 0, 1) := by decide +kernel
theorem dL_law_1585 : decode cL_law 1585 = .ok (.iload 5, 2) := by decide +kernel
theorem dL_law_1587 : decode cL_law 1587 = .ok (.iconst 4, 1) := by decide +kernel
theorem dL_law_1588 : decode cL_law 1588 = .ok (.iadd, 1) := by decide +kernel
theorem dL_law_1589 : decode cL_law 1589 = .ok (.iaload, 1) := by decide +kernel
theorem dL_law_1590 : decode cL_law 1590 = .ok (.invokevirtual 225, 3) := by decide +kernel
theorem dL_law_1593 : decode cL_law 1593 = .ok (.istore 7, 2) := by decide +kernel
theorem dL_law_1595 : decode cL_law 1595 = .ok (.aload_n 2, 1) := by decide +kernel
theorem dL_law_1596 : decode cL_law 1596 = .ok (.invokevirtual 156, 3) := by decide +kernel
theorem dL_law_1599 : decode cL_law 1599 = .ok (.iload 6, 2) := by decide +kernel
theorem dL_law_1601 : decode cL_law 1601 = .ok (.if_icmp .eq 5, 3) := by decide +kernel
theorem dL_law_1604 : decode cL_law 1604 = .ok (.iconst 0, 1) := by decide +kernel
theorem dL_law_1605 : decode cL_law 1605 = .ok (.ireturn, 1) := by decide +kernel
theorem dL_law_1606 : decode cL_law 1606 = .ok (.iload 6, 2) := by decide +kernel
theorem dL_law_1608 : decode cL_law 1608 = .ok (.ifCond .ne 22, 3) := by decide +kernel
theorem dL_law_1611 : decode cL_law 1611 = .ok (.aload_n 3, 1) := by decide +kernel
theorem dL_law_1612 : decode cL_law 1612 = .ok (.iconst 0, 1) := by decide +kernel
theorem dL_law_1613 : decode cL_law 1613 = .ok (.laload, 1) := by decide +kernel
theorem dL_law_1614 : decode cL_law 1614 = .ok (.iload 7, 2) := by decide +kernel
theorem dL_law_1616 : decode cL_law 1616 = .ok (.ifCond .eq 7, 3) := by decide +kernel
theorem dL_law_1619 : decode cL_law 1619 = .ok (.lconst 1, 1) := by decide +kernel
theorem dL_law_1620 : decode cL_law 1620 = .ok (.goto 4, 3) := by decide +kernel
theorem dL_law_1623 : decode cL_law 1623 = .ok (.lconst 0, 1) := by decide +kernel
theorem dL_law_1624 : decode cL_law 1624 = .ok (.lcmp, 1) := by decide +kernel
theorem dL_law_1625 : decode cL_law 1625 = .ok (.ifCond .eq 5, 3) := by decide +kernel
theorem dL_law_1628 : decode cL_law 1628 = .ok (.iconst 0, 1) := by decide +kernel
theorem dL_law_1629 : decode cL_law 1629 = .ok (.ireturn, 1) := by decide +kernel
theorem dL_law_1630 : decode cL_law 1630 = .ok (.goto 1020, 3) := by decide +kernel
theorem dL_law_1633 : decode cL_law 1633 = .ok (.aload_n 1, 1) := by decide +kernel
theorem dL_law_1634 : decode cL_law 1634 = .ok (.aload_n 0, 1) := by decide +kernel
theorem dL_law_1635 : decode cL_law 1635 = .ok (.iload 5, 2) := by decide +kernel
theorem dL_law_1637 : decode cL_law 1637 = .ok (.iconst 1, 1) := by decide +kernel
theorem dL_law_1638 : decode cL_law 1638 = .ok (.iadd, 1) := by decide +kernel
theorem dL_law_1639 : decode cL_law 1639 = .ok (.iaload, 1) := by decide +kernel
theorem dL_law_1640 : decode cL_law 1640 = .ok (.aload_n 0, 1) := by decide +kernel
theorem dL_law_1641 : decode cL_law 1641 = .ok (.iload 5, 2) := by decide +kernel
theorem dL_law_1643 : decode cL_law 1643 = .ok (.iconst 2, 1) := by decide +kernel
theorem dL_law_1644 : decode cL_law 1644 = .ok (.iadd, 1) := by decide +kernel
theorem dL_law_1645 : decode cL_law 1645 = .ok (.iaload, 1) := by decide +kernel
theorem dL_law_1646 : decode cL_law 1646 = .ok (.aload_n 0, 1) := by decide +kernel
theorem dL_law_1647 : decode cL_law 1647 = .ok (.iload 5, 2) := by decide +kernel
theorem dL_law_1649 : decode cL_law 1649 = .ok (.iconst 3, 1) := by decide +kernel
theorem dL_law_1650 : decode cL_law 1650 = .ok (.iadd, 1) := by decide +kernel
theorem dL_law_1651 : decode cL_law 1651 = .ok (.iaload, 1) := by decide +kernel
theorem dL_law_1652 : decode cL_law 1652 = .ok (.aload_n 3, 1) := by decide +kernel
theorem dL_law_1653 : decode cL_law 1653 = .ok (.invokestatic 226, 3) := by decide +kernel
theorem dL_law_1656 : decode cL_law 1656 = .ok (.istore 6, 2) := by decide +kernel
theorem dL_law_1658 : decode cL_law 1658 = .ok (.aload_n 2, 1) := by decide +kernel
theorem dL_law_1659 : decode cL_law 1659 = .ok (.aload_n 0, 1) := by decide +kernel
theorem dL_law_1660 : decode cL_law 1660 = .ok (.iload 5, 2) := by decide +kernel
theorem dL_law_1662 : decode cL_law 1662 = .ok (.iconst 1, 1) := by decide +kernel
theorem dL_law_1663 : decode cL_law 1663 = .ok (.iadd, 1) := by decide +kernel
theorem dL_law_1664 : decode cL_law 1664 = .ok (.iaload, 1) := by decide +kernel
theorem dL_law_1665 : decode cL_law 1665 = .ok (.aload_n 0, 1) := by decide +kernel
theorem dL_law_1666 : decode cL_law 1666 = .ok (.iload 5, 2) := by decide +kernel
theorem dL_law_1668 : decode cL_law 1668 = .ok (.iconst 2, 1) := by decide +kernel
theorem dL_law_1669 : decode cL_law 1669 = .ok (.iadd, 1) := by decide +kernel
theorem dL_law_1670 : decode cL_law 1670 = .ok (.iaload, 1) := by decide +kernel
theorem dL_law_1671 : decode cL_law 1671 = .ok (.aload_n 0, 1) := by decide +kernel
theorem dL_law_1672 : decode cL_law 1672 = .ok (.iload 5, 2) := by decide +kernel
theorem dL_law_1674 : decode cL_law 1674 = .ok (.iconst 3, 1) := by decide +kernel
theorem dL_law_1675 : decode cL_law 1675 = .ok (.iadd, 1) := by decide +kernel
theorem dL_law_1676 : decode cL_law 1676 = .ok (.iaload, 1) := by decide +kernel
theorem dL_law_1677 : decode cL_law 1677 = .ok (.invokevirtual 228, 3) := by decide +kernel
theorem dL_law_1680 : decode cL_law 1680 = .ok (.istore 7, 2) := by decide +kernel
theorem dL_law_1682 : decode cL_law 1682 = .ok (.aload_n 2, 1) := by decide +kernel
theorem dL_law_1683 : decode cL_law 1683 = .ok (.invokevirtual 156, 3) := by decide +kernel
theorem dL_law_1686 : decode cL_law 1686 = .ok (.iload 6, 2) := by decide +kernel
theorem dL_law_1688 : decode cL_law 1688 = .ok (.if_icmp .eq 5, 3) := by decide +kernel
theorem dL_law_1691 : decode cL_law 1691 = .ok (.iconst 0, 1) := by decide +kernel
theorem dL_law_1692 : decode cL_law 1692 = .ok (.ireturn, 1) := by decide +kernel
theorem dL_law_1693 : decode cL_law 1693 = .ok (.iload 6, 2) := by decide +kernel
theorem dL_law_1695 : decode cL_law 1695 = .ok (.ifCond .ne 15, 3) := by decide +kernel
theorem dL_law_1698 : decode cL_law 1698 = .ok (.aload_n 3, 1) := by decide +kernel
theorem dL_law_1699 : decode cL_law 1699 = .ok (.iconst 0, 1) := by decide +kernel
theorem dL_law_1700 : decode cL_law 1700 = .ok (.laload, 1) := by decide +kernel
theorem dL_law_1701 : decode cL_law 1701 = .ok (.iload 7, 2) := by decide +kernel
theorem dL_law_1703 : decode cL_law 1703 = .ok (.i2l, 1) := by decide +kernel
theorem dL_law_1704 : decode cL_law 1704 = .ok (.lcmp, 1) := by decide +kernel
theorem dL_law_1705 : decode cL_law 1705 = .ok (.ifCond .eq 5, 3) := by decide +kernel
theorem dL_law_1708 : decode cL_law 1708 = .ok (.iconst 0, 1) := by decide +kernel
theorem dL_law_1709 : decode cL_law 1709 = .ok (.ireturn, 1) := by decide +kernel
theorem dL_law_1710 : decode cL_law 1710 = .ok (.goto 940, 3) := by decide +kernel
theorem dL_law_1713 : decode cL_law 1713 = .ok (.aload_n 1, 1) := by decide +kernel
theorem dL_law_1714 : decode cL_law 1714 = .ok (.aload_n 0, 1) := by decide +kernel
theorem dL_law_1715 : decode cL_law 1715 = .ok (.iload 5, 2) := by decide +kernel
theorem dL_law_1717 : decode cL_law 1717 = .ok (.iconst 1, 1) := by decide +kernel
theorem dL_law_1718 : decode cL_law 1718 = .ok (.iadd, 1) := by decide +kernel
theorem dL_law_1719 : decode cL_law 1719 = .ok (.iaload, 1) := by decide +kernel
theorem dL_law_1720 : decode cL_law 1720 = .ok (.aload_n 0, 1) := by decide +kernel
theorem dL_law_1721 : decode cL_law 1721 = .ok (.iload 5, 2) := by decide +kernel
theorem dL_law_1723 : decode cL_law 1723 = .ok (.iconst 2, 1) := by decide +kernel
theorem dL_law_1724 : decode cL_law 1724 = .ok (.iadd, 1) := by decide +kernel
theorem dL_law_1725 : decode cL_law 1725 = .ok (.iaload, 1) := by decide +kernel
theorem dL_law_1726 : decode cL_law 1726 = .ok (.aload_n 0, 1) := by decide +kernel
theorem dL_law_1727 : decode cL_law 1727 = .ok (.iload 5, 2) := by decide +kernel
theorem dL_law_1729 : decode cL_law 1729 = .ok (.iconst 3, 1) := by decide +kernel
theorem dL_law_1730 : decode cL_law 1730 = .ok (.iadd, 1) := by decide +kernel
theorem dL_law_1731 : decode cL_law 1731 = .ok (.iaload, 1) := by decide +kernel
theorem dL_law_1732 : decode cL_law 1732 = .ok (.aload_n 3, 1) := by decide +kernel
theorem dL_law_1733 : decode cL_law 1733 = .ok (.invokestatic 229, 3) := by decide +kernel
theorem dL_law_1736 : decode cL_law 1736 = .ok (.istore 6, 2) := by decide +kernel
theorem dL_law_1738 : decode cL_law 1738 = .ok (.aload_n 2, 1) := by decide +kernel
theorem dL_law_1739 : decode cL_law 1739 = .ok (.aload_n 0, 1) := by decide +kernel
theorem dL_law_1740 : decode cL_law 1740 = .ok (.iload 5, 2) := by decide +kernel
theorem dL_law_1742 : decode cL_law 1742 = .ok (.iconst 1, 1) := by decide +kernel
theorem dL_law_1743 : decode cL_law 1743 = .ok (.iadd, 1) := by decide +kernel
theorem dL_law_1744 : decode cL_law 1744 = .ok (.iaload, 1) := by decide +kernel
theorem dL_law_1745 : decode cL_law 1745 = .ok (.aload_n 0, 1) := by decide +kernel
theorem dL_law_1746 : decode cL_law 1746 = .ok (.iload 5, 2) := by decide +kernel
theorem dL_law_1748 : decode cL_law 1748 = .ok (.iconst 2, 1) := by decide +kernel
theorem dL_law_1749 : decode cL_law 1749 = .ok (.iadd, 1) := by decide +kernel
theorem dL_law_1750 : decode cL_law 1750 = .ok (.iaload, 1) := by decide +kernel
theorem dL_law_1751 : decode cL_law 1751 = .ok (.aload_n 0, 1) := by decide +kernel
theorem dL_law_1752 : decode cL_law 1752 = .ok (.iload 5, 2) := by decide +kernel
theorem dL_law_1754 : decode cL_law 1754 = .ok (.iconst 3, 1) := by decide +kernel
theorem dL_law_1755 : decode cL_law 1755 = .ok (.iadd, 1) := by decide +kernel
theorem dL_law_1756 : decode cL_law 1756 = .ok (.iaload, 1) := by decide +kernel
theorem dL_law_1757 : decode cL_law 1757 = .ok (.invokevirtual 231, 3) := by decide +kernel
theorem dL_law_1760 : decode cL_law 1760 = .ok (.istore 7, 2) := by decide +kernel
theorem dL_law_1762 : decode cL_law 1762 = .ok (.aload_n 2, 1) := by decide +kernel
theorem dL_law_1763 : decode cL_law 1763 = .ok (.invokevirtual 156, 3) := by decide +kernel
theorem dL_law_1766 : decode cL_law 1766 = .ok (.iload 6, 2) := by decide +kernel
theorem dL_law_1768 : decode cL_law 1768 = .ok (.if_icmp .eq 5, 3) := by decide +kernel
theorem dL_law_1771 : decode cL_law 1771 = .ok (.iconst 0, 1) := by decide +kernel
theorem dL_law_1772 : decode cL_law 1772 = .ok (.ireturn, 1) := by decide +kernel
theorem dL_law_1773 : decode cL_law 1773 = .ok (.iload 6, 2) := by decide +kernel
theorem dL_law_1775 : decode cL_law 1775 = .ok (.ifCond .ne 15, 3) := by decide +kernel
theorem dL_law_1778 : decode cL_law 1778 = .ok (.aload_n 3, 1) := by decide +kernel
theorem dL_law_1779 : decode cL_law 1779 = .ok (.iconst 0, 1) := by decide +kernel
theorem dL_law_1780 : decode cL_law 1780 = .ok (.laload, 1) := by decide +kernel
theorem dL_law_1781 : decode cL_law 1781 = .ok (.iload 7, 2) := by decide +kernel
theorem dL_law_1783 : decode cL_law 1783 = .ok (.i2l, 1) := by decide +kernel
theorem dL_law_1784 : decode cL_law 1784 = .ok (.lcmp, 1) := by decide +kernel
theorem dL_law_1785 : decode cL_law 1785 = .ok (.ifCond .eq 5, 3) := by decide +kernel
theorem dL_law_1788 : decode cL_law 1788 = .ok (.iconst 0, 1) := by decide +kernel
theorem dL_law_1789 : decode cL_law 1789 = .ok (.ireturn, 1) := by decide +kernel
theorem dL_law_1790 : decode cL_law 1790 = .ok (.goto 860, 3) := by decide +kernel
theorem dL_law_1793 : decode cL_law 1793 = .ok (.aload_n 1, 1) := by decide +kernel
theorem dL_law_1794 : decode cL_law 1794 = .ok (.aload_n 0, 1) := by decide +kernel
theorem dL_law_1795 : decode cL_law 1795 = .ok (.iload 5, 2) := by decide +kernel
theorem dL_law_1797 : decode cL_law 1797 = .ok (.iconst 1, 1) := by decide +kernel
theorem dL_law_1798 : decode cL_law 1798 = .ok (.iadd, 1) := by decide +kernel
theorem dL_law_1799 : decode cL_law 1799 = .ok (.iaload, 1) := by decide +kernel
theorem dL_law_1800 : decode cL_law 1800 = .ok (.aload_n 0, 1) := by decide +kernel
theorem dL_law_1801 : decode cL_law 1801 = .ok (.iload 5, 2) := by decide +kernel
theorem dL_law_1803 : decode cL_law 1803 = .ok (.iconst 2, 1) := by decide +kernel
theorem dL_law_1804 : decode cL_law 1804 = .ok (.iadd, 1) := by decide +kernel
theorem dL_law_1805 : decode cL_law 1805 = .ok (.iaload, 1) := by decide +kernel
theorem dL_law_1806 : decode cL_law 1806 = .ok (.aload_n 3, 1) := by decide +kernel
theorem dL_law_1807 : decode cL_law 1807 = .ok (.invokestatic 232, 3) := by decide +kernel
theorem dL_law_1810 : decode cL_law 1810 = .ok (.istore 6, 2) := by decide +kernel
theorem dL_law_1812 : decode cL_law 1812 = .ok (.aload_n 2, 1) := by decide +kernel
theorem dL_law_1813 : decode cL_law 1813 = .ok (.aload_n 0, 1) := by decide +kernel
theorem dL_law_1814 : decode cL_law 1814 = .ok (.iload 5, 2) := by decide +kernel
theorem dL_law_1816 : decode cL_law 1816 = .ok (.iconst 1, 1) := by decide +kernel
theorem dL_law_1817 : decode cL_law 1817 = .ok (.iadd, 1) := by decide +kernel
theorem dL_law_1818 : decode cL_law 1818 = .ok (.iaload, 1) := by decide +kernel
theorem dL_law_1819 : decode cL_law 1819 = .ok (.aload_n 0, 1) := by decide +kernel
theorem dL_law_1820 : decode cL_law 1820 = .ok (.iload 5, 2) := by decide +kernel
theorem dL_law_1822 : decode cL_law 1822 = .ok (.iconst 2, 1) := by decide +kernel
theorem dL_law_1823 : decode cL_law 1823 = .ok (.iadd, 1) := by decide +kernel
theorem dL_law_1824 : decode cL_law 1824 = .ok (.iaload, 1) := by decide +kernel
theorem dL_law_1825 : decode cL_law 1825 = .ok (.invokevirtual 234, 3) := by decide +kernel
theorem dL_law_1828 : decode cL_law 1828 = .ok (.istore 7, 2) := by decide +kernel
theorem dL_law_1830 : decode cL_law 1830 = .ok (.aload_n 2, 1) := by decide +kernel
theorem dL_law_1831 : decode cL_law 1831 = .ok (.invokevirtual 156, 3) := by decide +kernel
theorem dL_law_1834 : decode cL_law 1834 = .ok (.iload 6, 2) := by decide +kernel
theorem dL_law_1836 : decode cL_law 1836 = .ok (.if_icmp .eq 5, 3) := by decide +kernel
theorem dL_law_1839 : decode cL_law 1839 = .ok (.iconst 0, 1) := by decide +kernel
theorem dL_law_1840 : decode cL_law 1840 = .ok (.ireturn, 1) := by decide +kernel
theorem dL_law_1841 : decode cL_law 1841 = .ok (.iload 6, 2) := by decide +kernel
theorem dL_law_1843 : decode cL_law 1843 = .ok (.ifCond .ne 15, 3) := by decide +kernel
theorem dL_law_1846 : decode cL_law 1846 = .ok (.aload_n 3, 1) := by decide +kernel
theorem dL_law_1847 : decode cL_law 1847 = .ok (.iconst 0, 1) := by decide +kernel
theorem dL_law_1848 : decode cL_law 1848 = .ok (.laload, 1) := by decide +kernel
theorem dL_law_1849 : decode cL_law 1849 = .ok (.iload 7, 2) := by decide +kernel
theorem dL_law_1851 : decode cL_law 1851 = .ok (.i2l, 1) := by decide +kernel
theorem dL_law_1852 : decode cL_law 1852 = .ok (.lcmp, 1) := by decide +kernel
theorem dL_law_1853 : decode cL_law 1853 = .ok (.ifCond .eq 5, 3) := by decide +kernel
theorem dL_law_1856 : decode cL_law 1856 = .ok (.iconst 0, 1) := by decide +kernel
theorem dL_law_1857 : decode cL_law 1857 = .ok (.ireturn, 1) := by decide +kernel
theorem dL_law_1858 : decode cL_law 1858 = .ok (.goto 792, 3) := by decide +kernel
theorem dL_law_1861 : decode cL_law 1861 = .ok (.aload_n 1, 1) := by decide +kernel
theorem dL_law_1862 : decode cL_law 1862 = .ok (.aload_n 0, 1) := by decide +kernel
theorem dL_law_1863 : decode cL_law 1863 = .ok (.iload 5, 2) := by decide +kernel
theorem dL_law_1865 : decode cL_law 1865 = .ok (.iconst 1, 1) := by decide +kernel
theorem dL_law_1866 : decode cL_law 1866 = .ok (.iadd, 1) := by decide +kernel
theorem dL_law_1867 : decode cL_law 1867 = .ok (.iaload, 1) := by decide +kernel
theorem dL_law_1868 : decode cL_law 1868 = .ok (.aload_n 0, 1) := by decide +kernel
theorem dL_law_1869 : decode cL_law 1869 = .ok (.iload 5, 2) := by decide +kernel
theorem dL_law_1871 : decode cL_law 1871 = .ok (.iconst 2, 1) := by decide +kernel
theorem dL_law_1872 : decode cL_law 1872 = .ok (.iadd, 1) := by decide +kernel
theorem dL_law_1873 : decode cL_law 1873 = .ok (.iaload, 1) := by decide +kernel
theorem dL_law_1874 : decode cL_law 1874 = .ok (.aload_n 3, 1) := by decide +kernel
theorem dL_law_1875 : decode cL_law 1875 = .ok (.invokestatic 235, 3) := by decide +kernel
theorem dL_law_1878 : decode cL_law 1878 = .ok (.istore 6, 2) := by decide +kernel
theorem dL_law_1880 : decode cL_law 1880 = .ok (.aload_n 2, 1) := by decide +kernel
theorem dL_law_1881 : decode cL_law 1881 = .ok (.aload_n 0, 1) := by decide +kernel
theorem dL_law_1882 : decode cL_law 1882 = .ok (.iload 5, 2) := by decide +kernel
theorem dL_law_1884 : decode cL_law 1884 = .ok (.iconst 1, 1) := by decide +kernel
theorem dL_law_1885 : decode cL_law 1885 = .ok (.iadd, 1) := by decide +kernel
theorem dL_law_1886 : decode cL_law 1886 = .ok (.iaload, 1) := by decide +kernel
theorem dL_law_1887 : decode cL_law 1887 = .ok (.aload_n 0, 1) := by decide +kernel
theorem dL_law_1888 : decode cL_law 1888 = .ok (.iload 5, 2) := by decide +kernel
theorem dL_law_1890 : decode cL_law 1890 = .ok (.iconst 2, 1) := by decide +kernel
theorem dL_law_1891 : decode cL_law 1891 = .ok (.iadd, 1) := by decide +kernel
theorem dL_law_1892 : decode cL_law 1892 = .ok (.iaload, 1) := by decide +kernel
theorem dL_law_1893 : decode cL_law 1893 = .ok (.invokevirtual 237, 3) := by decide +kernel
theorem dL_law_1896 : decode cL_law 1896 = .ok (.istore 7, 2) := by decide +kernel
theorem dL_law_1898 : decode cL_law 1898 = .ok (.aload_n 2, 1) := by decide +kernel
theorem dL_law_1899 : decode cL_law 1899 = .ok (.invokevirtual 156, 3) := by decide +kernel
theorem dL_law_1902 : decode cL_law 1902 = .ok (.iload 6, 2) := by decide +kernel
theorem dL_law_1904 : decode cL_law 1904 = .ok (.if_icmp .eq 5, 3) := by decide +kernel
theorem dL_law_1907 : decode cL_law 1907 = .ok (.iconst 0, 1) := by decide +kernel
theorem dL_law_1908 : decode cL_law 1908 = .ok (.ireturn, 1) := by decide +kernel
theorem dL_law_1909 : decode cL_law 1909 = .ok (.iload 6, 2) := by decide +kernel
theorem dL_law_1911 : decode cL_law 1911 = .ok (.ifCond .ne 15, 3) := by decide +kernel
theorem dL_law_1914 : decode cL_law 1914 = .ok (.aload_n 3, 1) := by decide +kernel
theorem dL_law_1915 : decode cL_law 1915 = .ok (.iconst 0, 1) := by decide +kernel
theorem dL_law_1916 : decode cL_law 1916 = .ok (.laload, 1) := by decide +kernel
theorem dL_law_1917 : decode cL_law 1917 = .ok (.iload 7, 2) := by decide +kernel
theorem dL_law_1919 : decode cL_law 1919 = .ok (.i2l, 1) := by decide +kernel
theorem dL_law_1920 : decode cL_law 1920 = .ok (.lcmp, 1) := by decide +kernel
theorem dL_law_1921 : decode cL_law 1921 = .ok (.ifCond .eq 5, 3) := by decide +kernel
theorem dL_law_1924 : decode cL_law 1924 = .ok (.iconst 0, 1) := by decide +kernel
theorem dL_law_1925 : decode cL_law 1925 = .ok (.ireturn, 1) := by decide +kernel
theorem dL_law_1926 : decode cL_law 1926 = .ok (.goto 724, 3) := by decide +kernel
theorem dL_law_1929 : decode cL_law 1929 = .ok (.aload_n 1, 1) := by decide +kernel
theorem dL_law_1930 : decode cL_law 1930 = .ok (.aload_n 0, 1) := by decide +kernel
theorem dL_law_1931 : decode cL_law 1931 = .ok (.iload 5, 2) := by decide +kernel
theorem dL_law_1933 : decode cL_law 1933 = .ok (.iconst 1, 1) := by decide +kernel
theorem dL_law_1934 : decode cL_law 1934 = .ok (.iadd, 1) := by decide +kernel
theorem dL_law_1935 : decode cL_law 1935 = .ok (.iaload, 1) := by decide +kernel
theorem dL_law_1936 : decode cL_law 1936 = .ok (.aload_n 0, 1) := by decide +kernel
theorem dL_law_1937 : decode cL_law 1937 = .ok (.iload 5, 2) := by decide +kernel
theorem dL_law_1939 : decode cL_law 1939 = .ok (.iconst 2, 1) := by decide +kernel
theorem dL_law_1940 : decode cL_law 1940 = .ok (.iadd, 1) := by decide +kernel
theorem dL_law_1941 : decode cL_law 1941 = .ok (.iaload, 1) := by decide +kernel
theorem dL_law_1942 : decode cL_law 1942 = .ok (.aload 4, 2) := by decide +kernel
theorem dL_law_1944 : decode cL_law 1944 = .ok (.invokestatic 238, 3) := by decide +kernel
theorem dL_law_1947 : decode cL_law 1947 = .ok (.istore 6, 2) := by decide +kernel
theorem dL_law_1949 : decode cL_law 1949 = .ok (.aload_n 2, 1) := by decide +kernel
theorem dL_law_1950 : decode cL_law 1950 = .ok (.aload_n 0, 1) := by decide +kernel
theorem dL_law_1951 : decode cL_law 1951 = .ok (.iload 5, 2) := by decide +kernel
theorem dL_law_1953 : decode cL_law 1953 = .ok (.iconst 1, 1) := by decide +kernel
theorem dL_law_1954 : decode cL_law 1954 = .ok (.iadd, 1) := by decide +kernel
theorem dL_law_1955 : decode cL_law 1955 = .ok (.iaload, 1) := by decide +kernel
theorem dL_law_1956 : decode cL_law 1956 = .ok (.aload_n 0, 1) := by decide +kernel
theorem dL_law_1957 : decode cL_law 1957 = .ok (.iload 5, 2) := by decide +kernel
theorem dL_law_1959 : decode cL_law 1959 = .ok (.iconst 2, 1) := by decide +kernel
theorem dL_law_1960 : decode cL_law 1960 = .ok (.iadd, 1) := by decide +kernel
theorem dL_law_1961 : decode cL_law 1961 = .ok (.iaload, 1) := by decide +kernel
theorem dL_law_1962 : decode cL_law 1962 = .ok (.invokevirtual 241, 3) := by decide +kernel
theorem dL_law_1965 : decode cL_law 1965 = .ok (.dstore 7, 2) := by decide +kernel
theorem dL_law_1967 : decode cL_law 1967 = .ok (.aload_n 2, 1) := by decide +kernel
theorem dL_law_1968 : decode cL_law 1968 = .ok (.invokevirtual 156, 3) := by decide +kernel
theorem dL_law_1971 : decode cL_law 1971 = .ok (.iload 6, 2) := by decide +kernel
theorem dL_law_1973 : decode cL_law 1973 = .ok (.if_icmp .eq 5, 3) := by decide +kernel
theorem dL_law_1976 : decode cL_law 1976 = .ok (.iconst 0, 1) := by decide +kernel
theorem dL_law_1977 : decode cL_law 1977 = .ok (.ireturn, 1) := by decide +kernel
theorem dL_law_1978 : decode cL_law 1978 = .ok (.iload 6, 2) := by decide +kernel
theorem dL_law_1980 : decode cL_law 1980 = .ok (.ifCond .ne 35, 3) := by decide +kernel
theorem dL_law_1983 : decode cL_law 1983 = .ok (.aload 4, 2) := by decide +kernel
theorem dL_law_1985 : decode cL_law 1985 = .ok (.iconst 0, 1) := by decide +kernel
theorem dL_law_1986 : decode cL_law 1986 = .ok (.daload, 1) := by decide +kernel
theorem dL_law_1987 : decode cL_law 1987 = .ok (.dload 7, 2) := by decide +kernel
theorem dL_law_1989 : decode cL_law 1989 = .ok (.dcmp .l, 1) := by decide +kernel
theorem dL_law_1990 : decode cL_law 1990 = .ok (.ifCond .eq 25, 3) := by decide +kernel
theorem dL_law_1993 : decode cL_law 1993 = .ok (.aload 4, 2) := by decide +kernel
theorem dL_law_1995 : decode cL_law 1995 = .ok (.iconst 0, 1) := by decide +kernel
theorem dL_law_1996 : decode cL_law 1996 = .ok (.daload, 1) := by decide +kernel
theorem dL_law_1997 : decode cL_law 1997 = .ok (.aload 4, 2) := by decide +kernel
theorem dL_law_1999 : decode cL_law 1999 = .ok (.iconst 0, 1) := by decide +kernel
theorem dL_law_2000 : decode cL_law 2000 = .ok (.daload, 1) := by decide +kernel
theorem dL_law_2001 : decode cL_law 2001 = .ok (.dcmp .l, 1) := by decide +kernel
theorem dL_law_2002 : decode cL_law 2002 = .ok (.ifCond .eq 11, 3) := by decide +kernel
theorem dL_law_2005 : decode cL_law 2005 = .ok (.dload 7, 2) := by decide +kernel
theorem dL_law_2007 : decode cL_law 2007 = .ok (.dload 7, 2) := by decide +kernel
theorem dL_law_2009 : decode cL_law 2009 = .ok (.dcmp .l, 1) := by decide +kernel
theorem dL_law_2010 : decode cL_law 2010 = .ok (.ifCond .ne 5, 3) := by decide +kernel
theorem dL_law_2013 : decode cL_law 2013 = .ok (.iconst 0, 1) := by decide +kernel
theorem dL_law_2014 : decode cL_law 2014 = .ok (.ireturn, 1) := by decide +kernel
theorem dL_law_2015 : decode cL_law 2015 = .ok (.goto 635, 3) := by decide +kernel
theorem dL_law_2018 : decode cL_law 2018 = .ok (.aload_n 1, 1) := by decide +kernel
theorem dL_law_2019 : decode cL_law 2019 = .ok (.aload_n 0, 1) := by decide +kernel
theorem dL_law_2020 : decode cL_law 2020 = .ok (.iload 5, 2) := by decide +kernel
theorem dL_law_2022 : decode cL_law 2022 = .ok (.iconst 1, 1) := by decide +kernel
theorem dL_law_2023 : decode cL_law 2023 = .ok (.iadd, 1) := by decide +kernel
theorem dL_law_2024 : decode cL_law 2024 = .ok (.iaload, 1) := by decide +kernel
theorem dL_law_2025 : decode cL_law 2025 = .ok (.aload_n 0, 1) := by decide +kernel
theorem dL_law_2026 : decode cL_law 2026 = .ok (.iload 5, 2) := by decide +kernel
theorem dL_law_2028 : decode cL_law 2028 = .ok (.iconst 2, 1) := by decide +kernel
theorem dL_law_2029 : decode cL_law 2029 = .ok (.iadd, 1) := by decide +kernel
theorem dL_law_2030 : decode cL_law 2030 = .ok (.iaload, 1) := by decide +kernel
theorem dL_law_2031 : decode cL_law 2031 = .ok (.aload_n 3, 1) := by decide +kernel
theorem dL_law_2032 : decode cL_law 2032 = .ok (.invokestatic 242, 3) := by decide +kernel
theorem dL_law_2035 : decode cL_law 2035 = .ok (.istore 6, 2) := by decide +kernel
theorem dL_law_2037 : decode cL_law 2037 = .ok (.aload_n 2, 1) := by decide +kernel
theorem dL_law_2038 : decode cL_law 2038 = .ok (.aload_n 0, 1) := by decide +kernel
theorem dL_law_2039 : decode cL_law 2039 = .ok (.iload 5, 2) := by decide +kernel
theorem dL_law_2041 : decode cL_law 2041 = .ok (.iconst 1, 1) := by decide +kernel
theorem dL_law_2042 : decode cL_law 2042 = .ok (.iadd, 1) := by decide +kernel
theorem dL_law_2043 : decode cL_law 2043 = .ok (.iaload, 1) := by decide +kernel
theorem dL_law_2044 : decode cL_law 2044 = .ok (.aload_n 0, 1) := by decide +kernel
theorem dL_law_2045 : decode cL_law 2045 = .ok (.iload 5, 2) := by decide +kernel
theorem dL_law_2047 : decode cL_law 2047 = .ok (.iconst 2, 1) := by decide +kernel
theorem dL_law_2048 : decode cL_law 2048 = .ok (.iadd, 1) := by decide +kernel
theorem dL_law_2049 : decode cL_law 2049 = .ok (.iaload, 1) := by decide +kernel
theorem dL_law_2050 : decode cL_law 2050 = .ok (.invokevirtual 244, 3) := by decide +kernel
theorem dL_law_2053 : decode cL_law 2053 = .ok (.istore 7, 2) := by decide +kernel
theorem dL_law_2055 : decode cL_law 2055 = .ok (.aload_n 2, 1) := by decide +kernel
theorem dL_law_2056 : decode cL_law 2056 = .ok (.invokevirtual 156, 3) := by decide +kernel
theorem dL_law_2059 : decode cL_law 2059 = .ok (.iload 6, 2) := by decide +kernel
theorem dL_law_2061 : decode cL_law 2061 = .ok (.if_icmp .eq 5, 3) := by decide +kernel
theorem dL_law_2064 : decode cL_law 2064 = .ok (.iconst 0, 1) := by decide +kernel
theorem dL_law_2065 : decode cL_law 2065 = .ok (.ireturn, 1) := by decide +kernel
theorem dL_law_2066 : decode cL_law 2066 = .ok (.iload 6, 2) := by decide +kernel
theorem dL_law_2068 : decode cL_law 2068 = .ok (.ifCond .ne 15, 3) := by decide +kernel
theorem dL_law_2071 : decode cL_law 2071 = .ok (.aload_n 3, 1) := by decide +kernel
theorem dL_law_2072 : decode cL_law 2072 = .ok (.iconst 0, 1) := by decide +kernel
theorem dL_law_2073 : decode cL_law 2073 = .ok (.laload, 1) := by decide +kernel
theorem dL_law_2074 : decode cL_law 2074 = .ok (.iload 7, 2) := by decide +kernel
theorem dL_law_2076 : decode cL_law 2076 = .ok (.i2l, 1) := by decide +kernel
theorem dL_law_2077 : decode cL_law 2077 = .ok (.lcmp, 1) := by decide +kernel
theorem dL_law_2078 : decode cL_law 2078 = .ok (.ifCond .eq 5, 3) := by decide +kernel
theorem dL_law_2081 : decode cL_law 2081 = .ok (.iconst 0, 1) := by decide +kernel
theorem dL_law_2082 : decode cL_law 2082 = .ok (.ireturn, 1) := by decide +kernel
theorem dL_law_2083 : decode cL_law 2083 = .ok (.goto 567, 3) := by decide +kernel
theorem dL_law_2086 : decode cL_law 2086 = .ok (.aload_n 1, 1) := by decide +kernel
theorem dL_law_2087 : decode cL_law 2087 = .ok (.aload_n 3, 1) := by decide +kernel
theorem dL_law_2088 : decode cL_law 2088 = .ok (.invokestatic 245, 3) := by decide +kernel
theorem dL_law_2091 : decode cL_law 2091 = .ok (.istore 6, 2) := by decide +kernel
theorem dL_law_2093 : decode cL_law 2093 = .ok (.aload_n 2, 1) := by decide +kernel
theorem dL_law_2094 : decode cL_law 2094 = .ok (.invokevirtual 247, 3) := by decide +kernel
theorem dL_law_2097 : decode cL_law 2097 = .ok (.istore 7, 2) := by decide +kernel
theorem dL_law_2099 : decode cL_law 2099 = .ok (.aload_n 2, 1) := by decide +kernel
theorem dL_law_2100 : decode cL_law 2100 = .ok (.invokevirtual 156, 3) := by decide +kernel
theorem dL_law_2103 : decode cL_law 2103 = .ok (.iload 6, 2) := by decide +kernel
theorem dL_law_2105 : decode cL_law 2105 = .ok (.if_icmp .eq 5, 3) := by decide +kernel
theorem dL_law_2108 : decode cL_law 2108 = .ok (.iconst 0, 1) := by decide +kernel
theorem dL_law_2109 : decode cL_law 2109 = .ok (.ireturn, 1) := by decide +kernel
theorem dL_law_2110 : decode cL_law 2110 = .ok (.iload 6, 2) := by decide +kernel
theorem dL_law_2112 : decode cL_law 2112 = .ok (.ifCond .ne 15, 3) := by decide +kernel
theorem dL_law_2115 : decode cL_law 2115 = .ok (.aload_n 3, 1) := by decide +kernel
theorem dL_law_2116 : decode cL_law 2116 = .ok (.iconst 0, 1) := by decide +kernel
theorem dL_law_2117 : decode cL_law 2117 = .ok (.laload, 1) := by decide +kernel
theorem dL_law_2118 : decode cL_law 2118 = .ok (.iload 7, 2) := by decide +kernel
theorem dL_law_2120 : decode cL_law 2120 = .ok (.i2l, 1) := by decide +kernel
theorem dL_law_2121 : decode cL_law 2121 = .ok (.lcmp, 1) := by decide +kernel
theorem dL_law_2122 : decode cL_law 2122 = .ok (.ifCond .eq 5, 3) := by decide +kernel
theorem dL_law_2125 : decode cL_law 2125 = .ok (.iconst 0, 1) := by decide +kernel
theorem dL_law_2126 : decode cL_law 2126 = .ok (.ireturn, 1) := by decide +kernel
theorem dL_law_2127 : decode cL_law 2127 = .ok (.goto 523, 3) := by decide +kernel
theorem dL_law_2130 : decode cL_law 2130 = .ok (.aload_n 1, 1) := by decide +kernel
theorem dL_law_2131 : decode cL_law 2131 = .ok (.aload_n 0, 1) := by decide +kernel
theorem dL_law_2132 : decode cL_law 2132 = .ok (.iload 5, 2) := by decide +kernel
theorem dL_law_2134 : decode cL_law 2134 = .ok (.iconst 1, 1) := by decide +kernel
theorem dL_law_2135 : decode cL_law 2135 = .ok (.iadd, 1) := by decide +kernel
theorem dL_law_2136 : decode cL_law 2136 = .ok (.iaload, 1) := by decide +kernel
theorem dL_law_2137 : decode cL_law 2137 = .ok (.aload_n 3, 1) := by decide +kernel
theorem dL_law_2138 : decode cL_law 2138 = .ok (.invokestatic 248, 3) := by decide +kernel
theorem dL_law_2141 : decode cL_law 2141 = .ok (.istore 6, 2) := by decide +kernel
theorem dL_law_2143 : decode cL_law 2143 = .ok (.aload_n 2, 1) := by decide +kernel
theorem dL_law_2144 : decode cL_law 2144 = .ok (.aload_n 0, 1) := by decide +kernel
theorem dL_law_2145 : decode cL_law 2145 = .ok (.iload 5, 2) := by decide +kernel
theorem dL_law_2147 : decode cL_law 2147 = .ok (.iconst 1, 1) := by decide +kernel
theorem dL_law_2148 : decode cL_law 2148 = .ok (.iadd, 1) := by decide +kernel
theorem dL_law_2149 : decode cL_law 2149 = .ok (.iaload, 1) := by decide +kernel
theorem dL_law_2150 : decode cL_law 2150 = .ok (.invokevirtual 250, 3) := by decide +kernel
theorem dL_law_2153 : decode cL_law 2153 = .ok (.istore 7, 2) := by decide +kernel
theorem dL_law_2155 : decode cL_law 2155 = .ok (.aload_n 2, 1) := by decide +kernel
theorem dL_law_2156 : decode cL_law 2156 = .ok (.invokevirtual 156, 3) := by decide +kernel
theorem dL_law_2159 : decode cL_law 2159 = .ok (.iload 6, 2) := by decide +kernel
theorem dL_law_2161 : decode cL_law 2161 = .ok (.if_icmp .eq 5, 3) := by decide +kernel
theorem dL_law_2164 : decode cL_law 2164 = .ok (.iconst 0, 1) := by decide +kernel
theorem dL_law_2165 : decode cL_law 2165 = .ok (.ireturn, 1) := by decide +kernel
theorem dL_law_2166 : decode cL_law 2166 = .ok (.iload 6, 2) := by decide +kernel
theorem dL_law_2168 : decode cL_law 2168 = .ok (.ifCond .ne 15, 3) := by decide +kernel
theorem dL_law_2171 : decode cL_law 2171 = .ok (.aload_n 3, 1) := by decide +kernel
theorem dL_law_2172 : decode cL_law 2172 = .ok (.iconst 0, 1) := by decide +kernel
theorem dL_law_2173 : decode cL_law 2173 = .ok (.laload, 1) := by decide +kernel
theorem dL_law_2174 : decode cL_law 2174 = .ok (.iload 7, 2) := by decide +kernel
theorem dL_law_2176 : decode cL_law 2176 = .ok (.i2l, 1) := by decide +kernel
theorem dL_law_2177 : decode cL_law 2177 = .ok (.lcmp, 1) := by decide +kernel
theorem dL_law_2178 : decode cL_law 2178 = .ok (.ifCond .eq 5, 3) := by decide +kernel
theorem dL_law_2181 : decode cL_law 2181 = .ok (.iconst 0, 1) := by decide +kernel
theorem dL_law_2182 : decode cL_law 2182 = .ok (.ireturn, 1) := by decide +kernel
theorem dL_law_2183 : decode cL_law 2183 = .ok (.goto 467, 3) := by decide +kernel
theorem dL_law_2186 : decode cL_law 2186 = .ok (.aload_n 1, 1) := by decide +kernel
theorem dL_law_2187 : decode cL_law 2187 = .ok (.aload_n 0, 1) := by decide +kernel
theorem dL_law_2188 : decode cL_law 2188 = .ok (.iload 5, 2) := by decide +kernel
theorem dL_law_2190 : decode cL_law 2190 = .ok (.iconst 1, 1) := by decide +kernel
theorem dL_law_2191 : decode cL_law 2191 = .ok (.iadd, 1) := by decide +kernel
theorem dL_law_2192 : decode cL_law 2192 = .ok (.iaload, 1) := by decide +kernel
theorem dL_law_2193 : decode cL_law 2193 = .ok (.aload_n 3, 1) := by decide +kernel
theorem dL_law_2194 : decode cL_law 2194 = .ok (.invokestatic 251, 3) := by decide +kernel
theorem dL_law_2197 : decode cL_law 2197 = .ok (.istore 6, 2) := by decide +kernel
theorem dL_law_2199 : decode cL_law 2199 = .ok (.aload_n 2, 1) := by decide +kernel
theorem dL_law_2200 : decode cL_law 2200 = .ok (.aload_n 0, 1) := by decide +kernel
theorem dL_law_2201 : decode cL_law 2201 = .ok (.iload 5, 2) := by decide +kernel
theorem dL_law_2203 : decode cL_law 2203 = .ok (.iconst 1, 1) := by decide +kernel
theorem dL_law_2204 : decode cL_law 2204 = .ok (.iadd, 1) := by decide +kernel
theorem dL_law_2205 : decode cL_law 2205 = .ok (.iaload, 1) := by decide +kernel
theorem dL_law_2206 : decode cL_law 2206 = .ok (.invokevirtual 253, 3) := by decide +kernel
theorem dL_law_2209 : decode cL_law 2209 = .ok (.istore 7, 2) := by decide +kernel
theorem dL_law_2211 : decode cL_law 2211 = .ok (.aload_n 2, 1) := by decide +kernel
theorem dL_law_2212 : decode cL_law 2212 = .ok (.invokevirtual 156, 3) := by decide +kernel
theorem dL_law_2215 : decode cL_law 2215 = .ok (.iload 6, 2) := by decide +kernel
theorem dL_law_2217 : decode cL_law 2217 = .ok (.if_icmp .eq 5, 3) := by decide +kernel
theorem dL_law_2220 : decode cL_law 2220 = .ok (.iconst 0, 1) := by decide +kernel
theorem dL_law_2221 : decode cL_law 2221 = .ok (.ireturn, 1) := by decide +kernel
theorem dL_law_2222 : decode cL_law 2222 = .ok (.iload 6, 2) := by decide +kernel
theorem dL_law_2224 : decode cL_law 2224 = .ok (.ifCond .ne 15, 3) := by decide +kernel
theorem dL_law_2227 : decode cL_law 2227 = .ok (.aload_n 3, 1) := by decide +kernel
theorem dL_law_2228 : decode cL_law 2228 = .ok (.iconst 0, 1) := by decide +kernel
theorem dL_law_2229 : decode cL_law 2229 = .ok (.laload, 1) := by decide +kernel
theorem dL_law_2230 : decode cL_law 2230 = .ok (.iload 7, 2) := by decide +kernel
theorem dL_law_2232 : decode cL_law 2232 = .ok (.i2l, 1) := by decide +kernel
theorem dL_law_2233 : decode cL_law 2233 = .ok (.lcmp, 1) := by decide +kernel
theorem dL_law_2234 : decode cL_law 2234 = .ok (.ifCond .eq 5, 3) := by decide +kernel
theorem dL_law_2237 : decode cL_law 2237 = .ok (.iconst 0, 1) := by decide +kernel
theorem dL_law_2238 : decode cL_law 2238 = .ok (.ireturn, 1) := by decide +kernel
theorem dL_law_2239 : decode cL_law 2239 = .ok (.goto 411, 3) := by decide +kernel
theorem dL_law_2242 : decode cL_law 2242 = .ok (.aload_n 1, 1) := by decide +kernel
theorem dL_law_2243 : decode cL_law 2243 = .ok (.aload_n 0, 1) := by decide +kernel
theorem dL_law_2244 : decode cL_law 2244 = .ok (.iload 5, 2) := by decide +kernel
theorem dL_law_2246 : decode cL_law 2246 = .ok (.iconst 1, 1) := by decide +kernel
theorem dL_law_2247 : decode cL_law 2247 = .ok (.iadd, 1) := by decide +kernel
theorem dL_law_2248 : decode cL_law 2248 = .ok (.iaload, 1) := by decide +kernel
theorem dL_law_2249 : decode cL_law 2249 = .ok (.aload_n 3, 1) := by decide +kernel
theorem dL_law_2250 : decode cL_law 2250 = .ok (.invokestatic 254, 3) := by decide +kernel
theorem dL_law_2253 : decode cL_law 2253 = .ok (.istore 6, 2) := by decide +kernel
theorem dL_law_2255 : decode cL_law 2255 = .ok (.aload_n 2, 1) := by decide +kernel
theorem dL_law_2256 : decode cL_law 2256 = .ok (.aload_n 0, 1) := by decide +kernel
theorem dL_law_2257 : decode cL_law 2257 = .ok (.iload 5, 2) := by decide +kernel
theorem dL_law_2259 : decode cL_law 2259 = .ok (.iconst 1, 1) := by decide +kernel
theorem dL_law_2260 : decode cL_law 2260 = .ok (.iadd, 1) := by decide +kernel
theorem dL_law_2261 : decode cL_law 2261 = .ok (.iaload, 1) := by decide +kernel
theorem dL_law_2262 : decode cL_law 2262 = .ok (.invokevirtual 256, 3) := by decide +kernel
theorem dL_law_2265 : decode cL_law 2265 = .ok (.istore 7, 2) := by decide +kernel
theorem dL_law_2267 : decode cL_law 2267 = .ok (.aload_n 2, 1) := by decide +kernel
theorem dL_law_2268 : decode cL_law 2268 = .ok (.invokevirtual 156, 3) := by decide +kernel
theorem dL_law_2271 : decode cL_law 2271 = .ok (.iload 6, 2) := by decide +kernel
theorem dL_law_2273 : decode cL_law 2273 = .ok (.if_icmp .eq 5, 3) := by decide +kernel
theorem dL_law_2276 : decode cL_law 2276 = .ok (.iconst 0, 1) := by decide +kernel
theorem dL_law_2277 : decode cL_law 2277 = .ok (.ireturn, 1) := by decide +kernel
theorem dL_law_2278 : decode cL_law 2278 = .ok (.iload 6, 2) := by decide +kernel
theorem dL_law_2280 : decode cL_law 2280 = .ok (.ifCond .ne 15, 3) := by decide +kernel
theorem dL_law_2283 : decode cL_law 2283 = .ok (.aload_n 3, 1) := by decide +kernel
theorem dL_law_2284 : decode cL_law 2284 = .ok (.iconst 0, 1) := by decide +kernel
theorem dL_law_2285 : decode cL_law 2285 = .ok (.laload, 1) := by decide +kernel
theorem dL_law_2286 : decode cL_law 2286 = .ok (.iload 7, 2) := by decide +kernel
theorem dL_law_2288 : decode cL_law 2288 = .ok (.i2l, 1) := by decide +kernel
theorem dL_law_2289 : decode cL_law 2289 = .ok (.lcmp, 1) := by decide +kernel
theorem dL_law_2290 : decode cL_law 2290 = .ok (.ifCond .eq 5, 3) := by decide +kernel
theorem dL_law_2293 : decode cL_law 2293 = .ok (.iconst 0, 1) := by decide +kernel
theorem dL_law_2294 : decode cL_law 2294 = .ok (.ireturn, 1) := by decide +kernel
theorem dL_law_2295 : decode cL_law 2295 = .ok (.goto 355, 3) := by decide +kernel
theorem dL_law_2298 : decode cL_law 2298 = .ok (.aload_n 1, 1) := by decide +kernel
theorem dL_law_2299 : decode cL_law 2299 = .ok (.aload_n 0, 1) := by decide +kernel
theorem dL_law_2300 : decode cL_law 2300 = .ok (.iload 5, 2) := by decide +kernel
theorem dL_law_2302 : decode cL_law 2302 = .ok (.iconst 1, 1) := by decide +kernel
theorem dL_law_2303 : decode cL_law 2303 = .ok (.iadd, 1) := by decide +kernel
theorem dL_law_2304 : decode cL_law 2304 = .ok (.iaload, 1) := by decide +kernel
theorem dL_law_2305 : decode cL_law 2305 = .ok (.aload_n 3, 1) := by decide +kernel
theorem dL_law_2306 : decode cL_law 2306 = .ok (.invokestatic 257, 3) := by decide +kernel
theorem dL_law_2309 : decode cL_law 2309 = .ok (.istore 6, 2) := by decide +kernel
theorem dL_law_2311 : decode cL_law 2311 = .ok (.aload_n 2, 1) := by decide +kernel
theorem dL_law_2312 : decode cL_law 2312 = .ok (.aload_n 0, 1) := by decide +kernel
theorem dL_law_2313 : decode cL_law 2313 = .ok (.iload 5, 2) := by decide +kernel
theorem dL_law_2315 : decode cL_law 2315 = .ok (.iconst 1, 1) := by decide +kernel
theorem dL_law_2316 : decode cL_law 2316 = .ok (.iadd, 1) := by decide +kernel
theorem dL_law_2317 : decode cL_law 2317 = .ok (.iaload, 1) := by decide +kernel
theorem dL_law_2318 : decode cL_law 2318 = .ok (.invokevirtual 259, 3) := by decide +kernel
theorem dL_law_2321 : decode cL_law 2321 = .ok (.istore 7, 2) := by decide +kernel
theorem dL_law_2323 : decode cL_law 2323 = .ok (.aload_n 2, 1) := by decide +kernel
theorem dL_law_2324 : decode cL_law 2324 = .ok (.invokevirtual 156, 3) := by decide +kernel
theorem dL_law_2327 : decode cL_law 2327 = .ok (.iload 6, 2) := by decide +kernel
theorem dL_law_2329 : decode cL_law 2329 = .ok (.if_icmp .eq 5, 3) := by decide +kernel
theorem dL_law_2332 : decode cL_law 2332 = .ok (.iconst 0, 1) := by decide +kernel
theorem dL_law_2333 : decode cL_law 2333 = .ok (.ireturn, 1) := by decide +kernel
theorem dL_law_2334 : decode cL_law 2334 = .ok (.iload 6, 2) := by decide +kernel
theorem dL_law_2336 : decode cL_law 2336 = .ok (.ifCond .ne 15, 3) := by decide +kernel
theorem dL_law_2339 : decode cL_law 2339 = .ok (.aload_n 3, 1) := by decide +kernel
theorem dL_law_2340 : decode cL_law 2340 = .ok (.iconst 0, 1) := by decide +kernel
theorem dL_law_2341 : decode cL_law 2341 = .ok (.laload, 1) := by decide +kernel
theorem dL_law_2342 : decode cL_law 2342 = .ok (.iload 7, 2) := by decide +kernel
theorem dL_law_2344 : decode cL_law 2344 = .ok (.i2l, 1) := by decide +kernel
theorem dL_law_2345 : decode cL_law 2345 = .ok (.lcmp, 1) := by decide +kernel
theorem dL_law_2346 : decode cL_law 2346 = .ok (.ifCond .eq 5, 3) := by decide +kernel
theorem dL_law_2349 : decode cL_law 2349 = .ok (.iconst 0, 1) := by decide +kernel
theorem dL_law_2350 : decode cL_law 2350 = .ok (.ireturn, 1) := by decide +kernel
theorem dL_law_2351 : decode cL_law 2351 = .ok (.goto 299, 3) := by decide +kernel
theorem dL_law_2354 : decode cL_law 2354 = .ok (.aload_n 1, 1) := by decide +kernel
theorem dL_law_2355 : decode cL_law 2355 = .ok (.aload_n 3, 1) := by decide +kernel
theorem dL_law_2356 : decode cL_law 2356 = .ok (.invokestatic 260, 3) := by decide +kernel
theorem dL_law_2359 : decode cL_law 2359 = .ok (.istore 6, 2) := by decide +kernel
theorem dL_law_2361 : decode cL_law 2361 = .ok (.aload_n 2, 1) := by decide +kernel
theorem dL_law_2362 : decode cL_law 2362 = .ok (.invokevirtual 262, 3) := by decide +kernel
theorem dL_law_2365 : decode cL_law 2365 = .ok (.istore 7, 2) := by decide +kernel
theorem dL_law_2367 : decode cL_law 2367 = .ok (.aload_n 2, 1) := by decide +kernel
theorem dL_law_2368 : decode cL_law 2368 = .ok (.invokevirtual 156, 3) := by decide +kernel
theorem dL_law_2371 : decode cL_law 2371 = .ok (.iload 6, 2) := by decide +kernel
theorem dL_law_2373 : decode cL_law 2373 = .ok (.if_icmp .eq 5, 3) := by decide +kernel
theorem dL_law_2376 : decode cL_law 2376 = .ok (.iconst 0, 1) := by decide +kernel
theorem dL_law_2377 : decode cL_law 2377 = .ok (.ireturn, 1) := by decide +kernel
theorem dL_law_2378 : decode cL_law 2378 = .ok (.iload 6, 2) := by decide +kernel
theorem dL_law_2380 : decode cL_law 2380 = .ok (.ifCond .ne 15, 3) := by decide +kernel
theorem dL_law_2383 : decode cL_law 2383 = .ok (.aload_n 3, 1) := by decide +kernel
theorem dL_law_2384 : decode cL_law 2384 = .ok (.iconst 0, 1) := by decide +kernel
theorem dL_law_2385 : decode cL_law 2385 = .ok (.laload, 1) := by decide +kernel
theorem dL_law_2386 : decode cL_law 2386 = .ok (.iload 7, 2) := by decide +kernel
theorem dL_law_2388 : decode cL_law 2388 = .ok (.i2l, 1) := by decide +kernel
theorem dL_law_2389 : decode cL_law 2389 = .ok (.lcmp, 1) := by decide +kernel
theorem dL_law_2390 : decode cL_law 2390 = .ok (.ifCond .eq 5, 3) := by decide +kernel
theorem dL_law_2393 : decode cL_law 2393 = .ok (.iconst 0, 1) := by decide +kernel
theorem dL_law_2394 : decode cL_law 2394 = .ok (.ireturn, 1) := by decide +kernel
theorem dL_law_2395 : decode cL_law 2395 = .ok (.goto 255, 3) := by decide +kernel
theorem dL_law_2398 : decode cL_law 2398 = .ok (.aload_n 1, 1) := by decide +kernel
theorem dL_law_2399 : decode cL_law 2399 = .ok (.aload_n 3, 1) := by decide +kernel
theorem dL_law_2400 : decode cL_law 2400 = .ok (.invokestatic 263, 3) := by decide +kernel
theorem dL_law_2403 : decode cL_law 2403 = .ok (.istore 6, 2) := by decide +kernel
theorem dL_law_2405 : decode cL_law 2405 = .ok (.aload_n 2, 1) := by decide +kernel
theorem dL_law_2406 : decode cL_law 2406 = .ok (.invokevirtual 265, 3) := by decide +kernel
theorem dL_law_2409 : decode cL_law 2409 = .ok (.istore 7, 2) := by decide +kernel
theorem dL_law_2411 : decode cL_law 2411 = .ok (.aload_n 2, 1) := by decide +kernel
theorem dL_law_2412 : decode cL_law 2412 = .ok (.invokevirtual 156, 3) := by decide +kernel
theorem dL_law_2415 : decode cL_law 2415 = .ok (.iload 6, 2) := by decide +kernel
theorem dL_law_2417 : decode cL_law 2417 = .ok (.if_icmp .eq 5, 3) := by decide +kernel
theorem dL_law_2420 : decode cL_law 2420 = .ok (.iconst 0, 1) := by decide +kernel
theorem dL_law_2421 : decode cL_law 2421 = .ok (.ireturn, 1) := by decide +kernel
theorem dL_law_2422 : decode cL_law 2422 = .ok (.iload 6, 2) := by decide +kernel
theorem dL_law_2424 : decode cL_law 2424 = .ok (.ifCond .ne 15, 3) := by decide +kernel
theorem dL_law_2427 : decode cL_law 2427 = .ok (.aload_n 3, 1) := by decide +kernel
theorem dL_law_2428 : decode cL_law 2428 = .ok (.iconst 0, 1) := by decide +kernel
theorem dL_law_2429 : decode cL_law 2429 = .ok (.laload, 1) := by decide +kernel
theorem dL_law_2430 : decode cL_law 2430 = .ok (.iload 7, 2) := by decide +kernel
theorem dL_law_2432 : decode cL_law 2432 = .ok (.i2l, 1) := by decide +kernel
theorem dL_law_2433 : decode cL_law 2433 = .ok (.lcmp, 1) := by decide +kernel
theorem dL_law_2434 : decode cL_law 2434 = .ok (.ifCond .eq 5, 3) := by decide +kernel
theorem dL_law_2437 : decode cL_law 2437 = .ok (.iconst 0, 1) := by decide +kernel
theorem dL_law_2438 : decode cL_law 2438 = .ok (.ireturn, 1) := by decide +kernel
theorem dL_law_2439 : decode cL_law 2439 = .ok (.goto 211, 3) := by decide +kernel
theorem dL_law_2442 : decode cL_law 2442 = .ok (.aload_n 1, 1) := by decide +kernel
theorem dL_law_2443 : decode cL_law 2443 = .ok (.aload_n 3, 1) := by decide +kernel
theorem dL_law_2444 : decode cL_law 2444 = .ok (.invokestatic 266, 3) := by decide +kernel
theorem dL_law_2447 : decode cL_law 2447 = .ok (.istore 6, 2) := by decide +kernel
theorem dL_law_2449 : decode cL_law 2449 = .ok (.aload_n 2, 1) := by decide +kernel
theorem dL_law_2450 : decode cL_law 2450 = .ok (.invokevirtual 268, 3) := by decide +kernel
theorem dL_law_2453 : decode cL_law 2453 = .ok (.istore 7, 2) := by decide +kernel
theorem dL_law_2455 : decode cL_law 2455 = .ok (.aload_n 2, 1) := by decide +kernel
theorem dL_law_2456 : decode cL_law 2456 = .ok (.invokevirtual 156, 3) := by decide +kernel
theorem dL_law_2459 : decode cL_law 2459 = .ok (.iload 6, 2) := by decide +kernel
theorem dL_law_2461 : decode cL_law 2461 = .ok (.if_icmp .eq 5, 3) := by decide +kernel
theorem dL_law_2464 : decode cL_law 2464 = .ok (.iconst 0, 1) := by decide +kernel
theorem dL_law_2465 : decode cL_law 2465 = .ok (.ireturn, 1) := by decide +kernel
theorem dL_law_2466 : decode cL_law 2466 = .ok (.iload 6, 2) := by decide +kernel
theorem dL_law_2468 : decode cL_law 2468 = .ok (.ifCond .ne 22, 3) := by decide +kernel
theorem dL_law_2471 : decode cL_law 2471 = .ok (.aload_n 3, 1) := by decide +kernel
theorem dL_law_2472 : decode cL_law 2472 = .ok (.iconst 0, 1) := by decide +kernel
theorem dL_law_2473 : decode cL_law 2473 = .ok (.laload, 1) := by decide +kernel
theorem dL_law_2474 : decode cL_law 2474 = .ok (.iload 7, 2) := by decide +kernel
theorem dL_law_2476 : decode cL_law 2476 = .ok (.ifCond .eq 7, 3) := by decide +kernel
theorem dL_law_2479 : decode cL_law 2479 = .ok (.lconst 1, 1) := by decide +kernel
theorem dL_law_2480 : decode cL_law 2480 = .ok (.goto 4, 3) := by decide +kernel
theorem dL_law_2483 : decode cL_law 2483 = .ok (.lconst 0, 1) := by decide +kernel
theorem dL_law_2484 : decode cL_law 2484 = .ok (.lcmp, 1) := by decide +kernel
theorem dL_law_2485 : decode cL_law 2485 = .ok (.ifCond .eq 5, 3) := by decide +kernel
theorem dL_law_2488 : decode cL_law 2488 = .ok (.iconst 0, 1) := by decide +kernel
theorem dL_law_2489 : decode cL_law 2489 = .ok (.ireturn, 1) := by decide +kernel
theorem dL_law_2490 : decode cL_law 2490 = .ok (.goto 160, 3) := by decide +kernel
theorem dL_law_2493 : decode cL_law 2493 = .ok (.aload_n 1, 1) := by decide +kernel
theorem dL_law_2494 : decode cL_law 2494 = .ok (.aload_n 0, 1) := by decide +kernel
theorem dL_law_2495 : decode cL_law 2495 = .ok (.iload 5, 2) := by decide +kernel
theorem dL_law_2497 : decode cL_law 2497 = .ok (.iconst 1, 1) := by decide +kernel
theorem dL_law_2498 : decode cL_law 2498 = .ok (.iadd, 1) := by decide +kernel
theorem dL_law_2499 : decode cL_law 2499 = .ok (.iaload, 1) := by decide +kernel
theorem dL_law_2500 : decode cL_law 2500 = .ok (.aload_n 3, 1) := by decide +kernel
theorem dL_law_2501 : decode cL_law 2501 = .ok (.invokestatic 269, 3) := by decide +kernel
theorem dL_law_2504 : decode cL_law 2504 = .ok (.istore 6, 2) := by decide +kernel
theorem dL_law_2506 : decode cL_law 2506 = .ok (.aload_n 2, 1) := by decide +kernel
theorem dL_law_2507 : decode cL_law 2507 = .ok (.aload_n 0, 1) := by decide +kernel
theorem dL_law_2508 : decode cL_law 2508 = .ok (.iload 5, 2) := by decide +kernel
theorem dL_law_2510 : decode cL_law 2510 = .ok (.iconst 1, 1) := by decide +kernel
theorem dL_law_2511 : decode cL_law 2511 = .ok (.iadd, 1) := by decide +kernel
theorem dL_law_2512 : decode cL_law 2512 = .ok (.iaload, 1) := by decide +kernel
theorem dL_law_2513 : decode cL_law 2513 = .ok (.invokevirtual 271, 3) := by decide +kernel
theorem dL_law_2516 : decode cL_law 2516 = .ok (.istore 7, 2) := by decide +kernel
theorem dL_law_2518 : decode cL_law 2518 = .ok (.aload_n 2, 1) := by decide +kernel
theorem dL_law_2519 : decode cL_law 2519 = .ok (.invokevirtual 156, 3) := by decide +kernel
theorem dL_law_2522 : decode cL_law 2522 = .ok (.iload 6, 2) := by decide +kernel
theorem dL_law_2524 : decode cL_law 2524 = .ok (.if_icmp .eq 5, 3) := by decide +kernel
theorem dL_law_2527 : decode cL_law 2527 = .ok (.iconst 0, 1) := by decide +kernel
theorem dL_law_2528 : decode cL_law 2528 = .ok (.ireturn, 1) := by decide +kernel
theorem dL_law_2529 : decode cL_law 2529 = .ok (.iload 6, 2) := by decide +kernel
theorem dL_law_2531 : decode cL_law 2531 = .ok (.ifCond .ne 15, 3) := by decide +kernel
theorem dL_law_2534 : decode cL_law 2534 = .ok (.aload_n 3, 1) := by decide +kernel
theorem dL_law_2535 : decode cL_law 2535 = .ok (.iconst 0, 1) := by decide +kernel
theorem dL_law_2536 : decode cL_law 2536 = .ok (.laload, 1) := by decide +kernel
theorem dL_law_2537 : decode cL_law 2537 = .ok (.iload 7, 2) := by decide +kernel
theorem dL_law_2539 : decode cL_law 2539 = .ok (.i2l, 1) := by decide +kernel
theorem dL_law_2540 : decode cL_law 2540 = .ok (.lcmp, 1) := by decide +kernel
theorem dL_law_2541 : decode cL_law 2541 = .ok (.ifCond .eq 5, 3) := by decide +kernel
theorem dL_law_2544 : decode cL_law 2544 = .ok (.iconst 0, 1) := by decide +kernel
theorem dL_law_2545 : decode cL_law 2545 = .ok (.ireturn, 1) := by decide +kernel
theorem dL_law_2546 : decode cL_law 2546 = .ok (.goto 104, 3) := by decide +kernel
theorem dL_law_2549 : decode cL_law 2549 = .ok (.aload_n 1, 1) := by decide +kernel
theorem dL_law_2550 : decode cL_law 2550 = .ok (.aload_n 3, 1) := by decide +kernel
theorem dL_law_2551 : decode cL_law 2551 = .ok (.invokestatic 272, 3) := by decide +kernel
theorem dL_law_2554 : decode cL_law 2554 = .ok (.istore 6, 2) := by decide +kernel
theorem dL_law_2556 : decode cL_law 2556 = .ok (.aload_n 2, 1) := by decide +kernel
theorem dL_law_2557 : decode cL_law 2557 = .ok (.invokevirtual 274, 3) := by decide +kernel
theorem dL_law_2560 : decode cL_law 2560 = .ok (.istore 7, 2) := by decide +kernel
theorem dL_law_2562 : decode cL_law 2562 = .ok (.aload_n 2, 1) := by decide +kernel
theorem dL_law_2563 : decode cL_law 2563 = .ok (.invokevirtual 156, 3) := by decide +kernel
theorem dL_law_2566 : decode cL_law 2566 = .ok (.iload 6, 2) := by decide +kernel
theorem dL_law_2568 : decode cL_law 2568 = .ok (.if_icmp .eq 5, 3) := by decide +kernel
theorem dL_law_2571 : decode cL_law 2571 = .ok (.iconst 0, 1) := by decide +kernel
theorem dL_law_2572 : decode cL_law 2572 = .ok (.ireturn, 1) := by decide +kernel
theorem dL_law_2573 : decode cL_law 2573 = .ok (.iload 6, 2) := by decide +kernel
theorem dL_law_2575 : decode cL_law 2575 = .ok (.ifCond .ne 15, 3) := by decide +kernel
theorem dL_law_2578 : decode cL_law 2578 = .ok (.aload_n 3, 1) := by decide +kernel
theorem dL_law_2579 : decode cL_law 2579 = .ok (.iconst 0, 1) := by decide +kernel
theorem dL_law_2580 : decode cL_law 2580 = .ok (.laload, 1) := by decide +kernel
theorem dL_law_2581 : decode cL_law 2581 = .ok (.iload 7, 2) := by decide +kernel
theorem dL_law_2583 : decode cL_law 2583 = .ok (.i2l, 1) := by decide +kernel
theorem dL_law_2584 : decode cL_law 2584 = .ok (.lcmp, 1) := by decide +kernel
theorem dL_law_2585 : decode cL_law 2585 = .ok (.ifCond .eq 5, 3) := by decide +kernel
theorem dL_law_2588 : decode cL_law 2588 = .ok (.iconst 0, 1) := by decide +kernel
theorem dL_law_2589 : decode cL_law 2589 = .ok (.ireturn, 1) := by decide +kernel
theorem dL_law_2590 : decode cL_law 2590 = .ok (.goto 60, 3) := by decide +kernel
theorem dL_law_2593 : decode cL_law 2593 = .ok (.aload_n 1, 1) := by decide +kernel
theorem dL_law_2594 : decode cL_law 2594 = .ok (.aload_n 3, 1) := by decide +kernel
theorem dL_law_2595 : decode cL_law 2595 = .ok (.invokestatic 275, 3) := by decide +kernel
theorem dL_law_2598 : decode cL_law 2598 = .ok (.istore 6, 2) := by decide +kernel
theorem dL_law_2600 : decode cL_law 2600 = .ok (.aload_n 2, 1) := by decide +kernel
theorem dL_law_2601 : decode cL_law 2601 = .ok (.invokevirtual 277, 3) := by decide +kernel
theorem dL_law_2604 : decode cL_law 2604 = .ok (.istore 7, 2) := by decide +kernel
theorem dL_law_2606 : decode cL_law 2606 = .ok (.aload_n 2, 1) := by decide +kernel
theorem dL_law_2607 : decode cL_law 2607 = .ok (.invokevirtual 156, 3) := by decide +kernel
theorem dL_law_2610 : decode cL_law 2610 = .ok (.iload 6, 2) := by decide +kernel
theorem dL_law_2612 : decode cL_law 2612 = .ok (.if_icmp .eq 5, 3) := by decide +kernel
theorem dL_law_2615 : decode cL_law 2615 = .ok (.iconst 0, 1) := by decide +kernel
theorem dL_law_2616 : decode cL_law 2616 = .ok (.ireturn, 1) := by decide +kernel
theorem dL_law_2617 : decode cL_law 2617 = .ok (.iload 6, 2) := by decide +kernel
theorem dL_law_2619 : decode cL_law 2619 = .ok (.ifCond .ne 15, 3) := by decide +kernel
theorem dL_law_2622 : decode cL_law 2622 = .ok (.aload_n 3, 1) := by decide +kernel
theorem dL_law_2623 : decode cL_law 2623 = .ok (.iconst 0, 1) := by decide +kernel
theorem dL_law_2624 : decode cL_law 2624 = .ok (.laload, 1) := by decide +kernel
theorem dL_law_2625 : decode cL_law 2625 = .ok (.iload 7, 2) := by decide +kernel
theorem dL_law_2627 : decode cL_law 2627 = .ok (.i2l, 1) := by decide +kernel
theorem dL_law_2628 : decode cL_law 2628 = .ok (.lcmp, 1) := by decide +kernel
theorem dL_law_2629 : decode cL_law 2629 = .ok (.ifCond .eq 5, 3) := by decide +kernel
theorem dL_law_2632 : decode cL_law 2632 = .ok (.iconst 0, 1) := by decide +kernel
theorem dL_law_2633 : decode cL_law 2633 = .ok (.ireturn, 1) := by decide +kernel
theorem dL_law_2634 : decode cL_law 2634 = .ok (.goto 16, 3) := by decide +kernel
theorem dL_law_2637 : decode cL_law 2637 = .ok (.aload_n 1, 1) := by decide +kernel
theorem dL_law_2638 : decode cL_law 2638 = .ok (.invokevirtual 278, 3) := by decide +kernel
theorem dL_law_2641 : decode cL_law 2641 = .ok (.aload_n 2, 1) := by decide +kernel
theorem dL_law_2642 : decode cL_law 2642 = .ok (.invokevirtual 281, 3) := by decide +kernel
theorem dL_law_2645 : decode cL_law 2645 = .ok (.if_icmp .eq 5, 3) := by decide +kernel
theorem dL_law_2648 : decode cL_law 2648 = .ok (.iconst 0, 1) := by decide +kernel
theorem dL_law_2649 : decode cL_law 2649 = .ok (.ireturn, 1) := by decide +kernel
theorem dL_law_2650 : decode cL_law 2650 = .ok (.iinc 5 5, 3) := by decide +kernel
theorem dL_law_2653 : decode cL_law 2653 = .ok (.goto (-2625), 3) := by decide +kernel
theorem dL_law_2656 : decode cL_law 2656 = .ok (.iconst 1, 1) := by decide +kernel
theorem dL_law_2657 : decode cL_law 2657 = .ok (.ireturn, 1) := by decide +kernel
