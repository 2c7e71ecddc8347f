theorem dX7_similarity_0 : decode cX7_similarity 0 = .ok (.aload_n 0, 1) := by decide +kernel
theorem dX7_similarity_1 : decode cX7_similarity 1 = .ok (.iload_n 1, 1) := by decide +kernel
set_option maxRecDepth 20000 in
theorem ggX7_similarity_X7_treeAt : GoodIn wsX7_similarity wsX7_treeAt := goodIn_ca (goodIn_r _ [7, 8, 9, 10, 73, 74, 75, 76, 77, 78, 79, 80, 81, 82] (by decide +kernel) (by decide +kernel)) (goodIn_sub (fun _ h => List.mem_cons_of_mem _ (List.mem_append_right _ h)) (by decide +kernel))
set_option maxRecDepth 20000 in
theorem gX7_similarity_X7_treeAt : GoodIn wsX7_similarity (wsV RX7 83 RX7 yX7_treeAt wsX7_treeAt) := goodIn_app (goodIn_of _ (by decide +kernel)) ggX7_similarity_X7_treeAt
theorem dX7_similarity_2 : decode cX7_similarity 2 = .ok (.invokevirtual 83, 3) := by decide +kernel
theorem dL_similarity_0 : decode cL_similarity 0 = .ok (.aload_n 3, 1) := by decide +kernel
theorem dL_similarity_1 : decode cL_similarity 1 = .ok (.iconst 0, 1) := by decide +kernel
theorem dL_similarity_2 : decode cL_similarity 2 = .ok (.aload_n 0, 1) := by decide +kernel
theorem dL_similarity_3 : decode cL_similarity 3 = .ok (.iload_n 1, 1) := by decide +kernel
theorem dL_similarity_4 : decode cL_similarity 4 = .ok (.iload_n 2, 1) := by decide +kernel
set_option maxRecDepth 20000 in
theorem ggL_similarity_X7_similarity : GoodIn wsL_similarity wsX7_similarity := goodIn_ca (goodIn_r _ [6, 7, 8, 9, 10, 11, 5, 12, 13, 14, 15, 16, 17, 18, 19, 20, 21, 22, 23, 24, 25, 26, 27, 28, 29, 30, 31, 32, 33, 34, 35, 36, 37, 38, 39, 40, 41, 42, 43, 44, 45, 46, 47, 48, 49, 50, 51, 52, 53, 54, 55, 56, 57, 58, 59, 60, 61, 62, 63, 64, 65, 66, 67, 68, 69, 70, 71, 72, 73, 74, 75, 76, 77, 78, 79, 80, 81, 82, 83, 84, 85, 86, 87, 88, 89, 90, 91, 92, 93, 94, 95, 96, 97, 98, 99, 100, 101, 102, 103, 104] (by decide +kernel) (by decide +kernel)) (goodIn_sub (fun _ h => List.mem_cons_of_mem _ (List.mem_append_right _ h)) (by decide +kernel))
set_option maxRecDepth 20000 in
theorem gL_similarity_X7_similarity : GoodIn wsL_similarity (wsV RL 104 RX7 yX7_similarity wsX7_similarity) := goodIn_app (goodIn_of _ (by decide +kernel)) ggL_similarity_X7_similarity
theorem dL_similarity_5 : decode cL_similarity 5 = .ok (.invokevirtual 104, 3) := by decide +kernel
theorem dL_similarity_12 : decode cL_similarity 12 = .ok (.astore 4, 2) := by decide +kernel
theorem dL_similarity_14 : decode cL_similarity 14 = .ok (.iconst 1, 1) := by decide +kernel
theorem dL_similarity_15 : decode cL_similarity 15 = .ok (.ireturn, 1) := by decide +kernel
theorem dX10_similarity_0 : decode cX10_similarity 0 = .ok (.aload_n 0, 1) := by decide +kernel
theorem dX10_similarity_1 : decode cX10_similarity 1 = .ok (.iload_n 1, 1) := by decide +kernel
theorem dX10_similarity_2 : decode cX10_similarity 2 = .ok (.iload_n 2, 1) := by decide +kernel
set_option maxRecDepth 20000 in
theorem ggX10_similarity_X10_areNone : GoodIn wsX10_similarity wsX10_areNone := goodIn_r _ [6, 7, 8, 9, 5, 10, 11, 12, 13, 43, 44, 45, 46, 47, 48, 49, 50, 51, 52, 53, 54, 55, 56, 57, 58, 59, 60, 61, 62, 63, 64, 65, 66, 67, 68, 69, 70, 71, 72, 73] (by decide +kernel) (by decide +kernel)
set_option maxRecDepth 20000 in
theorem gX10_similarity_X10_areNone : GoodIn wsX10_similarity (wsV RX10 217 RX10 yX10_areNone wsX10_areNone) := goodIn_app (goodIn_of _ (by decide +kernel)) ggX10_similarity_X10_areNone
theorem dX10_similarity_3 : decode cX10_similarity 3 = .ok (.invokevirtual 217, 3) := by decide +kernel
theorem dX10_similarity_6 : decode cX10_similarity 6 = .ok (.ifCond .eq 5, 3) := by decide +kernel
theorem dX10_similarity_9 : decode cX10_similarity 9 = .ok (.dconst 0, 1) := by decide +kernel
theorem dX10_similarity_10 : decode cX10_similarity 10 = .ok (.dreturn, 1) := by decide +kernel
theorem dX7_similarity_5 : decode cX7_similarity 5 = .ok (.astore_n 3, 1) := by decide +kernel
theorem dX7_similarity_6 : decode cX7_similarity 6 = .ok (.aload_n 0, 1) := by decide +kernel
theorem dX7_similarity_7 : decode cX7_similarity 7 = .ok (.iload_n 2, 1) := by decide +kernel
theorem dX7_similarity_8 : decode cX7_similarity 8 = .ok (.invokevirtual 83, 3) := by decide +kernel
theorem dX7_similarity_11 : decode cX7_similarity 11 = .ok (.astore 4, 2) := by decide +kernel
theorem dX7_similarity_13 : decode cX7_similarity 13 = .ok (.aload_n 0, 1) := by decide +kernel
theorem dX7_similarity_14 : decode cX7_similarity 14 = .ok (.getfield 32, 3) := by decide +kernel
theorem dX7_similarity_17 : decode cX7_similarity 17 = .ok (.aload_n 3, 1) := by decide +kernel
theorem dX7_similarity_18 : decode cX7_similarity 18 = .ok (.aload 4, 2) := by decide +kernel
set_option maxRecDepth 20000 in
theorem ggX7_similarity_X1_leastCost : GoodIn wsX7_similarity wsX1_leastCost := goodIn_r _ [15, 16, 17, 18, 19, 20, 21, 22, 23, 24, 25, 26, 27, 28, 29, 30, 31, 32, 33, 34, 35, 36, 37, 38, 39, 40, 41, 42, 14, 43, 44, 45, 46, 47, 48, 49, 50, 51, 52, 53, 54, 55, 56, 57, 58, 59, 60, 61, 62, 63, 64, 65, 66, 67, 68, 69, 6, 70, 71, 72, 90, 91, 92, 93, 94, 95, 96, 97, 98, 99, 83, 84, 85, 86, 87, 88, 89] (by decide +kernel) (by decide +kernel)
set_option maxRecDepth 20000 in
theorem gX7_similarity_X1_leastCost : GoodIn wsX7_similarity (wsV RX7 235 RX1 yX1_leastCost wsX1_leastCost) := goodIn_app (goodIn_of _ (by decide +kernel)) ggX7_similarity_X1_leastCost
theorem dX7_similarity_20 : decode cX7_similarity 20 = .ok (.invokevirtual 235, 3) := by decide +kernel
theorem dX7_similarity_23 : decode cX7_similarity 23 = .ok (.i2d, 1) := by decide +kernel
theorem dX7_similarity_24 : decode cX7_similarity 24 = .ok (.dstore 5, 2) := by decide +kernel
theorem dX7_similarity_26 : decode cX7_similarity 26 = .ok (.iconst 2, 1) := by decide +kernel
theorem dX7_similarity_27 : decode cX7_similarity 27 = .ok (.aload_n 3, 1) := by decide +kernel
theorem dX7_similarity_28 : decode cX7_similarity 28 = .ok (.getfield 107, 3) := by decide +kernel
theorem dX7_similarity_31 : decode cX7_similarity 31 = .ok (.aload 4, 2) := by decide +kernel
theorem dX7_similarity_33 : decode cX7_similarity 33 = .ok (.getfield 107, 3) := by decide +kernel
theorem dX7_similarity_36 : decode cX7_similarity 36 = .ok (.iadd, 1) := by decide +kernel
theorem dX7_similarity_37 : decode cX7_similarity 37 = .ok (.imul, 1) := by decide +kernel
theorem dX7_similarity_38 : decode cX7_similarity 38 = .ok (.i2d, 1) := by decide +kernel
theorem dX7_similarity_39 : decode cX7_similarity 39 = .ok (.dstore 7, 2) := by decide +kernel
theorem dX7_similarity_41 : decode cX7_similarity 41 = .ok (.dload 7, 2) := by decide +kernel
theorem dX7_similarity_43 : decode cX7_similarity 43 = .ok (.dconst 0, 1) := by decide +kernel
theorem dX7_similarity_44 : decode cX7_similarity 44 = .ok (.dcmp .l, 1) := by decide +kernel
theorem dX7_similarity_45 : decode cX7_similarity 45 = .ok (.ifCond .le 13, 3) := by decide +kernel
theorem dX7_similarity_48 : decode cX7_similarity 48 = .ok (.dconst 1, 1) := by decide +kernel
theorem dX7_similarity_49 : decode cX7_similarity 49 = .ok (.dload 5, 2) := by decide +kernel
theorem dX7_similarity_51 : decode cX7_similarity 51 = .ok (.dload 7, 2) := by decide +kernel
theorem dX7_similarity_53 : decode cX7_similarity 53 = .ok (.ddiv, 1) := by decide +kernel
theorem dX7_similarity_54 : decode cX7_similarity 54 = .ok (.dsub, 1) := by decide +kernel
theorem dX7_similarity_55 : decode cX7_similarity 55 = .ok (.goto 4, 3) := by decide +kernel
theorem dX7_similarity_59 : decode cX7_similarity 59 = .ok (.dreturn, 1) := by decide +kernel
theorem dL_similarity_8 : decode cL_similarity 8 = .ok (.dastore, 1) := by decide +kernel
theorem dL_similarity_9 : decode cL_similarity 9 = .ok (.goto 7, 3) := by decide +kernel
theorem dL_similarity_16 : decode cL_similarity 16 = .ok (.iconst 0, 1) := by decide +kernel
theorem dL_similarity_17 : decode cL_similarity 17 = .ok (.ireturn, 1) := by decide +kernel
theorem dX10_similarity_11 : decode cX10_similarity 11 = .ok (.dconst 1, 1) := by decide +kernel
theorem dX10_similarity_12 : decode cX10_similarity 12 = .ok (.aload_n 0, 1) := by decide +kernel
theorem dX10_similarity_13 : decode cX10_similarity 13 = .ok (.aload_n 0, 1) := by decide +kernel
theorem dX10_similarity_14 : decode cX10_similarity 14 = .ok (.getfield 27, 3) := by decide +kernel
theorem dX10_similarity_17 : decode cX10_similarity 17 = .ok (.iload_n 1, 1) := by decide +kernel
theorem dX10_similarity_18 : decode cX10_similarity 18 = .ok (.aaload, 1) := by decide +kernel
theorem dX10_similarity_19 : decode cX10_similarity 19 = .ok (.aload_n 0, 1) := by decide +kernel
theorem dX10_similarity_20 : decode cX10_similarity 20 = .ok (.getfield 27, 3) := by decide +kernel
theorem dX10_similarity_23 : decode cX10_similarity 23 = .ok (.iload_n 2, 1) := by decide +kernel
theorem dX10_similarity_24 : decode cX10_similarity 24 = .ok (.aaload, 1) := by decide +kernel
set_option maxRecDepth 20000 in
theorem ggX10_similarity_X10_fills : GoodIn wsX10_similarity wsX10_fills := goodIn_r _ [17, 18, 19, 20, 21, 22, 23, 24, 25, 26, 27, 28, 29, 30, 31, 32, 5, 33, 34, 35, 36, 37, 38, 39, 40, 41, 42, 74, 75, 76, 77, 78, 43, 44, 45, 46, 47, 48, 49, 50, 51, 52, 53, 54, 55, 56, 57, 58, 59, 60, 61, 62, 63, 64, 65, 66, 67, 68, 69, 70, 71, 72, 73] (by decide +kernel) (by decide +kernel)
set_option maxRecDepth 20000 in
theorem gX10_similarity_X10_fills : GoodIn wsX10_similarity (wsV RX10 253 RX10 yX10_fills wsX10_fills) := goodIn_app (goodIn_of _ (by decide +kernel)) ggX10_similarity_X10_fills
theorem dX10_similarity_25 : decode cX10_similarity 25 = .ok (.invokevirtual 253, 3) := by decide +kernel
theorem dX10_similarity_28 : decode cX10_similarity 28 = .ok (.i2d, 1) := by decide +kernel
theorem dX10_similarity_29 : decode cX10_similarity 29 = .ok (.iconst 2, 1) := by decide +kernel
theorem dX10_similarity_30 : decode cX10_similarity 30 = .ok (.aload_n 0, 1) := by decide +kernel
theorem dX10_similarity_31 : decode cX10_similarity 31 = .ok (.getfield 27, 3) := by decide +kernel
theorem dX10_similarity_34 : decode cX10_similarity 34 = .ok (.iload_n 1, 1) := by decide +kernel
theorem dX10_similarity_35 : decode cX10_similarity 35 = .ok (.aaload, 1) := by decide +kernel
theorem dX10_similarity_36 : decode cX10_similarity 36 = .ok (.getfield 116, 3) := by decide +kernel
theorem dX10_similarity_39 : decode cX10_similarity 39 = .ok (.aload_n 0, 1) := by decide +kernel
theorem dX10_similarity_40 : decode cX10_similarity 40 = .ok (.getfield 27, 3) := by decide +kernel
theorem dX10_similarity_43 : decode cX10_similarity 43 = .ok (.iload_n 2, 1) := by decide +kernel
theorem dX10_similarity_44 : decode cX10_similarity 44 = .ok (.aaload, 1) := by decide +kernel
theorem dX10_similarity_45 : decode cX10_similarity 45 = .ok (.getfield 116, 3) := by decide +kernel
theorem dX10_similarity_48 : decode cX10_similarity 48 = .ok (.iadd, 1) := by decide +kernel
theorem dX10_similarity_49 : decode cX10_similarity 49 = .ok (.imul, 1) := by decide +kernel
theorem dX10_similarity_50 : decode cX10_similarity 50 = .ok (.i2d, 1) := by decide +kernel
theorem dX10_similarity_51 : decode cX10_similarity 51 = .ok (.ddiv, 1) := by decide +kernel
theorem dX10_similarity_52 : decode cX10_similarity 52 = .ok (.dsub, 1) := by decide +kernel
theorem dX10_similarity_53 : decode cX10_similarity 53 = .ok (.dreturn, 1) := by decide +kernel
theorem dL_law_1929 : decode cL_law 1929 = .ok (.aload_n 1, 1) := by decide +kernel
theorem dL_law_1930 : decode cL_law 1930 = .ok (.aload_n 0, 1) := by decide +kernel
theorem dL_law_1931 : decode cL_law 1931 = .ok (.iload 5, 2) := by decide +kernel
theorem dL_law_1933 : decode cL_law 1933 = .ok (.iconst 1, 1) := by decide +kernel
theorem dL_law_1934 : decode cL_law 1934 = .ok (.iadd, 1) := by decide +kernel
theorem dL_law_1935 : decode cL_law 1935 = .ok (.iaload, 1) := by decide +kernel
theorem dL_law_1936 : decode cL_law 1936 = .ok (.aload_n 0, 1) := by decide +kernel
theorem dL_law_1937 : decode cL_law 1937 = .ok (.iload 5, 2) := by decide +kernel
theorem dL_law_1939 : decode cL_law 1939 = .ok (.iconst 2, 1) := by decide +kernel
theorem dL_law_1940 : decode cL_law 1940 = .ok (.iadd, 1) := by decide +kernel
theorem dL_law_1941 : decode cL_law 1941 = .ok (.iaload, 1) := by decide +kernel
theorem dL_law_1942 : decode cL_law 1942 = .ok (.aload 4, 2) := by decide +kernel
set_option maxRecDepth 20000 in
theorem ggL_law_L_similarity : GoodIn wsL_law wsL_similarity := goodIn_ca (goodIn_r _ [1022, 185, 1023, 1024, 1025, 2, 1026, 27, 195, 196, 197, 198, 199, 200, 201, 15, 932, 933, 934, 26, 935, 74, 75, 936, 76, 937, 77, 938, 72, 73, 939, 940, 941, 44, 942, 63, 662, 663, 664, 665, 60, 943, 944, 945, 946, 947, 948, 949, 950, 951, 952, 953, 954, 955, 417, 400, 418, 956, 957, 958, 959, 960, 961, 962, 963, 964, 965, 966, 967, 968, 969, 970, 971, 972, 973, 974, 721, 754, 1458, 1459, 1460, 1461, 1462, 1463, 1464, 1465, 1466, 1467, 1530, 1531, 1532, 1533, 1534, 1535, 1536, 1505, 1506, 1507, 1508, 1509, 1510, 1511, 1512, 1513, 1514] (by decide +kernel) (by decide +kernel)) (goodIn_sub (fun _ h => List.mem_append_left _ (List.mem_append_left _ (List.mem_append_right _ h))) (by decide +kernel))
set_option maxRecDepth 20000 in
theorem gL_law_L_similarity : GoodIn wsL_law (va_wsS RL 238 yL_similarity wsL_similarity) := goodIn_app (goodIn_of _ (by decide +kernel)) ggL_law_L_similarity
theorem dL_law_1944 : decode cL_law 1944 = .ok (.invokestatic 238, 3) := by decide +kernel
theorem dL_law_1947 : decode cL_law 1947 = .ok (.istore 6, 2) := by decide +kernel
theorem dL_law_1949 : decode cL_law 1949 = .ok (.aload_n 2, 1) := by decide +kernel
theorem dL_law_1950 : decode cL_law 1950 = .ok (.aload_n 0, 1) := by decide +kernel
theorem dL_law_1951 : decode cL_law 1951 = .ok (.iload 5, 2) := by decide +kernel
theorem dL_law_1953 : decode cL_law 1953 = .ok (.iconst 1, 1) := by decide +kernel
theorem dL_law_1954 : decode cL_law 1954 = .ok (.iadd, 1) := by decide +kernel
theorem dL_law_1955 : decode cL_law 1955 = .ok (.iaload, 1) := by decide +kernel
theorem dL_law_1956 : decode cL_law 1956 = .ok (.aload_n 0, 1) := by decide +kernel
theorem dL_law_1957 : decode cL_law 1957 = .ok (.iload 5, 2) := by decide +kernel
theorem dL_law_1959 : decode cL_law 1959 = .ok (.iconst 2, 1) := by decide +kernel
theorem dL_law_1960 : decode cL_law 1960 = .ok (.iadd, 1) := by decide +kernel
theorem dL_law_1961 : decode cL_law 1961 = .ok (.iaload, 1) := by decide +kernel
set_option maxRecDepth 20000 in
theorem ggL_law_X10_similarity : GoodIn wsL_law wsX10_similarity := goodIn_r _ [1030, 114, 773, 774, 775, 5, 776, 172, 259, 260, 261, 262, 263, 264, 979, 980, 981, 982, 120, 510, 113, 511, 512, 57, 146, 142, 513, 507, 508, 509, 983, 984, 985, 986, 119, 987, 988, 417, 400, 418, 690, 691, 692, 1468, 1469, 1470, 1471, 1472, 1473, 1474, 1475, 1476, 1477, 1478, 1479, 1480, 1481, 1482, 1483, 1484, 1485, 1486, 1487, 1488, 1489, 1490, 1491, 1492, 1493, 1494, 1495, 1496, 1497, 1498, 1537, 1538, 1539, 1540, 1541] (by decide +kernel) (by decide +kernel)
set_option maxRecDepth 20000 in
theorem gL_law_X10_similarity : GoodIn wsL_law (wsV RL 241 RX10 yX10_similarity wsX10_similarity) := goodIn_app (goodIn_of _ (by decide +kernel)) ggL_law_X10_similarity
theorem dL_law_1962 : decode cL_law 1962 = .ok (.invokevirtual 241, 3) := by decide +kernel
theorem dL_law_1965 : decode cL_law 1965 = .ok (.dstore 7, 2) := by decide +kernel
theorem dL_law_1967 : decode cL_law 1967 = .ok (.aload_n 2, 1) := by decide +kernel
theorem dL_law_1968 : decode cL_law 1968 = .ok (.invokevirtual 156, 3) := by decide +kernel
theorem dL_law_1971 : decode cL_law 1971 = .ok (.iload 6, 2) := by decide +kernel
theorem dL_law_1973 : decode cL_law 1973 = .ok (.if_icmp .eq 5, 3) := by decide +kernel
theorem dL_law_1978 : decode cL_law 1978 = .ok (.iload 6, 2) := by decide +kernel
theorem dL_law_1980 : decode cL_law 1980 = .ok (.ifCond .ne 35, 3) := by decide +kernel
theorem dL_law_2015 : decode cL_law 2015 = .ok (.goto 635, 3) := by decide +kernel
theorem dL_law_1983 : decode cL_law 1983 = .ok (.aload 4, 2) := by decide +kernel
theorem dL_law_1985 : decode cL_law 1985 = .ok (.iconst 0, 1) := by decide +kernel
theorem dL_law_1986 : decode cL_law 1986 = .ok (.daload, 1) := by decide +kernel
theorem dL_law_1987 : decode cL_law 1987 = .ok (.dload 7, 2) := by decide +kernel
theorem dL_law_1989 : decode cL_law 1989 = .ok (.dcmp .l, 1) := by decide +kernel
theorem dL_law_1990 : decode cL_law 1990 = .ok (.ifCond .eq 25, 3) := by decide +kernel
variable {l : Launch} {N0 : Nat} {D : va_G} {cI cC cL cD cII cTr cTm cIt cB : ClassId} {F : Nat → Option va_E} {ql : Nat → Nat}
theorem k1371_X7_similarity {n : Nat} {a1 : Int32} {a2 : Int32} (g_a1_le_m1 : a1 ≤ (-1)) (hst : l.stackTraces = false) (hn : N0 + 231 ≤ n) (h0 : F N0 = some (.inr (9, [.ref (N0 + 1), .ref (N0 + 2), .ref (N0 + 11), .ref (N0 + 13), .ref (N0 + 63), .ref (N0 + 65), .ref (N0 + 85), .int (-1), .int (-1), .int 32]))) : vx_Met l yX7_similarity wsX7_similarity ({ frames := 7, cells := 1, slots := 6, locals := 103 }) (va_Pc [.ref N0, .int a1, .int a2] (fP N0 D vwCl (fty cI cC cL cD cII cTr cTm cIt cB) (fen ql) F n)) (fNo N0 D vwCl (fty cI cC cL cD cII cTr cTm cIt cB) F n) (fXC N0 D vwCl (fty cI cC cL cD cII cTr cTm cIt cB) "java/lang/IndexOutOfBoundsException" F n) 1 6 (fA N0) := by
  refine fx_startX 9 rfl rfl (Nat.le_of_ble_eq_true rfl) ?_ rfl
  intro p e s m below meth c ls S htab hlocks hG hl
  have hl : lv_has ls 9 [(0, .ref N0), (1, .int a1), (2, .int a2)] := hl
  have lt_h0 := hG.1.lt h0
  refine lv_aload_n S.1 S.2.1 dX7_similarity_0 rfl (lv_at hl 0 rfl) ?_
  refine lv_iload_n S.1 S.2.1 dX7_similarity_1 rfl (lv_at hl 1 rfl) ?_
  refine fx_xV (As := [.int a1]) (rest := []) S hG (k18_X7_treeAt g_a1_le_m1 hst (by omega)) h0 rfl (cwV 1 S.2.2.2.2 gX7_similarity_X7_treeAt rfl rfl rfl (by decide +kernel) ⟨Nat.le_of_ble_eq_true rfl, Nat.le_of_ble_eq_true rfl⟩) rfl hl.1 rfl (Nat.le_of_ble_eq_true rfl) dX7_similarity_2 ⟨Nat.le_of_ble_eq_true rfl, Nat.le_of_ble_eq_true rfl⟩ (fun ceq_1 q_1 H locs n_2 hn_2 hG h1q_1 h2q_1 h3q_1 => ?_)
  exact fx_out htab hlocks hG (by omega) h1q_1 h2q_1 h3q_1 (by decide) (by decide)
theorem k1372_L_similarity {n : Nat} {a1 : Int32} {a2 : Int32} (g_a1_le_m1 : a1 ≤ (-1)) (hst : l.stackTraces = false) (hn : N0 + 231 ≤ n) (h0 : F N0 = some (.inr (9, [.ref (N0 + 1), .ref (N0 + 2), .ref (N0 + 11), .ref (N0 + 13), .ref (N0 + 63), .ref (N0 + 65), .ref (N0 + 85), .int (-1), .int (-1), .int 32]))) : Met l yL_similarity wsL_similarity ({ frames := 8, cells := 1, slots := 6, locals := 131 }) (va_Pc [.ref N0, .int a1, .int a2, .ref (N0 + 230)] (fP N0 D vwCl (fty cI cC cL cD cII cTr cTm cIt cB) (fen ql) F n)) (fQi N0 D vwCl (fty cI cC cL cD cII cTr cTm cIt cB) (fun (r : Int32) (u : Nat) => r = 1 ∧ n ≤ u) (fun _ => F) (fun u => u)) 1 6 (fA N0) := by
  refine fx_startW (hh := [(0, 9, 12, 19)]) 5 rfl rfl (Nat.le_of_ble_eq_true rfl) ?_ rfl
  intro p e s m below meth c ls S htab hr hlocks hG hl
  have hl : lv_has ls 5 [(0, .ref N0), (1, .int a1), (2, .int a2), (3, .ref (N0 + 230))] := hl
  have lt_h0 := hG.1.lt h0
  refine lv_aload_n S.1 S.2.1 dL_similarity_0 rfl (lv_at hl 3 rfl) ?_
  refine lv_iconst (v := 0) S.1 S.2.1 dL_similarity_1 (by decide) ?_
  refine lv_aload_n S.1 S.2.1 dL_similarity_2 rfl (lv_at hl 0 rfl) ?_
  refine lv_iload_n S.1 S.2.1 dL_similarity_3 rfl (lv_at hl 1 rfl) ?_
  refine lv_iload_n S.1 S.2.1 dL_similarity_4 rfl (lv_at hl 2 rfl) ?_
  refine fx_xV (As := [.int a1, .int a2]) (rest := [.int 0, .ref (N0 + 230)]) S hG (k1371_X7_similarity g_a1_le_m1 hst (by omega) h0) h0 rfl (cwV 2 S.2.2.2.2 gL_similarity_X7_similarity rfl rfl rfl (by decide +kernel) ⟨Nat.le_of_ble_eq_true rfl, Nat.le_of_ble_eq_true rfl⟩) rfl hl.1 rfl (Nat.le_of_ble_eq_true rfl) dL_similarity_5 ⟨Nat.le_of_ble_eq_true rfl, Nat.le_of_ble_eq_true rfl⟩ (fun ceq_1 q_1 H locs n_2 hn_2 hG h1q_1 h2q_1 h3q_1 => ?_)
  refine fx_catch (hh := [(0, 9, 12, 19)]) S htab hG h1q_1 h2q_1 h3q_1 [] ⟨0, 9, 12, 19⟩ [] rfl [] (fun z hz => absurd hz List.not_mem_nil) (by decide) (by decide) (by decide +kernel) (List.mem_of_getElem? (i := 2) rfl) ?_
  refine lv_astore (lv' := [(4, .ref q_1), (0, .ref N0), (1, .int a1), (2, .int a2), (3, .ref (N0 + 230))]) S.1 S.2.1 dL_similarity_12 hl (by decide) rfl (fun ls hl => ?_)
  refine lv_iconst (v := 1) S.1 S.2.1 dL_similarity_14 (by decide) ?_
  exact fx_iret S hr hlocks n_2 hG (⟨rfl, hn_2⟩) dL_similarity_15
theorem k1373_X10_similarity {n : Nat} {a1 : Int32} {a2 : Int32} (g_a1_le_m1 : a1 ≤ (-1)) (hn : N0 + 231 ≤ n) (h0 : F (N0 + 164) = some (.inr (12, [.ref (N0 + 165), .int 0, .ref (N0 + 181), .int 0, .int 0, .int 0, .int (-1), .ref (ql 24), .ref (N0 + 182), .ref (N0 + 187), .ref (N0 + 208), .ref (N0 + 209), .ref (N0 + 210), .ref (N0 + 211), .ref (N0 + 212), .int 0, .ref (N0 + 213), .ref (N0 + 218), .ref (N0 + 223), .ref (N0 + 224), .ref (N0 + 225), .ref (N0 + 226), .ref (N0 + 227), .int 0, .int 0, .ref (N0 + 228), .null, .int (-1), .int 0, .int 0, .int 0]))) : Met l yX10_similarity wsX10_similarity ({ frames := 3, cells := 0, slots := 0, locals := 64 }) (va_Pc [.ref (N0 + 164), .int a1, .int a2] (fP N0 D vwCl (fty cI cC cL cD cII cTr cTm cIt cB) (fen ql) F n)) (fQd N0 D vwCl (fty cI cC cL cD cII cTr cTm cIt cB) (fun (r : UInt64) (_ : Unit) => r = 0) (fun _ => (fu F (N0 + 164) (.inr (12, [.ref (N0 + 165), .int 1, .ref (N0 + 181), .int 0, .int 0, .int 0, .int (-1), .ref (ql 24), .ref (N0 + 182), .ref (N0 + 187), .ref (N0 + 208), .ref (N0 + 209), .ref (N0 + 210), .ref (N0 + 211), .ref (N0 + 212), .int 0, .ref (N0 + 213), .ref (N0 + 218), .ref (N0 + 223), .ref (N0 + 224), .ref (N0 + 225), .ref (N0 + 226), .ref (N0 + 227), .int 0, .int 0, .ref (N0 + 228), .null, .int (-1), .int 0, .int 0, .int 0])))) (fun _ => n)) 0 0 (fA N0) := by
  refine fx_start 3 rfl rfl (Nat.le_of_ble_eq_true rfl) ?_ rfl
  intro p e s m below meth c ls S hr hlocks hin hG hl
  have hl : lv_has ls 3 [(0, .ref (N0 + 164)), (1, .int a1), (2, .int a2)] := hl
  have lt_h0 := hG.1.lt h0
  refine lv_aload_n S.1 S.2.1 dX10_similarity_0 rfl (lv_at hl 0 rfl) ?_
  refine lv_iload_n S.1 S.2.1 dX10_similarity_1 rfl (lv_at hl 1 rfl) ?_
  refine lv_iload_n S.1 S.2.1 dX10_similarity_2 rfl (lv_at hl 2 rfl) ?_
  refine fx_cVi (As := [.int a1, .int a2]) (rest := []) S hG (k448_X10_areNone g_a1_le_m1 (by omega) h0) h0 rfl (cwV 2 S.2.2.2.2 gX10_similarity_X10_areNone rfl rfl rfl (by decide +kernel) ⟨Nat.le_of_ble_eq_true rfl, Nat.le_of_ble_eq_true rfl⟩) rfl hl.1 rfl (Nat.le_of_ble_eq_true rfl) dX10_similarity_3 ⟨Nat.le_of_ble_eq_true rfl, Nat.le_of_ble_eq_true rfl⟩ (fun rv_1 _ H locs hp hG => ?_)
  subst rv_1
  refine lv_if_eq (tgt := 11) S.1 S.2.1 dX10_similarity_6 (by decide) (fun c => absurd c (by decide)) (fun _ => ?_)
  refine gx_dconst0 (v := 0) S (by decide +kernel) dX10_similarity_9 ?_
  exact fx_dret S hr hlocks () hG (rfl) dX10_similarity_10
theorem k1374_X7_similarity {n : Nat} {a2 : Int32} (g_a2_le_m1 : a2 ≤ (-1)) (hst : l.stackTraces = false) (hn : N0 + 231 ≤ n) (h0 : F N0 = some (.inr (9, [.ref (N0 + 1), .ref (N0 + 2), .ref (N0 + 11), .ref (N0 + 13), .ref (N0 + 63), .ref (N0 + 65), .ref (N0 + 85), .int (-1), .int (-1), .int 32]))) (h1 : F (N0 + 1) = some (.inl (cTr, 3, .inr (.inr (.inr (.inr (va_up (va_up (va_up (fun _ => none) 0 (some (N0 + 143))) 1 (some (N0 + 150))) 2 (some (N0 + 157))))))))) : vx_Met l yX7_similarity wsX7_similarity ({ frames := 7, cells := 1, slots := 6, locals := 103 }) (va_Pc [.ref N0, .int 0, .int a2] (fP N0 D vwCl (fty cI cC cL cD cII cTr cTm cIt cB) (fen ql) F n)) (fNo N0 D vwCl (fty cI cC cL cD cII cTr cTm cIt cB) F n) (fXC N0 D vwCl (fty cI cC cL cD cII cTr cTm cIt cB) "java/lang/IndexOutOfBoundsException" F n) 1 6 (fA N0) := by
  refine fx_startX 9 rfl rfl (Nat.le_of_ble_eq_true rfl) ?_ rfl
  intro p e s m below meth c ls S htab hlocks hG hl
  have hl : lv_has ls 9 [(0, .ref N0), (1, .int 0), (2, .int a2)] := hl
  have lt_h0 := hG.1.lt h0
  have lt_h1 := hG.1.lt h1
  refine lv_aload_n S.1 S.2.1 dX7_similarity_0 rfl (lv_at hl 0 rfl) ?_
  refine lv_iload_n S.1 S.2.1 dX7_similarity_1 rfl (lv_at hl 1 rfl) ?_
  refine fx_cVr (As := [.int 0]) (rest := []) S hG (k26_X7_treeAt (by omega) h0 h1) h0 rfl (cwV 1 S.2.2.2.2 gX7_similarity_X7_treeAt rfl rfl rfl (by decide +kernel) ⟨Nat.le_of_ble_eq_true rfl, Nat.le_of_ble_eq_true rfl⟩) rfl hl.1 rfl (Nat.le_of_ble_eq_true rfl) dX7_similarity_2 ⟨Nat.le_of_ble_eq_true rfl, Nat.le_of_ble_eq_true rfl⟩ (fun rv_1 _ H locs hp hG => ?_)
  subst rv_1
  refine lv_astore_n (lv' := [(3, .ref (N0 + 143)), (0, .ref N0), (1, .int 0), (2, .int a2)]) S.1 S.2.1 dX7_similarity_5 rfl hl (by decide) rfl (fun ls hl => ?_)
  refine lv_aload_n S.1 S.2.1 dX7_similarity_6 rfl (lv_at hl 1 rfl) ?_
  refine lv_iload_n S.1 S.2.1 dX7_similarity_7 rfl (lv_at hl 3 rfl) ?_
  refine fx_xV (As := [.int a2]) (rest := []) S hG (k450_X7_treeAt g_a2_le_m1 hst (by omega)) h0 rfl (cwV 1 S.2.2.2.2 gX7_similarity_X7_treeAt rfl rfl rfl (by decide +kernel) ⟨Nat.le_of_ble_eq_true rfl, Nat.le_of_ble_eq_true rfl⟩) rfl hl.1 rfl (Nat.le_of_ble_eq_true rfl) dX7_similarity_8 ⟨Nat.le_of_ble_eq_true rfl, Nat.le_of_ble_eq_true rfl⟩ (fun ceq_2 q_2 H locs n_3 hn_3 hG h1q_2 h2q_2 h3q_2 => ?_)
  exact fx_out htab hlocks hG (by omega) h1q_2 h2q_2 h3q_2 (by decide) (by decide)
theorem k1375_L_similarity {n : Nat} {a2 : Int32} (g_a2_le_m1 : a2 ≤ (-1)) (hst : l.stackTraces = false) (hn : N0 + 231 ≤ n) (h0 : F N0 = some (.inr (9, [.ref (N0 + 1), .ref (N0 + 2), .ref (N0 + 11), .ref (N0 + 13), .ref (N0 + 63), .ref (N0 + 65), .ref (N0 + 85), .int (-1), .int (-1), .int 32]))) (h1 : F (N0 + 1) = some (.inl (cTr, 3, .inr (.inr (.inr (.inr (va_up (va_up (va_up (fun _ => none) 0 (some (N0 + 143))) 1 (some (N0 + 150))) 2 (some (N0 + 157))))))))) : Met l yL_similarity wsL_similarity ({ frames := 8, cells := 1, slots := 6, locals := 131 }) (va_Pc [.ref N0, .int 0, .int a2, .ref (N0 + 230)] (fP N0 D vwCl (fty cI cC cL cD cII cTr cTm cIt cB) (fen ql) F n)) (fQi N0 D vwCl (fty cI cC cL cD cII cTr cTm cIt cB) (fun (r : Int32) (u : Nat) => r = 1 ∧ n ≤ u) (fun _ => F) (fun u => u)) 1 6 (fA N0) := by
  refine fx_startW (hh := [(0, 9, 12, 19)]) 5 rfl rfl (Nat.le_of_ble_eq_true rfl) ?_ rfl
  intro p e s m below meth c ls S htab hr hlocks hG hl
  have hl : lv_has ls 5 [(0, .ref N0), (1, .int 0), (2, .int a2), (3, .ref (N0 + 230))] := hl
  have lt_h0 := hG.1.lt h0
  have lt_h1 := hG.1.lt h1
  refine lv_aload_n S.1 S.2.1 dL_similarity_0 rfl (lv_at hl 3 rfl) ?_
  refine lv_iconst (v := 0) S.1 S.2.1 dL_similarity_1 (by decide) ?_
  refine lv_aload_n S.1 S.2.1 dL_similarity_2 rfl (lv_at hl 0 rfl) ?_
  refine lv_iload_n S.1 S.2.1 dL_similarity_3 rfl (lv_at hl 1 rfl) ?_
  refine lv_iload_n S.1 S.2.1 dL_similarity_4 rfl (lv_at hl 2 rfl) ?_
  refine fx_xV (As := [.int 0, .int a2]) (rest := [.int 0, .ref (N0 + 230)]) S hG (k1374_X7_similarity g_a2_le_m1 hst (by omega) h0 h1) h0 rfl (cwV 2 S.2.2.2.2 gL_similarity_X7_similarity rfl rfl rfl (by decide +kernel) ⟨Nat.le_of_ble_eq_true rfl, Nat.le_of_ble_eq_true rfl⟩) rfl hl.1 rfl (Nat.le_of_ble_eq_true rfl) dL_similarity_5 ⟨Nat.le_of_ble_eq_true rfl, Nat.le_of_ble_eq_true rfl⟩ (fun ceq_1 q_1 H locs n_2 hn_2 hG h1q_1 h2q_1 h3q_1 => ?_)
  refine fx_catch (hh := [(0, 9, 12, 19)]) S htab hG h1q_1 h2q_1 h3q_1 [] ⟨0, 9, 12, 19⟩ [] rfl [] (fun z hz => absurd hz List.not_mem_nil) (by decide) (by decide) (by decide +kernel) (List.mem_of_getElem? (i := 2) rfl) ?_
  refine lv_astore (lv' := [(4, .ref q_1), (0, .ref N0), (1, .int 0), (2, .int a2), (3, .ref (N0 + 230))]) S.1 S.2.1 dL_similarity_12 hl (by decide) rfl (fun ls hl => ?_)
  refine lv_iconst (v := 1) S.1 S.2.1 dL_similarity_14 (by decide) ?_
  exact fx_iret S hr hlocks n_2 hG (⟨rfl, hn_2⟩) dL_similarity_15
theorem k1376_X10_similarity {n : Nat} {a2 : Int32} (g_a2_le_m1 : a2 ≤ (-1)) (hn : N0 + 231 ≤ n) (h0 : F (N0 + 164) = some (.inr (12, [.ref (N0 + 165), .int 0, .ref (N0 + 181), .int 0, .int 0, .int 0, .int (-1), .ref (ql 24), .ref (N0 + 182), .ref (N0 + 187), .ref (N0 + 208), .ref (N0 + 209), .ref (N0 + 210), .ref (N0 + 211), .ref (N0 + 212), .int 0, .ref (N0 + 213), .ref (N0 + 218), .ref (N0 + 223), .ref (N0 + 224), .ref (N0 + 225), .ref (N0 + 226), .ref (N0 + 227), .int 0, .int 0, .ref (N0 + 228), .null, .int (-1), .int 0, .int 0, .int 0]))) : Met l yX10_similarity wsX10_similarity ({ frames := 3, cells := 0, slots := 0, locals := 64 }) (va_Pc [.ref (N0 + 164), .int 0, .int a2] (fP N0 D vwCl (fty cI cC cL cD cII cTr cTm cIt cB) (fen ql) F n)) (fQd N0 D vwCl (fty cI cC cL cD cII cTr cTm cIt cB) (fun (r : UInt64) (_ : Unit) => r = 0) (fun _ => (fu F (N0 + 164) (.inr (12, [.ref (N0 + 165), .int 1, .ref (N0 + 181), .int 0, .int 0, .int 0, .int (-1), .ref (ql 24), .ref (N0 + 182), .ref (N0 + 187), .ref (N0 + 208), .ref (N0 + 209), .ref (N0 + 210), .ref (N0 + 211), .ref (N0 + 212), .int 0, .ref (N0 + 213), .ref (N0 + 218), .ref (N0 + 223), .ref (N0 + 224), .ref (N0 + 225), .ref (N0 + 226), .ref (N0 + 227), .int 0, .int 0, .ref (N0 + 228), .null, .int (-1), .int 0, .int 0, .int 0])))) (fun _ => n)) 0 0 (fA N0) := by
  refine fx_start 3 rfl rfl (Nat.le_of_ble_eq_true rfl) ?_ rfl
  intro p e s m below meth c ls S hr hlocks hin hG hl
  have hl : lv_has ls 3 [(0, .ref (N0 + 164)), (1, .int 0), (2, .int a2)] := hl
  have lt_h0 := hG.1.lt h0
  refine lv_aload_n S.1 S.2.1 dX10_similarity_0 rfl (lv_at hl 0 rfl) ?_
  refine lv_iload_n S.1 S.2.1 dX10_similarity_1 rfl (lv_at hl 1 rfl) ?_
  refine lv_iload_n S.1 S.2.1 dX10_similarity_2 rfl (lv_at hl 2 rfl) ?_
  refine fx_cVi (As := [.int 0, .int a2]) (rest := []) S hG (k455_X10_areNone g_a2_le_m1 (by omega) h0) h0 rfl (cwV 2 S.2.2.2.2 gX10_similarity_X10_areNone rfl rfl rfl (by decide +kernel) ⟨Nat.le_of_ble_eq_true rfl, Nat.le_of_ble_eq_true rfl⟩) rfl hl.1 rfl (Nat.le_of_ble_eq_true rfl) dX10_similarity_3 ⟨Nat.le_of_ble_eq_true rfl, Nat.le_of_ble_eq_true rfl⟩ (fun rv_1 _ H locs hp hG => ?_)
  subst rv_1
  refine lv_if_eq (tgt := 11) S.1 S.2.1 dX10_similarity_6 (by decide) (fun c => absurd c (by decide)) (fun _ => ?_)
  refine gx_dconst0 (v := 0) S (by decide +kernel) dX10_similarity_9 ?_
  exact fx_dret S hr hlocks () hG (rfl) dX10_similarity_10
theorem i_X7_similarity_X5 : ∀ w ∈ u_ws RX5 TX5 7, w ∈ wsX7_similarity := by decide +kernel
theorem i_X7_similarity_X7 : ∀ w ∈ u_ws RX7 TX7 10, w ∈ wsX7_similarity := by decide +kernel
theorem k1377_X7_similarity {n : Nat} (hn : N0 + 231 ≤ n) (h0 : F N0 = some (.inr (9, [.ref (N0 + 1), .ref (N0 + 2), .ref (N0 + 11), .ref (N0 + 13), .ref (N0 + 63), .ref (N0 + 65), .ref (N0 + 85), .int (-1), .int (-1), .int 32]))) (h1 : F (N0 + 1) = some (.inl (cTr, 3, .inr (.inr (.inr (.inr (va_up (va_up (va_up (fun _ => none) 0 (some (N0 + 143))) 1 (some (N0 + 150))) 2 (some (N0 + 157))))))))) (h2 : F (N0 + 13) = some (.inr (3, [.ref (N0 + 14), .ref (N0 + 35), .ref (N0 + 57), .ref (N0 + 58), .ref (N0 + 59), .ref (N0 + 60), .int 0, .int 0, .ref (N0 + 61), .ref (N0 + 62)]))) (h3 : F (N0 + 143) = some (.inr (7, [.ref (N0 + 144), .ref (N0 + 145), .ref (N0 + 146), .ref (N0 + 147), .ref (N0 + 148), .ref (N0 + 149), .int 1]))) (h4 : F (N0 + 57) = some (.inl (cI, 20, .inl (fun _ => 0)))) (h5 : F (N0 + 58) = some (.inl (cI, 20, .inl (fun _ => 0)))) (h6 : F (N0 + 35) = some (.inl (cII, 21, .inr (.inr (.inr (.inr (fun j => if j < 21 then some ((N0 + 36) + j) else none))))))) (h7 : F (N0 + 36) = some (.inl (cI, 21, .inl (fun _ => 0)))) (h8 : F (N0 + 14) = some (.inl (cII, 20, .inr (.inr (.inr (.inr (fun j => if j < 20 then some ((N0 + 15) + j) else none))))))) (h9 : F (N0 + 144) = some (.inl (cC, 20, .inl (upd (fun _ => 0) 0 97)))) (h10 : F (N0 + 146) = some (.inl (cI, 20, .inl (fun _ => 0)))) (h11 : F (N0 + 15) = some (.inl (cI, 20, .inl (fun _ => 0)))) : Met l yX7_similarity wsX7_similarity ({ frames := 3, cells := 0, slots := 0, locals := 73 }) (va_Pc [.ref N0, .int 0, .int 0] (fP N0 D vwCl (fty cI cC cL cD cII cTr cTm cIt cB) (fen ql) F n)) (fQd N0 D vwCl (fty cI cC cL cD cII cTr cTm cIt cB) (fun (r : UInt64) (_ : Unit) => r = 4607182418800017408) (fun _ => (fu (fu (fu (fu (fu F (N0 + 57) (.inl (cI, 20, .inl (upd (fun _ => 0) 0 1)))) (N0 + 58) (.inl (cI, 20, .inl (upd (fun _ => 0) 0 1)))) (N0 + 13) (.inr (3, [.ref (N0 + 14), .ref (N0 + 35), .ref (N0 + 57), .ref (N0 + 58), .ref (N0 + 59), .ref (N0 + 60), .int 0, .int 0, .ref (N0 + 61), .ref (N0 + 62)]))) (N0 + 36) (.inl (cI, 21, .inl (upd (fun _ => 0) 0 0)))) (N0 + 15) (.inl (cI, 20, .inl (upd (fun _ => 0) 0 0))))) (fun _ => n)) 0 0 (fA N0) := by
  refine fx_start 9 rfl rfl (Nat.le_of_ble_eq_true rfl) ?_ rfl
  intro p e s m below meth c ls S hr hlocks hin hG hl
  have hl : lv_has ls 9 [(0, .ref N0), (1, .int 0), (2, .int 0)] := hl
  have lt_h0 := hG.1.lt h0
  have lt_h1 := hG.1.lt h1
  have lt_h2 := hG.1.lt h2
  have lt_h3 := hG.1.lt h3
  have lt_h4 := hG.1.lt h4
  have lt_h5 := hG.1.lt h5
  have lt_h6 := hG.1.lt h6
  have lt_h7 := hG.1.lt h7
  have lt_h8 := hG.1.lt h8
  have lt_h9 := hG.1.lt h9
  have lt_h10 := hG.1.lt h10
  have lt_h11 := hG.1.lt h11
  refine lv_aload_n S.1 S.2.1 dX7_similarity_0 rfl (lv_at hl 0 rfl) ?_
  refine lv_iload_n S.1 S.2.1 dX7_similarity_1 rfl (lv_at hl 1 rfl) ?_
  refine fx_cVr (As := [.int 0]) (rest := []) S hG (k26_X7_treeAt (by omega) h0 h1) h0 rfl (cwV 1 S.2.2.2.2 gX7_similarity_X7_treeAt rfl rfl rfl (by decide +kernel) ⟨Nat.le_of_ble_eq_true rfl, Nat.le_of_ble_eq_true rfl⟩) rfl hl.1 rfl (Nat.le_of_ble_eq_true rfl) dX7_similarity_2 ⟨Nat.le_of_ble_eq_true rfl, Nat.le_of_ble_eq_true rfl⟩ (fun rv_1 _ H locs hp hG => ?_)
  subst rv_1
  refine lv_astore_n (lv' := [(3, .ref (N0 + 143)), (0, .ref N0), (1, .int 0), (2, .int 0)]) S.1 S.2.1 dX7_similarity_5 rfl hl (by decide) rfl (fun ls hl => ?_)
  refine lv_aload_n S.1 S.2.1 dX7_similarity_6 rfl (lv_at hl 1 rfl) ?_
  refine lv_iload_n S.1 S.2.1 dX7_similarity_7 rfl (lv_at hl 3 rfl) ?_
  refine fx_cVr (As := [.int 0]) (rest := []) S hG (k26_X7_treeAt (by omega) h0 h1) h0 rfl (cwV 1 S.2.2.2.2 gX7_similarity_X7_treeAt rfl rfl rfl (by decide +kernel) ⟨Nat.le_of_ble_eq_true rfl, Nat.le_of_ble_eq_true rfl⟩) rfl hl.1 rfl (Nat.le_of_ble_eq_true rfl) dX7_similarity_8 ⟨Nat.le_of_ble_eq_true rfl, Nat.le_of_ble_eq_true rfl⟩ (fun rv_2 _ H locs hp hG => ?_)
  subst rv_2
  refine lv_astore (lv' := [(4, .ref (N0 + 143)), (3, .ref (N0 + 143)), (0, .ref N0), (1, .int 0), (2, .int 0)]) S.1 S.2.1 dX7_similarity_11 hl (by decide) rfl (fun ls hl => ?_)
  refine lv_aload_n S.1 S.2.1 dX7_similarity_13 rfl (lv_at hl 2 rfl) ?_
  refine gx_get (C := RX7) (T := TX7) (N := 10) S hG h0 i_X7_similarity_X7 rfl 3 (by decide) (by decide +kernel) rfl dX7_similarity_14 ?_
  refine lv_aload_n S.1 S.2.1 dX7_similarity_17 rfl (lv_at hl 1 rfl) ?_
  refine lv_aload S.1 S.2.1 dX7_similarity_18 (lv_at hl 0 rfl) ?_
  refine fx_cVi (As := [.ref (N0 + 143), .ref (N0 + 143)]) (rest := []) S hG (k1189_X1_leastCost (by omega) h2 h3 h4 h5 h6 h7 h8 h9 h10 h11) h2 rfl (cwV 2 S.2.2.2.2 gX7_similarity_X1_leastCost rfl rfl rfl (by decide +kernel) ⟨Nat.le_of_ble_eq_true rfl, Nat.le_of_ble_eq_true rfl⟩) rfl hl.1 rfl (Nat.le_of_ble_eq_true rfl) dX7_similarity_20 ⟨Nat.le_of_ble_eq_true rfl, Nat.le_of_ble_eq_true rfl⟩ (fun rv_3 _ H locs hp hG => ?_)
  subst rv_3
  refine gx_i2d (v := 0) S (by decide +kernel) dX7_similarity_23 ?_
  refine lv_dstore (lv' := [(5, .double 0), (4, .ref (N0 + 143)), (3, .ref (N0 + 143)), (0, .ref N0), (1, .int 0), (2, .int 0)]) S.1 S.2.1 dX7_similarity_24 hl (by decide) rfl (fun ls hl => ?_)
  refine lv_iconst (v := 2) S.1 S.2.1 dX7_similarity_26 (by decide) ?_
  refine lv_aload_n S.1 S.2.1 dX7_similarity_27 rfl (lv_at hl 2 rfl) ?_
  refine gx_get (C := RX5) (T := TX5) (N := 7) S hG (fu_at (by omega) (fu_at (by omega) (fu_at (by omega) (fu_at (by omega) (fu_at (by omega) h3))))) i_X7_similarity_X5 rfl 6 (by decide) (by decide +kernel) rfl dX7_similarity_28 ?_
  refine lv_aload S.1 S.2.1 dX7_similarity_31 (lv_at hl 1 rfl) ?_
  refine gx_get (C := RX5) (T := TX5) (N := 7) S hG (fu_at (by omega) (fu_at (by omega) (fu_at (by omega) (fu_at (by omega) (fu_at (by omega) h3))))) i_X7_similarity_X5 rfl 6 (by decide) (by decide +kernel) rfl dX7_similarity_33 ?_
  refine lv_iadd S.1 S.2.1 dX7_similarity_36 ?_
  refine fx_topi (y := 2) (by decide) ?_
  refine lv_imul S.1 S.2.1 dX7_similarity_37 ?_
  refine fx_topi (y := 4) (by decide) ?_
  refine gx_i2d (v := 4616189618054758400) S (by decide +kernel) dX7_similarity_38 ?_
  refine lv_dstore (lv' := [(7, .double 4616189618054758400), (5, .double 0), (4, .ref (N0 + 143)), (3, .ref (N0 + 143)), (0, .ref N0), (1, .int 0), (2, .int 0)]) S.1 S.2.1 dX7_similarity_39 hl (by decide) rfl (fun ls hl => ?_)
  refine lv_dload S.1 S.2.1 dX7_similarity_41 (lv_at hl 0 rfl) ?_
  refine gx_dconst0 (v := 0) S (by decide +kernel) dX7_similarity_43 ?_
  refine gx_dcmp (v := 1) S (by decide +kernel) dX7_similarity_44 ?_
  refine lv_if_le (tgt := 58) S.1 S.2.1 dX7_similarity_45 (by decide) (fun c => absurd c (by decide)) (fun _ => ?_)
  refine gx_dconst1 (v := 4607182418800017408) S (by decide +kernel) dX7_similarity_48 ?_
  refine lv_dload S.1 S.2.1 dX7_similarity_49 (lv_at hl 1 rfl) ?_
  refine lv_dload S.1 S.2.1 dX7_similarity_51 (lv_at hl 0 rfl) ?_
  refine gx_ddiv (v := 0) S (by decide +kernel) (by unfold vf_n64; decide +kernel) dX7_similarity_53 ?_
  refine gx_dsub (v := 4607182418800017408) S (by decide +kernel) (by unfold vf_n64; decide +kernel) dX7_similarity_54 ?_
  refine lv_goto (tgt := 59) S.1 S.2.1 dX7_similarity_55 (by decide) ?_
  exact fx_dret S hr hlocks () hG (rfl) dX7_similarity_59
theorem k1378_L_similarity {n : Nat} (hn : N0 + 231 ≤ n) (h0 : F N0 = some (.inr (9, [.ref (N0 + 1), .ref (N0 + 2), .ref (N0 + 11), .ref (N0 + 13), .ref (N0 + 63), .ref (N0 + 65), .ref (N0 + 85), .int (-1), .int (-1), .int 32]))) (h1 : F (N0 + 1) = some (.inl (cTr, 3, .inr (.inr (.inr (.inr (va_up (va_up (va_up (fun _ => none) 0 (some (N0 + 143))) 1 (some (N0 + 150))) 2 (some (N0 + 157))))))))) (h2 : F (N0 + 13) = some (.inr (3, [.ref (N0 + 14), .ref (N0 + 35), .ref (N0 + 57), .ref (N0 + 58), .ref (N0 + 59), .ref (N0 + 60), .int 0, .int 0, .ref (N0 + 61), .ref (N0 + 62)]))) (h3 : F (N0 + 143) = some (.inr (7, [.ref (N0 + 144), .ref (N0 + 145), .ref (N0 + 146), .ref (N0 + 147), .ref (N0 + 148), .ref (N0 + 149), .int 1]))) (h4 : F (N0 + 57) = some (.inl (cI, 20, .inl (fun _ => 0)))) (h5 : F (N0 + 58) = some (.inl (cI, 20, .inl (fun _ => 0)))) (h6 : F (N0 + 35) = some (.inl (cII, 21, .inr (.inr (.inr (.inr (fun j => if j < 21 then some ((N0 + 36) + j) else none))))))) (h7 : F (N0 + 36) = some (.inl (cI, 21, .inl (fun _ => 0)))) (h8 : F (N0 + 14) = some (.inl (cII, 20, .inr (.inr (.inr (.inr (fun j => if j < 20 then some ((N0 + 15) + j) else none))))))) (h9 : F (N0 + 144) = some (.inl (cC, 20, .inl (upd (fun _ => 0) 0 97)))) (h10 : F (N0 + 146) = some (.inl (cI, 20, .inl (fun _ => 0)))) (h11 : F (N0 + 15) = some (.inl (cI, 20, .inl (fun _ => 0)))) (h12 : F (N0 + 230) = some (.inl (cD, 1, .inr (.inr (.inr (.inl (fun _ => 0))))))) : Met l yL_similarity wsL_similarity ({ frames := 4, cells := 0, slots := 0, locals := 101 }) (va_Pc [.ref N0, .int 0, .int 0, .ref (N0 + 230)] (fP N0 D vwCl (fty cI cC cL cD cII cTr cTm cIt cB) (fen ql) F n)) (fQi N0 D vwCl (fty cI cC cL cD cII cTr cTm cIt cB) (fun (r : Int32) (_ : Unit) => r = 0) (fun _ => (fu (fu (fu (fu (fu (fu F (N0 + 57) (.inl (cI, 20, .inl (upd (fun _ => 0) 0 1)))) (N0 + 58) (.inl (cI, 20, .inl (upd (fun _ => 0) 0 1)))) (N0 + 13) (.inr (3, [.ref (N0 + 14), .ref (N0 + 35), .ref (N0 + 57), .ref (N0 + 58), .ref (N0 + 59), .ref (N0 + 60), .int 0, .int 0, .ref (N0 + 61), .ref (N0 + 62)]))) (N0 + 36) (.inl (cI, 21, .inl (upd (fun _ => 0) 0 0)))) (N0 + 15) (.inl (cI, 20, .inl (upd (fun _ => 0) 0 0)))) (N0 + 230) (.inl (cD, 1, .inr (.inr (.inr (.inl (vf_upd (fun _ => 0) 0 4607182418800017408)))))))) (fun _ => n)) 0 0 (fA N0) := by
  refine fx_startW (hh := [(0, 9, 12, 19)]) 5 rfl rfl (Nat.le_of_ble_eq_true rfl) ?_ rfl
  intro p e s m below meth c ls S htab hr hlocks hG hl
  have hl : lv_has ls 5 [(0, .ref N0), (1, .int 0), (2, .int 0), (3, .ref (N0 + 230))] := hl
  have lt_h0 := hG.1.lt h0
  have lt_h1 := hG.1.lt h1
  have lt_h2 := hG.1.lt h2
  have lt_h3 := hG.1.lt h3
  have lt_h4 := hG.1.lt h4
  have lt_h5 := hG.1.lt h5
  have lt_h6 := hG.1.lt h6
  have lt_h7 := hG.1.lt h7
  have lt_h8 := hG.1.lt h8
  have lt_h9 := hG.1.lt h9
  have lt_h10 := hG.1.lt h10
  have lt_h11 := hG.1.lt h11
  have lt_h12 := hG.1.lt h12
  refine lv_aload_n S.1 S.2.1 dL_similarity_0 rfl (lv_at hl 3 rfl) ?_
  refine lv_iconst (v := 0) S.1 S.2.1 dL_similarity_1 (by decide) ?_
  refine lv_aload_n S.1 S.2.1 dL_similarity_2 rfl (lv_at hl 0 rfl) ?_
  refine lv_iload_n S.1 S.2.1 dL_similarity_3 rfl (lv_at hl 1 rfl) ?_
  refine lv_iload_n S.1 S.2.1 dL_similarity_4 rfl (lv_at hl 2 rfl) ?_
  refine fx_cVd (As := [.int 0, .int 0]) (rest := [.int 0, .ref (N0 + 230)]) S hG (k1377_X7_similarity (by omega) h0 h1 h2 h3 h4 h5 h6 h7 h8 h9 h10 h11) h0 rfl (cwV 2 S.2.2.2.2 gL_similarity_X7_similarity rfl rfl rfl (by decide +kernel) ⟨Nat.le_of_ble_eq_true rfl, Nat.le_of_ble_eq_true rfl⟩) rfl hl.1 rfl (Nat.le_of_ble_eq_true rfl) dL_similarity_5 ⟨Nat.le_of_ble_eq_true rfl, Nat.le_of_ble_eq_true rfl⟩ (fun rv_1 _ H locs hp hG => ?_)
  subst rv_1
  refine gx_dast (f' := vf_upd (fun _ => 0) 0 4607182418800017408) S hG 3 (fu_at (by omega) (fu_at (by omega) (fu_at (by omega) (fu_at (by omega) (fu_at (by omega) h12))))) rfl (fin_l (by decide)) dL_similarity_8 rfl (fun H locs hG => ?_)
  refine lv_goto (tgt := 16) S.1 S.2.1 dL_similarity_9 (by decide) ?_
  refine lv_iconst (v := 0) S.1 S.2.1 dL_similarity_16 (by decide) ?_
  exact fx_iret S hr hlocks () hG (rfl) dL_similarity_17
theorem i_X10_similarity_X10 : ∀ w ∈ u_ws RX10 TX10 31, w ∈ wsX10_similarity := by decide +kernel
theorem i_X10_similarity_X9 : ∀ w ∈ u_ws RX9 TX9 5, w ∈ wsX10_similarity := by decide +kernel
theorem k1379_X10_similarity {n : Nat} (hn : N0 + 231 ≤ n) (h0 : F (N0 + 164) = some (.inr (12, [.ref (N0 + 165), .int 0, .ref (N0 + 181), .int 0, .int 0, .int 0, .int (-1), .ref (ql 24), .ref (N0 + 182), .ref (N0 + 187), .ref (N0 + 208), .ref (N0 + 209), .ref (N0 + 210), .ref (N0 + 211), .ref (N0 + 212), .int 0, .ref (N0 + 213), .ref (N0 + 218), .ref (N0 + 223), .ref (N0 + 224), .ref (N0 + 225), .ref (N0 + 226), .ref (N0 + 227), .int 0, .int 0, .ref (N0 + 228), .null, .int (-1), .int 0, .int 0, .int 0]))) (h1 : F (N0 + 165) = some (.inl (cTm, 3, .inr (.inr (.inr (.inr (va_up (va_up (va_up (fun _ => none) 0 (some (N0 + 166))) 1 (some (N0 + 171))) 2 (some (N0 + 176))))))))) (h2 : F (N0 + 166) = some (.inr (11, [.ref (N0 + 167), .ref (N0 + 168), .ref (N0 + 169), .ref (N0 + 170), .int 1]))) (h3 : F (N0 + 167) = some (.inl (cI, 20, .inl (upd (fun _ => 0) 0 97)))) (h4 : F (N0 + 169) = some (.inl (cI, 20, .inl (upd (fun _ => 0) 0 0)))) (h5 : F (N0 + 187) = some (.inl (cII, 20, .inr (.inr (.inr (.inr (fun j => if j < 20 then some ((N0 + 188) + j) else none))))))) (h6 : F (N0 + 188) = some (.inl (cI, 20, .inl (fun _ => 0)))) : Met l yX10_similarity wsX10_similarity ({ frames := 3, cells := 4, slots := 2, locals := 72 }) (va_Pc [.ref (N0 + 164), .int 0, .int 0] (fP N0 D vwCl (fty cI cC cL cD cII cTr cTm cIt cB) (fen ql) F n)) (fQd N0 D vwCl (fty cI cC cL cD cII cTr cTm cIt cB) (fun (r : UInt64) (_ : Unit) => r = 4607182418800017408) (fun _ => (fblk (fu (fu F (N0 + 164) (.inr (12, [.ref (N0 + 165), .int 0, .ref (N0 + 181), .int 0, .int 0, .int 0, .int (-1), .ref (ql 24), .ref (N0 + 182), .ref (N0 + 187), .ref (N0 + 208), .ref (N0 + 209), .ref (N0 + 210), .ref (N0 + 211), .ref (N0 + 212), .int 0, .ref (N0 + 213), .ref (N0 + 218), .ref (N0 + 223), .ref (N0 + 224), .ref (N0 + 225), .ref (N0 + 226), .ref (N0 + 227), .int 0, .int 0, .ref (N0 + 228), .null, .int (-1), .int 0, .int 0, .int 0]))) (N0 + 188) (.inl (cI, 20, .inl (upd (fun _ => 0) 0 0)))) n [.inl (cI, 0, .inl (fun _ => 0)), .inl (cI, 0, .inl (fun _ => 0)), .inl (cII, 1, .inr (.inr (.inr (.inr (fun j => if j < 1 then some ((n + 3) + j) else none))))), .inl (cI, 1, .inl (fun _ => 0))])) (fun _ => (n + 4))) 4 2 (fA N0) := by
  refine fx_start 3 rfl rfl (Nat.le_of_ble_eq_true rfl) ?_ rfl
  intro p e s m below meth c ls S hr hlocks hin hG hl
  have hl : lv_has ls 3 [(0, .ref (N0 + 164)), (1, .int 0), (2, .int 0)] := hl
  have lt_h0 := hG.1.lt h0
  have lt_h1 := hG.1.lt h1
  have lt_h2 := hG.1.lt h2
  have lt_h3 := hG.1.lt h3
  have lt_h4 := hG.1.lt h4
  have lt_h5 := hG.1.lt h5
  have lt_h6 := hG.1.lt h6
  refine lv_aload_n S.1 S.2.1 dX10_similarity_0 rfl (lv_at hl 0 rfl) ?_
  refine lv_iload_n S.1 S.2.1 dX10_similarity_1 rfl (lv_at hl 1 rfl) ?_
  refine lv_iload_n S.1 S.2.1 dX10_similarity_2 rfl (lv_at hl 2 rfl) ?_
  refine fx_cVi (As := [.int 0, .int 0]) (rest := []) S hG (k460_X10_areNone (by omega) h0) h0 rfl (cwV 2 S.2.2.2.2 gX10_similarity_X10_areNone rfl rfl rfl (by decide +kernel) ⟨Nat.le_of_ble_eq_true rfl, Nat.le_of_ble_eq_true rfl⟩) rfl hl.1 rfl (Nat.le_of_ble_eq_true rfl) dX10_similarity_3 ⟨Nat.le_of_ble_eq_true rfl, Nat.le_of_ble_eq_true rfl⟩ (fun rv_1 _ H locs hp hG => ?_)
  subst rv_1
  refine lv_if_eq (tgt := 11) S.1 S.2.1 dX10_similarity_6 (by decide) (fun _ => ?_) (fun c => absurd (by decide) c)
  refine gx_dconst1 (v := 4607182418800017408) S (by decide +kernel) dX10_similarity_11 ?_
  refine lv_aload_n S.1 S.2.1 dX10_similarity_12 rfl (lv_at hl 0 rfl) ?_
  refine lv_aload_n S.1 S.2.1 dX10_similarity_13 rfl (lv_at hl 0 rfl) ?_
  refine gx_get (C := RX10) (T := TX10) (N := 31) S hG fu_s i_X10_similarity_X10 rfl 0 (by decide) (by decide +kernel) rfl dX10_similarity_14 ?_
  refine lv_iload_n S.1 S.2.1 dX10_similarity_17 rfl (lv_at hl 1 rfl) ?_
  refine gx_aldq (x := (N0 + 166)) S hG 6 rfl (fu_at (by omega) h1) rfl (fin_l (by decide)) (rfl) dX10_similarity_18 ?_
  refine lv_aload_n S.1 S.2.1 dX10_similarity_19 rfl (lv_at hl 0 rfl) ?_
  refine gx_get (C := RX10) (T := TX10) (N := 31) S hG fu_s i_X10_similarity_X10 rfl 0 (by decide) (by decide +kernel) rfl dX10_similarity_20 ?_
  refine lv_iload_n S.1 S.2.1 dX10_similarity_23 rfl (lv_at hl 2 rfl) ?_
  refine gx_aldq (x := (N0 + 166)) S hG 6 rfl (fu_at (by omega) h1) rfl (fin_l (by decide)) (rfl) dX10_similarity_24 ?_
  refine fx_cVi (As := [.ref (N0 + 166), .ref (N0 + 166)]) (rest := [.double 4607182418800017408]) S hG (k1193_X10_fills (by omega) (fu_at (by omega) h2) (fu_at (by omega) h3) (fu_at (by omega) h4) fu_s (fu_at (by omega) h5) (fu_at (by omega) h6)) fu_s rfl (cwV 2 S.2.2.2.2 gX10_similarity_X10_fills rfl rfl rfl (by decide +kernel) ⟨Nat.le_of_ble_eq_true rfl, Nat.le_of_ble_eq_true rfl⟩) rfl hl.1 rfl (Nat.le_of_ble_eq_true rfl) dX10_similarity_25 ⟨Nat.le_of_ble_eq_true rfl, Nat.le_of_ble_eq_true rfl⟩ (fun rv_2 _ H locs hp hG => ?_)
  subst rv_2
  refine W.widen (k := 4) (n := 2) (by decide) (by decide) ?_
  refine gx_i2d (v := 0) S (by decide +kernel) dX10_similarity_28 ?_
  refine lv_iconst (v := 2) S.1 S.2.1 dX10_similarity_29 (by decide) ?_
  refine lv_aload_n S.1 S.2.1 dX10_similarity_30 rfl (lv_at hl 0 rfl) ?_
  refine gx_get (C := RX10) (T := TX10) (N := 31) S hG (fblk_sk 4 rfl (by omega) (fu_at (by omega) fu_s)) i_X10_similarity_X10 rfl 0 (by decide) (by decide +kernel) rfl dX10_similarity_31 ?_
  refine lv_iload_n S.1 S.2.1 dX10_similarity_34 rfl (lv_at hl 1 rfl) ?_
  refine gx_aldq (x := (N0 + 166)) S hG 6 rfl (fblk_sk 4 rfl (by omega) (fu_at (by omega) (fu_at (by omega) h1))) rfl (fin_l (by decide)) (rfl) dX10_similarity_35 ?_
  refine gx_getN (C := RX9) (T := TX9) (N := 5) S hG (fblk_sk 4 rfl (by omega) (fu_at (by omega) (fu_at (by omega) h2))) i_X10_similarity_X9 rfl 4 (by decide) (List.mem_of_getElem? (i := 4) rfl) rfl dX10_similarity_36 ?_
  refine lv_aload_n S.1 S.2.1 dX10_similarity_39 rfl (lv_at hl 0 rfl) ?_
  refine gx_get (C := RX10) (T := TX10) (N := 31) S hG (fblk_sk 4 rfl (by omega) (fu_at (by omega) fu_s)) i_X10_similarity_X10 rfl 0 (by decide) (by decide +kernel) rfl dX10_similarity_40 ?_
  refine lv_iload_n S.1 S.2.1 dX10_similarity_43 rfl (lv_at hl 2 rfl) ?_
  refine gx_aldq (x := (N0 + 166)) S hG 6 rfl (fblk_sk 4 rfl (by omega) (fu_at (by omega) (fu_at (by omega) h1))) rfl (fin_l (by decide)) (rfl) dX10_similarity_44 ?_
  refine gx_getN (C := RX9) (T := TX9) (N := 5) S hG (fblk_sk 4 rfl (by omega) (fu_at (by omega) (fu_at (by omega) h2))) i_X10_similarity_X9 rfl 4 (by decide) (List.mem_of_getElem? (i := 4) rfl) rfl dX10_similarity_45 ?_
  refine lv_iadd S.1 S.2.1 dX10_similarity_48 ?_
  refine fx_topi (y := 2) (by decide) ?_
  refine lv_imul S.1 S.2.1 dX10_similarity_49 ?_
  refine fx_topi (y := 4) (by decide) ?_
  refine gx_i2d (v := 4616189618054758400) S (by decide +kernel) dX10_similarity_50 ?_
  refine gx_ddiv (v := 0) S (by decide +kernel) (by unfold vf_n64; decide +kernel) dX10_similarity_51 ?_
  refine gx_dsub (v := 4607182418800017408) S (by decide +kernel) (by unfold vf_n64; decide +kernel) dX10_similarity_52 ?_
  have hG : fG N0 D vwCl (fty cI cC cL cD cII cTr cTm cIt cB) (fen ql) s (fblk (fu (fu F (N0 + 164) (.inr (12, [.ref (N0 + 165), .int 0, .ref (N0 + 181), .int 0, .int 0, .int 0, .int (-1), .ref (ql 24), .ref (N0 + 182), .ref (N0 + 187), .ref (N0 + 208), .ref (N0 + 209), .ref (N0 + 210), .ref (N0 + 211), .ref (N0 + 212), .int 0, .ref (N0 + 213), .ref (N0 + 218), .ref (N0 + 223), .ref (N0 + 224), .ref (N0 + 225), .ref (N0 + 226), .ref (N0 + 227), .int 0, .int 0, .ref (N0 + 228), .null, .int (-1), .int 0, .int 0, .int 0]))) (N0 + 188) (.inl (cI, 20, .inl (upd (fun _ => 0) 0 0)))) n [.inl (cI, 0, .inl (fun _ => 0)), .inl (cI, 0, .inl (fun _ => 0)), .inl (cII, 1, .inr (.inr (.inr (.inr (fun j => if j < 1 then some ((n + 3) + j) else none))))), .inl (cI, 1, .inl (fun _ => 0))]) (n + 4) H locs := hG.weak (fun a e h => by
    rcases fblk_cases 4 rfl h with ⟨k, rfl, hlt, hk⟩ | ⟨hout, h⟩
    · rcases (show k = 0 ∨ k = 1 ∨ k = 2 ∨ k = 3 by omega) with rfl | rfl | rfl | rfl
      · cases (show some (.inl (cI, 0, .inl (fun _ => 0))) = some e from hk); exact (fblk_at 0 (by omega) rfl)
      · cases (show some (.inl (cI, 0, .inl (fun _ => 0))) = some e from hk); exact (fblk_at 1 (by omega) rfl)
      · cases (show some (.inl (cII, 1, .inr (.inr (.inr (.inr (fun j => if j < 1 then some ((n + 3) + j) else none)))))) = some e from hk); exact (fblk_at 2 (by omega) rfl)
      · cases (show some (.inl (cI, 1, .inl (fun _ => 0))) = some e from hk); exact (fblk_at 3 (by omega) rfl)
    · rcases fu_cases h with ⟨rfl, he⟩ | ⟨hne0, h⟩
      · cases he; exact (fblk_sk 4 rfl (by omega) fu_s)
      · skip
        rcases fu_cases h with ⟨rfl, he⟩ | ⟨hne1, h⟩
        · cases he; exact (fblk_sk 4 rfl (by omega) (fu_at (by omega) fu_s))
        · exact (fblk_sk 4 rfl (by omega) (fu_at (by omega) (fu_at (by omega) h))))
  exact fx_dret S hr hlocks () hG (rfl) dX10_similarity_53
theorem k1380_X7_similarity {n : Nat} (hn : N0 + 231 ≤ n) (h0 : F N0 = some (.inr (9, [.ref (N0 + 1), .ref (N0 + 2), .ref (N0 + 11), .ref (N0 + 13), .ref (N0 + 63), .ref (N0 + 65), .ref (N0 + 85), .int (-1), .int (-1), .int 32]))) (h1 : F (N0 + 1) = some (.inl (cTr, 3, .inr (.inr (.inr (.inr (va_up (va_up (va_up (fun _ => none) 0 (some (N0 + 143))) 1 (some (N0 + 150))) 2 (some (N0 + 157))))))))) (h2 : F (N0 + 13) = some (.inr (3, [.ref (N0 + 14), .ref (N0 + 35), .ref (N0 + 57), .ref (N0 + 58), .ref (N0 + 59), .ref (N0 + 60), .int 0, .int 0, .ref (N0 + 61), .ref (N0 + 62)]))) (h3 : F (N0 + 143) = some (.inr (7, [.ref (N0 + 144), .ref (N0 + 145), .ref (N0 + 146), .ref (N0 + 147), .ref (N0 + 148), .ref (N0 + 149), .int 1]))) (h4 : F (N0 + 57) = some (.inl (cI, 20, .inl (fun _ => 0)))) (h5 : F (N0 + 150) = some (.inr (7, [.ref (N0 + 151), .ref (N0 + 152), .ref (N0 + 153), .ref (N0 + 154), .ref (N0 + 155), .ref (N0 + 156), .int 1]))) (h6 : F (N0 + 58) = some (.inl (cI, 20, .inl (fun _ => 0)))) (h7 : F (N0 + 35) = some (.inl (cII, 21, .inr (.inr (.inr (.inr (fun j => if j < 21 then some ((N0 + 36) + j) else none))))))) (h8 : F (N0 + 36) = some (.inl (cI, 21, .inl (fun _ => 0)))) (h9 : F (N0 + 14) = some (.inl (cII, 20, .inr (.inr (.inr (.inr (fun j => if j < 20 then some ((N0 + 15) + j) else none))))))) (h10 : F (N0 + 144) = some (.inl (cC, 20, .inl (upd (fun _ => 0) 0 97)))) (h11 : F (N0 + 151) = some (.inl (cC, 20, .inl (upd (fun _ => 0) 0 97)))) (h12 : F (N0 + 146) = some (.inl (cI, 20, .inl (fun _ => 0)))) (h13 : F (N0 + 153) = some (.inl (cI, 20, .inl (fun _ => 0)))) (h14 : F (N0 + 15) = some (.inl (cI, 20, .inl (fun _ => 0)))) : Met l yX7_similarity wsX7_similarity ({ frames := 3, cells := 0, slots := 0, locals := 73 }) (va_Pc [.ref N0, .int 0, .int 1] (fP N0 D vwCl (fty cI cC cL cD cII cTr cTm cIt cB) (fen ql) F n)) (fQd N0 D vwCl (fty cI cC cL cD cII cTr cTm cIt cB) (fun (r : UInt64) (_ : Unit) => r = 4607182418800017408) (fun _ => (fu (fu (fu (fu (fu F (N0 + 57) (.inl (cI, 20, .inl (upd (fun _ => 0) 0 1)))) (N0 + 58) (.inl (cI, 20, .inl (upd (fun _ => 0) 0 1)))) (N0 + 13) (.inr (3, [.ref (N0 + 14), .ref (N0 + 35), .ref (N0 + 57), .ref (N0 + 58), .ref (N0 + 59), .ref (N0 + 60), .int 0, .int 0, .ref (N0 + 61), .ref (N0 + 62)]))) (N0 + 36) (.inl (cI, 21, .inl (upd (fun _ => 0) 0 0)))) (N0 + 15) (.inl (cI, 20, .inl (upd (fun _ => 0) 0 0))))) (fun _ => n)) 0 0 (fA N0) := by
  refine fx_start 9 rfl rfl (Nat.le_of_ble_eq_true rfl) ?_ rfl
  intro p e s m below meth c ls S hr hlocks hin hG hl
  have hl : lv_has ls 9 [(0, .ref N0), (1, .int 0), (2, .int 1)] := hl
  have lt_h0 := hG.1.lt h0
  have lt_h1 := hG.1.lt h1
  have lt_h2 := hG.1.lt h2
  have lt_h3 := hG.1.lt h3
  have lt_h4 := hG.1.lt h4
  have lt_h5 := hG.1.lt h5
  have lt_h6 := hG.1.lt h6
  have lt_h7 := hG.1.lt h7
  have lt_h8 := hG.1.lt h8
  have lt_h9 := hG.1.lt h9
  have lt_h10 := hG.1.lt h10
  have lt_h11 := hG.1.lt h11
  have lt_h12 := hG.1.lt h12
  have lt_h13 := hG.1.lt h13
  have lt_h14 := hG.1.lt h14
  refine lv_aload_n S.1 S.2.1 dX7_similarity_0 rfl (lv_at hl 0 rfl) ?_
  refine lv_iload_n S.1 S.2.1 dX7_similarity_1 rfl (lv_at hl 1 rfl) ?_
  refine fx_cVr (As := [.int 0]) (rest := []) S hG (k26_X7_treeAt (by omega) h0 h1) h0 rfl (cwV 1 S.2.2.2.2 gX7_similarity_X7_treeAt rfl rfl rfl (by decide +kernel) ⟨Nat.le_of_ble_eq_true rfl, Nat.le_of_ble_eq_true rfl⟩) rfl hl.1 rfl (Nat.le_of_ble_eq_true rfl) dX7_similarity_2 ⟨Nat.le_of_ble_eq_true rfl, Nat.le_of_ble_eq_true rfl⟩ (fun rv_1 _ H locs hp hG => ?_)
  subst rv_1
  refine lv_astore_n (lv' := [(3, .ref (N0 + 143)), (0, .ref N0), (1, .int 0), (2, .int 1)]) S.1 S.2.1 dX7_similarity_5 rfl hl (by decide) rfl (fun ls hl => ?_)
  refine lv_aload_n S.1 S.2.1 dX7_similarity_6 rfl (lv_at hl 1 rfl) ?_
  refine lv_iload_n S.1 S.2.1 dX7_similarity_7 rfl (lv_at hl 3 rfl) ?_
  refine fx_cVr (As := [.int 1]) (rest := []) S hG (k42_X7_treeAt (by omega) h0 h1) h0 rfl (cwV 1 S.2.2.2.2 gX7_similarity_X7_treeAt rfl rfl rfl (by decide +kernel) ⟨Nat.le_of_ble_eq_true rfl, Nat.le_of_ble_eq_true rfl⟩) rfl hl.1 rfl (Nat.le_of_ble_eq_true rfl) dX7_similarity_8 ⟨Nat.le_of_ble_eq_true rfl, Nat.le_of_ble_eq_true rfl⟩ (fun rv_2 _ H locs hp hG => ?_)
  subst rv_2
  refine lv_astore (lv' := [(4, .ref (N0 + 150)), (3, .ref (N0 + 143)), (0, .ref N0), (1, .int 0), (2, .int 1)]) S.1 S.2.1 dX7_similarity_11 hl (by decide) rfl (fun ls hl => ?_)
  refine lv_aload_n S.1 S.2.1 dX7_similarity_13 rfl (lv_at hl 2 rfl) ?_
  refine gx_get (C := RX7) (T := TX7) (N := 10) S hG h0 i_X7_similarity_X7 rfl 3 (by decide) (by decide +kernel) rfl dX7_similarity_14 ?_
  refine lv_aload_n S.1 S.2.1 dX7_similarity_17 rfl (lv_at hl 1 rfl) ?_
  refine lv_aload S.1 S.2.1 dX7_similarity_18 (lv_at hl 0 rfl) ?_
  refine fx_cVi (As := [.ref (N0 + 143), .ref (N0 + 150)]) (rest := []) S hG (k1200_X1_leastCost (by omega) h2 h3 h4 h5 h6 h7 h8 h9 h10 h11 h12 h13 h14) h2 rfl (cwV 2 S.2.2.2.2 gX7_similarity_X1_leastCost rfl rfl rfl (by decide +kernel) ⟨Nat.le_of_ble_eq_true rfl, Nat.le_of_ble_eq_true rfl⟩) rfl hl.1 rfl (Nat.le_of_ble_eq_true rfl) dX7_similarity_20 ⟨Nat.le_of_ble_eq_true rfl, Nat.le_of_ble_eq_true rfl⟩ (fun rv_3 _ H locs hp hG => ?_)
  subst rv_3
  refine gx_i2d (v := 0) S (by decide +kernel) dX7_similarity_23 ?_
  refine lv_dstore (lv' := [(5, .double 0), (4, .ref (N0 + 150)), (3, .ref (N0 + 143)), (0, .ref N0), (1, .int 0), (2, .int 1)]) S.1 S.2.1 dX7_similarity_24 hl (by decide) rfl (fun ls hl => ?_)
  refine lv_iconst (v := 2) S.1 S.2.1 dX7_similarity_26 (by decide) ?_
  refine lv_aload_n S.1 S.2.1 dX7_similarity_27 rfl (lv_at hl 2 rfl) ?_
  refine gx_get (C := RX5) (T := TX5) (N := 7) S hG (fu_at (by omega) (fu_at (by omega) (fu_at (by omega) (fu_at (by omega) (fu_at (by omega) h3))))) i_X7_similarity_X5 rfl 6 (by decide) (by decide +kernel) rfl dX7_similarity_28 ?_
  refine lv_aload S.1 S.2.1 dX7_similarity_31 (lv_at hl 1 rfl) ?_
  refine gx_get (C := RX5) (T := TX5) (N := 7) S hG (fu_at (by omega) (fu_at (by omega) (fu_at (by omega) (fu_at (by omega) (fu_at (by omega) h5))))) i_X7_similarity_X5 rfl 6 (by decide) (by decide +kernel) rfl dX7_similarity_33 ?_
  refine lv_iadd S.1 S.2.1 dX7_similarity_36 ?_
  refine fx_topi (y := 2) (by decide) ?_
  refine lv_imul S.1 S.2.1 dX7_similarity_37 ?_
  refine fx_topi (y := 4) (by decide) ?_
  refine gx_i2d (v := 4616189618054758400) S (by decide +kernel) dX7_similarity_38 ?_
  refine lv_dstore (lv' := [(7, .double 4616189618054758400), (5, .double 0), (4, .ref (N0 + 150)), (3, .ref (N0 + 143)), (0, .ref N0), (1, .int 0), (2, .int 1)]) S.1 S.2.1 dX7_similarity_39 hl (by decide) rfl (fun ls hl => ?_)
  refine lv_dload S.1 S.2.1 dX7_similarity_41 (lv_at hl 0 rfl) ?_
  refine gx_dconst0 (v := 0) S (by decide +kernel) dX7_similarity_43 ?_
  refine gx_dcmp (v := 1) S (by decide +kernel) dX7_similarity_44 ?_
  refine lv_if_le (tgt := 58) S.1 S.2.1 dX7_similarity_45 (by decide) (fun c => absurd c (by decide)) (fun _ => ?_)
  refine gx_dconst1 (v := 4607182418800017408) S (by decide +kernel) dX7_similarity_48 ?_
  refine lv_dload S.1 S.2.1 dX7_similarity_49 (lv_at hl 1 rfl) ?_
  refine lv_dload S.1 S.2.1 dX7_similarity_51 (lv_at hl 0 rfl) ?_
  refine gx_ddiv (v := 0) S (by decide +kernel) (by unfold vf_n64; decide +kernel) dX7_similarity_53 ?_
  refine gx_dsub (v := 4607182418800017408) S (by decide +kernel) (by unfold vf_n64; decide +kernel) dX7_similarity_54 ?_
  refine lv_goto (tgt := 59) S.1 S.2.1 dX7_similarity_55 (by decide) ?_
  exact fx_dret S hr hlocks () hG (rfl) dX7_similarity_59
theorem k1381_L_similarity {n : Nat} (hn : N0 + 231 ≤ n) (h0 : F N0 = some (.inr (9, [.ref (N0 + 1), .ref (N0 + 2), .ref (N0 + 11), .ref (N0 + 13), .ref (N0 + 63), .ref (N0 + 65), .ref (N0 + 85), .int (-1), .int (-1), .int 32]))) (h1 : F (N0 + 1) = some (.inl (cTr, 3, .inr (.inr (.inr (.inr (va_up (va_up (va_up (fun _ => none) 0 (some (N0 + 143))) 1 (some (N0 + 150))) 2 (some (N0 + 157))))))))) (h2 : F (N0 + 13) = some (.inr (3, [.ref (N0 + 14), .ref (N0 + 35), .ref (N0 + 57), .ref (N0 + 58), .ref (N0 + 59), .ref (N0 + 60), .int 0, .int 0, .ref (N0 + 61), .ref (N0 + 62)]))) (h3 : F (N0 + 143) = some (.inr (7, [.ref (N0 + 144), .ref (N0 + 145), .ref (N0 + 146), .ref (N0 + 147), .ref (N0 + 148), .ref (N0 + 149), .int 1]))) (h4 : F (N0 + 57) = some (.inl (cI, 20, .inl (fun _ => 0)))) (h5 : F (N0 + 150) = some (.inr (7, [.ref (N0 + 151), .ref (N0 + 152), .ref (N0 + 153), .ref (N0 + 154), .ref (N0 + 155), .ref (N0 + 156), .int 1]))) (h6 : F (N0 + 58) = some (.inl (cI, 20, .inl (fun _ => 0)))) (h7 : F (N0 + 35) = some (.inl (cII, 21, .inr (.inr (.inr (.inr (fun j => if j < 21 then some ((N0 + 36) + j) else none))))))) (h8 : F (N0 + 36) = some (.inl (cI, 21, .inl (fun _ => 0)))) (h9 : F (N0 + 14) = some (.inl (cII, 20, .inr (.inr (.inr (.inr (fun j => if j < 20 then some ((N0 + 15) + j) else none))))))) (h10 : F (N0 + 144) = some (.inl (cC, 20, .inl (upd (fun _ => 0) 0 97)))) (h11 : F (N0 + 151) = some (.inl (cC, 20, .inl (upd (fun _ => 0) 0 97)))) (h12 : F (N0 + 146) = some (.inl (cI, 20, .inl (fun _ => 0)))) (h13 : F (N0 + 153) = some (.inl (cI, 20, .inl (fun _ => 0)))) (h14 : F (N0 + 15) = some (.inl (cI, 20, .inl (fun _ => 0)))) (h15 : F (N0 + 230) = some (.inl (cD, 1, .inr (.inr (.inr (.inl (fun _ => 0))))))) : Met l yL_similarity wsL_similarity ({ frames := 4, cells := 0, slots := 0, locals := 101 }) (va_Pc [.ref N0, .int 0, .int 1, .ref (N0 + 230)] (fP N0 D vwCl (fty cI cC cL cD cII cTr cTm cIt cB) (fen ql) F n)) (fQi N0 D vwCl (fty cI cC cL cD cII cTr cTm cIt cB) (fun (r : Int32) (_ : Unit) => r = 0) (fun _ => (fu (fu (fu (fu (fu (fu F (N0 + 57) (.inl (cI, 20, .inl (upd (fun _ => 0) 0 1)))) (N0 + 58) (.inl (cI, 20, .inl (upd (fun _ => 0) 0 1)))) (N0 + 13) (.inr (3, [.ref (N0 + 14), .ref (N0 + 35), .ref (N0 + 57), .ref (N0 + 58), .ref (N0 + 59), .ref (N0 + 60), .int 0, .int 0, .ref (N0 + 61), .ref (N0 + 62)]))) (N0 + 36) (.inl (cI, 21, .inl (upd (fun _ => 0) 0 0)))) (N0 + 15) (.inl (cI, 20, .inl (upd (fun _ => 0) 0 0)))) (N0 + 230) (.inl (cD, 1, .inr (.inr (.inr (.inl (vf_upd (fun _ => 0) 0 4607182418800017408)))))))) (fun _ => n)) 0 0 (fA N0) := by
  refine fx_startW (hh := [(0, 9, 12, 19)]) 5 rfl rfl (Nat.le_of_ble_eq_true rfl) ?_ rfl
  intro p e s m below meth c ls S htab hr hlocks hG hl
  have hl : lv_has ls 5 [(0, .ref N0), (1, .int 0), (2, .int 1), (3, .ref (N0 + 230))] := hl
  have lt_h0 := hG.1.lt h0
  have lt_h1 := hG.1.lt h1
  have lt_h2 := hG.1.lt h2
  have lt_h3 := hG.1.lt h3
  have lt_h4 := hG.1.lt h4
  have lt_h5 := hG.1.lt h5
  have lt_h6 := hG.1.lt h6
  have lt_h7 := hG.1.lt h7
  have lt_h8 := hG.1.lt h8
  have lt_h9 := hG.1.lt h9
  have lt_h10 := hG.1.lt h10
  have lt_h11 := hG.1.lt h11
  have lt_h12 := hG.1.lt h12
  have lt_h13 := hG.1.lt h13
  have lt_h14 := hG.1.lt h14
  have lt_h15 := hG.1.lt h15
  refine lv_aload_n S.1 S.2.1 dL_similarity_0 rfl (lv_at hl 3 rfl) ?_
  refine lv_iconst (v := 0) S.1 S.2.1 dL_similarity_1 (by decide) ?_
  refine lv_aload_n S.1 S.2.1 dL_similarity_2 rfl (lv_at hl 0 rfl) ?_
  refine lv_iload_n S.1 S.2.1 dL_similarity_3 rfl (lv_at hl 1 rfl) ?_
  refine lv_iload_n S.1 S.2.1 dL_similarity_4 rfl (lv_at hl 2 rfl) ?_
  refine fx_cVd (As := [.int 0, .int 1]) (rest := [.int 0, .ref (N0 + 230)]) S hG (k1380_X7_similarity (by omega) h0 h1 h2 h3 h4 h5 h6 h7 h8 h9 h10 h11 h12 h13 h14) h0 rfl (cwV 2 S.2.2.2.2 gL_similarity_X7_similarity rfl rfl rfl (by decide +kernel) ⟨Nat.le_of_ble_eq_true rfl, Nat.le_of_ble_eq_true rfl⟩) rfl hl.1 rfl (Nat.le_of_ble_eq_true rfl) dL_similarity_5 ⟨Nat.le_of_ble_eq_true rfl, Nat.le_of_ble_eq_true rfl⟩ (fun rv_1 _ H locs hp hG => ?_)
  subst rv_1
  refine gx_dast (f' := vf_upd (fun _ => 0) 0 4607182418800017408) S hG 3 (fu_at (by omega) (fu_at (by omega) (fu_at (by omega) (fu_at (by omega) (fu_at (by omega) h15))))) rfl (fin_l (by decide)) dL_similarity_8 rfl (fun H locs hG => ?_)
  refine lv_goto (tgt := 16) S.1 S.2.1 dL_similarity_9 (by decide) ?_
  refine lv_iconst (v := 0) S.1 S.2.1 dL_similarity_16 (by decide) ?_
  exact fx_iret S hr hlocks () hG (rfl) dL_similarity_17
theorem k1382_X10_similarity {n : Nat} (hn : N0 + 231 ≤ n) (h0 : F (N0 + 164) = some (.inr (12, [.ref (N0 + 165), .int 0, .ref (N0 + 181), .int 0, .int 0, .int 0, .int (-1), .ref (ql 24), .ref (N0 + 182), .ref (N0 + 187), .ref (N0 + 208), .ref (N0 + 209), .ref (N0 + 210), .ref (N0 + 211), .ref (N0 + 212), .int 0, .ref (N0 + 213), .ref (N0 + 218), .ref (N0 + 223), .ref (N0 + 224), .ref (N0 + 225), .ref (N0 + 226), .ref (N0 + 227), .int 0, .int 0, .ref (N0 + 228), .null, .int (-1), .int 0, .int 0, .int 0]))) (h1 : F (N0 + 165) = some (.inl (cTm, 3, .inr (.inr (.inr (.inr (va_up (va_up (va_up (fun _ => none) 0 (some (N0 + 166))) 1 (some (N0 + 171))) 2 (some (N0 + 176))))))))) (h2 : F (N0 + 166) = some (.inr (11, [.ref (N0 + 167), .ref (N0 + 168), .ref (N0 + 169), .ref (N0 + 170), .int 1]))) (h3 : F (N0 + 171) = some (.inr (11, [.ref (N0 + 172), .ref (N0 + 173), .ref (N0 + 174), .ref (N0 + 175), .int 1]))) (h4 : F (N0 + 167) = some (.inl (cI, 20, .inl (upd (fun _ => 0) 0 97)))) (h5 : F (N0 + 172) = some (.inl (cI, 20, .inl (upd (fun _ => 0) 0 97)))) (h6 : F (N0 + 169) = some (.inl (cI, 20, .inl (upd (fun _ => 0) 0 0)))) (h7 : F (N0 + 174) = some (.inl (cI, 20, .inl (upd (fun _ => 0) 0 0)))) (h8 : F (N0 + 187) = some (.inl (cII, 20, .inr (.inr (.inr (.inr (fun j => if j < 20 then some ((N0 + 188) + j) else none))))))) (h9 : F (N0 + 188) = some (.inl (cI, 20, .inl (fun _ => 0)))) : Met l yX10_similarity wsX10_similarity ({ frames := 3, cells := 4, slots := 2, locals := 72 }) (va_Pc [.ref (N0 + 164), .int 0, .int 1] (fP N0 D vwCl (fty cI cC cL cD cII cTr cTm cIt cB) (fen ql) F n)) (fQd N0 D vwCl (fty cI cC cL cD cII cTr cTm cIt cB) (fun (r : UInt64) (_ : Unit) => r = 4607182418800017408) (fun _ => (fblk (fu (fu F (N0 + 164) (.inr (12, [.ref (N0 + 165), .int 0, .ref (N0 + 181), .int 0, .int 0, .int 0, .int (-1), .ref (ql 24), .ref (N0 + 182), .ref (N0 + 187), .ref (N0 + 208), .ref (N0 + 209), .ref (N0 + 210), .ref (N0 + 211), .ref (N0 + 212), .int 0, .ref (N0 + 213), .ref (N0 + 218), .ref (N0 + 223), .ref (N0 + 224), .ref (N0 + 225), .ref (N0 + 226), .ref (N0 + 227), .int 0, .int 0, .ref (N0 + 228), .null, .int (-1), .int 0, .int 0, .int 0]))) (N0 + 188) (.inl (cI, 20, .inl (upd (fun _ => 0) 0 0)))) n [.inl (cI, 0, .inl (fun _ => 0)), .inl (cI, 0, .inl (fun _ => 0)), .inl (cII, 1, .inr (.inr (.inr (.inr (fun j => if j < 1 then some ((n + 3) + j) else none))))), .inl (cI, 1, .inl (fun _ => 0))])) (fun _ => (n + 4))) 4 2 (fA N0) := by
  refine fx_start 3 rfl rfl (Nat.le_of_ble_eq_true rfl) ?_ rfl
  intro p e s m below meth c ls S hr hlocks hin hG hl
  have hl : lv_has ls 3 [(0, .ref (N0 + 164)), (1, .int 0), (2, .int 1)] := hl
  have lt_h0 := hG.1.lt h0
  have lt_h1 := hG.1.lt h1
  have lt_h2 := hG.1.lt h2
  have lt_h3 := hG.1.lt h3
  have lt_h4 := hG.1.lt h4
  have lt_h5 := hG.1.lt h5
  have lt_h6 := hG.1.lt h6
  have lt_h7 := hG.1.lt h7
  have lt_h8 := hG.1.lt h8
  have lt_h9 := hG.1.lt h9
  refine lv_aload_n S.1 S.2.1 dX10_similarity_0 rfl (lv_at hl 0 rfl) ?_
  refine lv_iload_n S.1 S.2.1 dX10_similarity_1 rfl (lv_at hl 1 rfl) ?_
  refine lv_iload_n S.1 S.2.1 dX10_similarity_2 rfl (lv_at hl 2 rfl) ?_
  refine fx_cVi (As := [.int 0, .int 1]) (rest := []) S hG (k467_X10_areNone (by omega) h0) h0 rfl (cwV 2 S.2.2.2.2 gX10_similarity_X10_areNone rfl rfl rfl (by decide +kernel) ⟨Nat.le_of_ble_eq_true rfl, Nat.le_of_ble_eq_true rfl⟩) rfl hl.1 rfl (Nat.le_of_ble_eq_true rfl) dX10_similarity_3 ⟨Nat.le_of_ble_eq_true rfl, Nat.le_of_ble_eq_true rfl⟩ (fun rv_1 _ H locs hp hG => ?_)
  subst rv_1
  refine lv_if_eq (tgt := 11) S.1 S.2.1 dX10_similarity_6 (by decide) (fun _ => ?_) (fun c => absurd (by decide) c)
  refine gx_dconst1 (v := 4607182418800017408) S (by decide +kernel) dX10_similarity_11 ?_
  refine lv_aload_n S.1 S.2.1 dX10_similarity_12 rfl (lv_at hl 0 rfl) ?_
  refine lv_aload_n S.1 S.2.1 dX10_similarity_13 rfl (lv_at hl 0 rfl) ?_
  refine gx_get (C := RX10) (T := TX10) (N := 31) S hG fu_s i_X10_similarity_X10 rfl 0 (by decide) (by decide +kernel) rfl dX10_similarity_14 ?_
  refine lv_iload_n S.1 S.2.1 dX10_similarity_17 rfl (lv_at hl 1 rfl) ?_
  refine gx_aldq (x := (N0 + 166)) S hG 6 rfl (fu_at (by omega) h1) rfl (fin_l (by decide)) (rfl) dX10_similarity_18 ?_
  refine lv_aload_n S.1 S.2.1 dX10_similarity_19 rfl (lv_at hl 0 rfl) ?_
  refine gx_get (C := RX10) (T := TX10) (N := 31) S hG fu_s i_X10_similarity_X10 rfl 0 (by decide) (by decide +kernel) rfl dX10_similarity_20 ?_
  refine lv_iload_n S.1 S.2.1 dX10_similarity_23 rfl (lv_at hl 2 rfl) ?_
  refine gx_aldq (x := (N0 + 171)) S hG 6 rfl (fu_at (by omega) h1) rfl (fin_l (by decide)) (rfl) dX10_similarity_24 ?_
  refine fx_cVi (As := [.ref (N0 + 166), .ref (N0 + 171)]) (rest := [.double 4607182418800017408]) S hG (k1204_X10_fills (by omega) (fu_at (by omega) h2) (fu_at (by omega) h3) (fu_at (by omega) h4) (fu_at (by omega) h5) (fu_at (by omega) h6) (fu_at (by omega) h7) fu_s (fu_at (by omega) h8) (fu_at (by omega) h9)) fu_s rfl (cwV 2 S.2.2.2.2 gX10_similarity_X10_fills rfl rfl rfl (by decide +kernel) ⟨Nat.le_of_ble_eq_true rfl, Nat.le_of_ble_eq_true rfl⟩) rfl hl.1 rfl (Nat.le_of_ble_eq_true rfl) dX10_similarity_25 ⟨Nat.le_of_ble_eq_true rfl, Nat.le_of_ble_eq_true rfl⟩ (fun rv_2 _ H locs hp hG => ?_)
  subst rv_2
  refine W.widen (k := 4) (n := 2) (by decide) (by decide) ?_
  refine gx_i2d (v := 0) S (by decide +kernel) dX10_similarity_28 ?_
  refine lv_iconst (v := 2) S.1 S.2.1 dX10_similarity_29 (by decide) ?_
  refine lv_aload_n S.1 S.2.1 dX10_similarity_30 rfl (lv_at hl 0 rfl) ?_
  refine gx_get (C := RX10) (T := TX10) (N := 31) S hG (fblk_sk 4 rfl (by omega) (fu_at (by omega) fu_s)) i_X10_similarity_X10 rfl 0 (by decide) (by decide +kernel) rfl dX10_similarity_31 ?_
  refine lv_iload_n S.1 S.2.1 dX10_similarity_34 rfl (lv_at hl 1 rfl) ?_
  refine gx_aldq (x := (N0 + 166)) S hG 6 rfl (fblk_sk 4 rfl (by omega) (fu_at (by omega) (fu_at (by omega) h1))) rfl (fin_l (by decide)) (rfl) dX10_similarity_35 ?_
  refine gx_getN (C := RX9) (T := TX9) (N := 5) S hG (fblk_sk 4 rfl (by omega) (fu_at (by omega) (fu_at (by omega) h2))) i_X10_similarity_X9 rfl 4 (by decide) (List.mem_of_getElem? (i := 4) rfl) rfl dX10_similarity_36 ?_
  refine lv_aload_n S.1 S.2.1 dX10_similarity_39 rfl (lv_at hl 0 rfl) ?_
  refine gx_get (C := RX10) (T := TX10) (N := 31) S hG (fblk_sk 4 rfl (by omega) (fu_at (by omega) fu_s)) i_X10_similarity_X10 rfl 0 (by decide) (by decide +kernel) rfl dX10_similarity_40 ?_
  refine lv_iload_n S.1 S.2.1 dX10_similarity_43 rfl (lv_at hl 2 rfl) ?_
  refine gx_aldq (x := (N0 + 171)) S hG 6 rfl (fblk_sk 4 rfl (by omega) (fu_at (by omega) (fu_at (by omega) h1))) rfl (fin_l (by decide)) (rfl) dX10_similarity_44 ?_
  refine gx_getN (C := RX9) (T := TX9) (N := 5) S hG (fblk_sk 4 rfl (by omega) (fu_at (by omega) (fu_at (by omega) h3))) i_X10_similarity_X9 rfl 4 (by decide) (List.mem_of_getElem? (i := 4) rfl) rfl dX10_similarity_45 ?_
  refine lv_iadd S.1 S.2.1 dX10_similarity_48 ?_
  refine fx_topi (y := 2) (by decide) ?_
  refine lv_imul S.1 S.2.1 dX10_similarity_49 ?_
  refine fx_topi (y := 4) (by decide) ?_
  refine gx_i2d (v := 4616189618054758400) S (by decide +kernel) dX10_similarity_50 ?_
  refine gx_ddiv (v := 0) S (by decide +kernel) (by unfold vf_n64; decide +kernel) dX10_similarity_51 ?_
  refine gx_dsub (v := 4607182418800017408) S (by decide +kernel) (by unfold vf_n64; decide +kernel) dX10_similarity_52 ?_
  have hG : fG N0 D vwCl (fty cI cC cL cD cII cTr cTm cIt cB) (fen ql) s (fblk (fu (fu F (N0 + 164) (.inr (12, [.ref (N0 + 165), .int 0, .ref (N0 + 181), .int 0, .int 0, .int 0, .int (-1), .ref (ql 24), .ref (N0 + 182), .ref (N0 + 187), .ref (N0 + 208), .ref (N0 + 209), .ref (N0 + 210), .ref (N0 + 211), .ref (N0 + 212), .int 0, .ref (N0 + 213), .ref (N0 + 218), .ref (N0 + 223), .ref (N0 + 224), .ref (N0 + 225), .ref (N0 + 226), .ref (N0 + 227), .int 0, .int 0, .ref (N0 + 228), .null, .int (-1), .int 0, .int 0, .int 0]))) (N0 + 188) (.inl (cI, 20, .inl (upd (fun _ => 0) 0 0)))) n [.inl (cI, 0, .inl (fun _ => 0)), .inl (cI, 0, .inl (fun _ => 0)), .inl (cII, 1, .inr (.inr (.inr (.inr (fun j => if j < 1 then some ((n + 3) + j) else none))))), .inl (cI, 1, .inl (fun _ => 0))]) (n + 4) H locs := hG.weak (fun a e h => by
    rcases fblk_cases 4 rfl h with ⟨k, rfl, hlt, hk⟩ | ⟨hout, h⟩
    · rcases (show k = 0 ∨ k = 1 ∨ k = 2 ∨ k = 3 by omega) with rfl | rfl | rfl | rfl
      · cases (show some (.inl (cI, 0, .inl (fun _ => 0))) = some e from hk); exact (fblk_at 0 (by omega) rfl)
      · cases (show some (.inl (cI, 0, .inl (fun _ => 0))) = some e from hk); exact (fblk_at 1 (by omega) rfl)
      · cases (show some (.inl (cII, 1, .inr (.inr (.inr (.inr (fun j => if j < 1 then some ((n + 3) + j) else none)))))) = some e from hk); exact (fblk_at 2 (by omega) rfl)
      · cases (show some (.inl (cI, 1, .inl (fun _ => 0))) = some e from hk); exact (fblk_at 3 (by omega) rfl)
    · rcases fu_cases h with ⟨rfl, he⟩ | ⟨hne0, h⟩
      · cases he; exact (fblk_sk 4 rfl (by omega) fu_s)
      · skip
        rcases fu_cases h with ⟨rfl, he⟩ | ⟨hne1, h⟩
        · cases he; exact (fblk_sk 4 rfl (by omega) (fu_at (by omega) fu_s))
        · exact (fblk_sk 4 rfl (by omega) (fu_at (by omega) (fu_at (by omega) h))))
  exact fx_dret S hr hlocks () hG (rfl) dX10_similarity_53
theorem k1383_X7_similarity {n : Nat} (hn : N0 + 231 ≤ n) (h0 : F N0 = some (.inr (9, [.ref (N0 + 1), .ref (N0 + 2), .ref (N0 + 11), .ref (N0 + 13), .ref (N0 + 63), .ref (N0 + 65), .ref (N0 + 85), .int (-1), .int (-1), .int 32]))) (h1 : F (N0 + 1) = some (.inl (cTr, 3, .inr (.inr (.inr (.inr (va_up (va_up (va_up (fun _ => none) 0 (some (N0 + 143))) 1 (some (N0 + 150))) 2 (some (N0 + 157))))))))) (h2 : F (N0 + 13) = some (.inr (3, [.ref (N0 + 14), .ref (N0 + 35), .ref (N0 + 57), .ref (N0 + 58), .ref (N0 + 59), .ref (N0 + 60), .int 0, .int 0, .ref (N0 + 61), .ref (N0 + 62)]))) (h3 : F (N0 + 143) = some (.inr (7, [.ref (N0 + 144), .ref (N0 + 145), .ref (N0 + 146), .ref (N0 + 147), .ref (N0 + 148), .ref (N0 + 149), .int 1]))) (h4 : F (N0 + 57) = some (.inl (cI, 20, .inl (fun _ => 0)))) (h5 : F (N0 + 157) = some (.inr (7, [.ref (N0 + 158), .ref (N0 + 159), .ref (N0 + 160), .ref (N0 + 161), .ref (N0 + 162), .ref (N0 + 163), .int 1]))) (h6 : F (N0 + 58) = some (.inl (cI, 20, .inl (fun _ => 0)))) (h7 : F (N0 + 35) = some (.inl (cII, 21, .inr (.inr (.inr (.inr (fun j => if j < 21 then some ((N0 + 36) + j) else none))))))) (h8 : F (N0 + 36) = some (.inl (cI, 21, .inl (fun _ => 0)))) (h9 : F (N0 + 14) = some (.inl (cII, 20, .inr (.inr (.inr (.inr (fun j => if j < 20 then some ((N0 + 15) + j) else none))))))) (h10 : F (N0 + 144) = some (.inl (cC, 20, .inl (upd (fun _ => 0) 0 97)))) (h11 : F (N0 + 158) = some (.inl (cC, 20, .inl (upd (fun _ => 0) 0 97)))) (h12 : F (N0 + 146) = some (.inl (cI, 20, .inl (fun _ => 0)))) (h13 : F (N0 + 160) = some (.inl (cI, 20, .inl (fun _ => 0)))) (h14 : F (N0 + 15) = some (.inl (cI, 20, .inl (fun _ => 0)))) : Met l yX7_similarity wsX7_similarity ({ frames := 3, cells := 0, slots := 0, locals := 73 }) (va_Pc [.ref N0, .int 0, .int 2] (fP N0 D vwCl (fty cI cC cL cD cII cTr cTm cIt cB) (fen ql) F n)) (fQd N0 D vwCl (fty cI cC cL cD cII cTr cTm cIt cB) (fun (r : UInt64) (_ : Unit) => r = 4607182418800017408) (fun _ => (fu (fu (fu (fu (fu F (N0 + 57) (.inl (cI, 20, .inl (upd (fun _ => 0) 0 1)))) (N0 + 58) (.inl (cI, 20, .inl (upd (fun _ => 0) 0 1)))) (N0 + 13) (.inr (3, [.ref (N0 + 14), .ref (N0 + 35), .ref (N0 + 57), .ref (N0 + 58), .ref (N0 + 59), .ref (N0 + 60), .int 0, .int 0, .ref (N0 + 61), .ref (N0 + 62)]))) (N0 + 36) (.inl (cI, 21, .inl (upd (fun _ => 0) 0 0)))) (N0 + 15) (.inl (cI, 20, .inl (upd (fun _ => 0) 0 0))))) (fun _ => n)) 0 0 (fA N0) := by
  refine fx_start 9 rfl rfl (Nat.le_of_ble_eq_true rfl) ?_ rfl
  intro p e s m below meth c ls S hr hlocks hin hG hl
  have hl : lv_has ls 9 [(0, .ref N0), (1, .int 0), (2, .int 2)] := hl
  have lt_h0 := hG.1.lt h0
  have lt_h1 := hG.1.lt h1
  have lt_h2 := hG.1.lt h2
  have lt_h3 := hG.1.lt h3
  have lt_h4 := hG.1.lt h4
  have lt_h5 := hG.1.lt h5
  have lt_h6 := hG.1.lt h6
  have lt_h7 := hG.1.lt h7
  have lt_h8 := hG.1.lt h8
  have lt_h9 := hG.1.lt h9
  have lt_h10 := hG.1.lt h10
  have lt_h11 := hG.1.lt h11
  have lt_h12 := hG.1.lt h12
  have lt_h13 := hG.1.lt h13
  have lt_h14 := hG.1.lt h14
  refine lv_aload_n S.1 S.2.1 dX7_similarity_0 rfl (lv_at hl 0 rfl) ?_
  refine lv_iload_n S.1 S.2.1 dX7_similarity_1 rfl (lv_at hl 1 rfl) ?_
  refine fx_cVr (As := [.int 0]) (rest := []) S hG (k26_X7_treeAt (by omega) h0 h1) h0 rfl (cwV 1 S.2.2.2.2 gX7_similarity_X7_treeAt rfl rfl rfl (by decide +kernel) ⟨Nat.le_of_ble_eq_true rfl, Nat.le_of_ble_eq_true rfl⟩) rfl hl.1 rfl (Nat.le_of_ble_eq_true rfl) dX7_similarity_2 ⟨Nat.le_of_ble_eq_true rfl, Nat.le_of_ble_eq_true rfl⟩ (fun rv_1 _ H locs hp hG => ?_)
  subst rv_1
  refine lv_astore_n (lv' := [(3, .ref (N0 + 143)), (0, .ref N0), (1, .int 0), (2, .int 2)]) S.1 S.2.1 dX7_similarity_5 rfl hl (by decide) rfl (fun ls hl => ?_)
  refine lv_aload_n S.1 S.2.1 dX7_similarity_6 rfl (lv_at hl 1 rfl) ?_
  refine lv_iload_n S.1 S.2.1 dX7_similarity_7 rfl (lv_at hl 3 rfl) ?_
  refine fx_cVr (As := [.int 2]) (rest := []) S hG (k48_X7_treeAt (by omega) h0 h1) h0 rfl (cwV 1 S.2.2.2.2 gX7_similarity_X7_treeAt rfl rfl rfl (by decide +kernel) ⟨Nat.le_of_ble_eq_true rfl, Nat.le_of_ble_eq_true rfl⟩) rfl hl.1 rfl (Nat.le_of_ble_eq_true rfl) dX7_similarity_8 ⟨Nat.le_of_ble_eq_true rfl, Nat.le_of_ble_eq_true rfl⟩ (fun rv_2 _ H locs hp hG => ?_)
  subst rv_2
  refine lv_astore (lv' := [(4, .ref (N0 + 157)), (3, .ref (N0 + 143)), (0, .ref N0), (1, .int 0), (2, .int 2)]) S.1 S.2.1 dX7_similarity_11 hl (by decide) rfl (fun ls hl => ?_)
  refine lv_aload_n S.1 S.2.1 dX7_similarity_13 rfl (lv_at hl 2 rfl) ?_
  refine gx_get (C := RX7) (T := TX7) (N := 10) S hG h0 i_X7_similarity_X7 rfl 3 (by decide) (by decide +kernel) rfl dX7_similarity_14 ?_
  refine lv_aload_n S.1 S.2.1 dX7_similarity_17 rfl (lv_at hl 1 rfl) ?_
  refine lv_aload S.1 S.2.1 dX7_similarity_18 (lv_at hl 0 rfl) ?_
  refine fx_cVi (As := [.ref (N0 + 143), .ref (N0 + 157)]) (rest := []) S hG (k1211_X1_leastCost (by omega) h2 h3 h4 h5 h6 h7 h8 h9 h10 h11 h12 h13 h14) h2 rfl (cwV 2 S.2.2.2.2 gX7_similarity_X1_leastCost rfl rfl rfl (by decide +kernel) ⟨Nat.le_of_ble_eq_true rfl, Nat.le_of_ble_eq_true rfl⟩) rfl hl.1 rfl (Nat.le_of_ble_eq_true rfl) dX7_similarity_20 ⟨Nat.le_of_ble_eq_true rfl, Nat.le_of_ble_eq_true rfl⟩ (fun rv_3 _ H locs hp hG => ?_)
  subst rv_3
  refine gx_i2d (v := 0) S (by decide +kernel) dX7_similarity_23 ?_
  refine lv_dstore (lv' := [(5, .double 0), (4, .ref (N0 + 157)), (3, .ref (N0 + 143)), (0, .ref N0), (1, .int 0), (2, .int 2)]) S.1 S.2.1 dX7_similarity_24 hl (by decide) rfl (fun ls hl => ?_)
  refine lv_iconst (v := 2) S.1 S.2.1 dX7_similarity_26 (by decide) ?_
  refine lv_aload_n S.1 S.2.1 dX7_similarity_27 rfl (lv_at hl 2 rfl) ?_
  refine gx_get (C := RX5) (T := TX5) (N := 7) S hG (fu_at (by omega) (fu_at (by omega) (fu_at (by omega) (fu_at (by omega) (fu_at (by omega) h3))))) i_X7_similarity_X5 rfl 6 (by decide) (by decide +kernel) rfl dX7_similarity_28 ?_
  refine lv_aload S.1 S.2.1 dX7_similarity_31 (lv_at hl 1 rfl) ?_
  refine gx_get (C := RX5) (T := TX5) (N := 7) S hG (fu_at (by omega) (fu_at (by omega) (fu_at (by omega) (fu_at (by omega) (fu_at (by omega) h5))))) i_X7_similarity_X5 rfl 6 (by decide) (by decide +kernel) rfl dX7_similarity_33 ?_
  refine lv_iadd S.1 S.2.1 dX7_similarity_36 ?_
  refine fx_topi (y := 2) (by decide) ?_
  refine lv_imul S.1 S.2.1 dX7_similarity_37 ?_
  refine fx_topi (y := 4) (by decide) ?_
  refine gx_i2d (v := 4616189618054758400) S (by decide +kernel) dX7_similarity_38 ?_
  refine lv_dstore (lv' := [(7, .double 4616189618054758400), (5, .double 0), (4, .ref (N0 + 157)), (3, .ref (N0 + 143)), (0, .ref N0), (1, .int 0), (2, .int 2)]) S.1 S.2.1 dX7_similarity_39 hl (by decide) rfl (fun ls hl => ?_)
  refine lv_dload S.1 S.2.1 dX7_similarity_41 (lv_at hl 0 rfl) ?_
  refine gx_dconst0 (v := 0) S (by decide +kernel) dX7_similarity_43 ?_
  refine gx_dcmp (v := 1) S (by decide +kernel) dX7_similarity_44 ?_
  refine lv_if_le (tgt := 58) S.1 S.2.1 dX7_similarity_45 (by decide) (fun c => absurd c (by decide)) (fun _ => ?_)
  refine gx_dconst1 (v := 4607182418800017408) S (by decide +kernel) dX7_similarity_48 ?_
  refine lv_dload S.1 S.2.1 dX7_similarity_49 (lv_at hl 1 rfl) ?_
  refine lv_dload S.1 S.2.1 dX7_similarity_51 (lv_at hl 0 rfl) ?_
  refine gx_ddiv (v := 0) S (by decide +kernel) (by unfold vf_n64; decide +kernel) dX7_similarity_53 ?_
  refine gx_dsub (v := 4607182418800017408) S (by decide +kernel) (by unfold vf_n64; decide +kernel) dX7_similarity_54 ?_
  refine lv_goto (tgt := 59) S.1 S.2.1 dX7_similarity_55 (by decide) ?_
  exact fx_dret S hr hlocks () hG (rfl) dX7_similarity_59
theorem k1384_L_similarity {n : Nat} (hn : N0 + 231 ≤ n) (h0 : F N0 = some (.inr (9, [.ref (N0 + 1), .ref (N0 + 2), .ref (N0 + 11), .ref (N0 + 13), .ref (N0 + 63), .ref (N0 + 65), .ref (N0 + 85), .int (-1), .int (-1), .int 32]))) (h1 : F (N0 + 1) = some (.inl (cTr, 3, .inr (.inr (.inr (.inr (va_up (va_up (va_up (fun _ => none) 0 (some (N0 + 143))) 1 (some (N0 + 150))) 2 (some (N0 + 157))))))))) (h2 : F (N0 + 13) = some (.inr (3, [.ref (N0 + 14), .ref (N0 + 35), .ref (N0 + 57), .ref (N0 + 58), .ref (N0 + 59), .ref (N0 + 60), .int 0, .int 0, .ref (N0 + 61), .ref (N0 + 62)]))) (h3 : F (N0 + 143) = some (.inr (7, [.ref (N0 + 144), .ref (N0 + 145), .ref (N0 + 146), .ref (N0 + 147), .ref (N0 + 148), .ref (N0 + 149), .int 1]))) (h4 : F (N0 + 57) = some (.inl (cI, 20, .inl (fun _ => 0)))) (h5 : F (N0 + 157) = some (.inr (7, [.ref (N0 + 158), .ref (N0 + 159), .ref (N0 + 160), .ref (N0 + 161), .ref (N0 + 162), .ref (N0 + 163), .int 1]))) (h6 : F (N0 + 58) = some (.inl (cI, 20, .inl (fun _ => 0)))) (h7 : F (N0 + 35) = some (.inl (cII, 21, .inr (.inr (.inr (.inr (fun j => if j < 21 then some ((N0 + 36) + j) else none))))))) (h8 : F (N0 + 36) = some (.inl (cI, 21, .inl (fun _ => 0)))) (h9 : F (N0 + 14) = some (.inl (cII, 20, .inr (.inr (.inr (.inr (fun j => if j < 20 then some ((N0 + 15) + j) else none))))))) (h10 : F (N0 + 144) = some (.inl (cC, 20, .inl (upd (fun _ => 0) 0 97)))) (h11 : F (N0 + 158) = some (.inl (cC, 20, .inl (upd (fun _ => 0) 0 97)))) (h12 : F (N0 + 146) = some (.inl (cI, 20, .inl (fun _ => 0)))) (h13 : F (N0 + 160) = some (.inl (cI, 20, .inl (fun _ => 0)))) (h14 : F (N0 + 15) = some (.inl (cI, 20, .inl (fun _ => 0)))) (h15 : F (N0 + 230) = some (.inl (cD, 1, .inr (.inr (.inr (.inl (fun _ => 0))))))) : Met l yL_similarity wsL_similarity ({ frames := 4, cells := 0, slots := 0, locals := 101 }) (va_Pc [.ref N0, .int 0, .int 2, .ref (N0 + 230)] (fP N0 D vwCl (fty cI cC cL cD cII cTr cTm cIt cB) (fen ql) F n)) (fQi N0 D vwCl (fty cI cC cL cD cII cTr cTm cIt cB) (fun (r : Int32) (_ : Unit) => r = 0) (fun _ => (fu (fu (fu (fu (fu (fu F (N0 + 57) (.inl (cI, 20, .inl (upd (fun _ => 0) 0 1)))) (N0 + 58) (.inl (cI, 20, .inl (upd (fun _ => 0) 0 1)))) (N0 + 13) (.inr (3, [.ref (N0 + 14), .ref (N0 + 35), .ref (N0 + 57), .ref (N0 + 58), .ref (N0 + 59), .ref (N0 + 60), .int 0, .int 0, .ref (N0 + 61), .ref (N0 + 62)]))) (N0 + 36) (.inl (cI, 21, .inl (upd (fun _ => 0) 0 0)))) (N0 + 15) (.inl (cI, 20, .inl (upd (fun _ => 0) 0 0)))) (N0 + 230) (.inl (cD, 1, .inr (.inr (.inr (.inl (vf_upd (fun _ => 0) 0 4607182418800017408)))))))) (fun _ => n)) 0 0 (fA N0) := by
  refine fx_startW (hh := [(0, 9, 12, 19)]) 5 rfl rfl (Nat.le_of_ble_eq_true rfl) ?_ rfl
  intro p e s m below meth c ls S htab hr hlocks hG hl
  have hl : lv_has ls 5 [(0, .ref N0), (1, .int 0), (2, .int 2), (3, .ref (N0 + 230))] := hl
  have lt_h0 := hG.1.lt h0
  have lt_h1 := hG.1.lt h1
  have lt_h2 := hG.1.lt h2
  have lt_h3 := hG.1.lt h3
  have lt_h4 := hG.1.lt h4
  have lt_h5 := hG.1.lt h5
  have lt_h6 := hG.1.lt h6
  have lt_h7 := hG.1.lt h7
  have lt_h8 := hG.1.lt h8
  have lt_h9 := hG.1.lt h9
  have lt_h10 := hG.1.lt h10
  have lt_h11 := hG.1.lt h11
  have lt_h12 := hG.1.lt h12
  have lt_h13 := hG.1.lt h13
  have lt_h14 := hG.1.lt h14
  have lt_h15 := hG.1.lt h15
  refine lv_aload_n S.1 S.2.1 dL_similarity_0 rfl (lv_at hl 3 rfl) ?_
  refine lv_iconst (v := 0) S.1 S.2.1 dL_similarity_1 (by decide) ?_
  refine lv_aload_n S.1 S.2.1 dL_similarity_2 rfl (lv_at hl 0 rfl) ?_
  refine lv_iload_n S.1 S.2.1 dL_similarity_3 rfl (lv_at hl 1 rfl) ?_
  refine lv_iload_n S.1 S.2.1 dL_similarity_4 rfl (lv_at hl 2 rfl) ?_
  refine fx_cVd (As := [.int 0, .int 2]) (rest := [.int 0, .ref (N0 + 230)]) S hG (k1383_X7_similarity (by omega) h0 h1 h2 h3 h4 h5 h6 h7 h8 h9 h10 h11 h12 h13 h14) h0 rfl (cwV 2 S.2.2.2.2 gL_similarity_X7_similarity rfl rfl rfl (by decide +kernel) ⟨Nat.le_of_ble_eq_true rfl, Nat.le_of_ble_eq_true rfl⟩) rfl hl.1 rfl (Nat.le_of_ble_eq_true rfl) dL_similarity_5 ⟨Nat.le_of_ble_eq_true rfl, Nat.le_of_ble_eq_true rfl⟩ (fun rv_1 _ H locs hp hG => ?_)
  subst rv_1
  refine gx_dast (f' := vf_upd (fun _ => 0) 0 4607182418800017408) S hG 3 (fu_at (by omega) (fu_at (by omega) (fu_at (by omega) (fu_at (by omega) (fu_at (by omega) h15))))) rfl (fin_l (by decide)) dL_similarity_8 rfl (fun H locs hG => ?_)
  refine lv_goto (tgt := 16) S.1 S.2.1 dL_similarity_9 (by decide) ?_
  refine lv_iconst (v := 0) S.1 S.2.1 dL_similarity_16 (by decide) ?_
  exact fx_iret S hr hlocks () hG (rfl) dL_similarity_17
theorem k1385_X10_similarity {n : Nat} (hn : N0 + 231 ≤ n) (h0 : F (N0 + 164) = some (.inr (12, [.ref (N0 + 165), .int 0, .ref (N0 + 181), .int 0, .int 0, .int 0, .int (-1), .ref (ql 24), .ref (N0 + 182), .ref (N0 + 187), .ref (N0 + 208), .ref (N0 + 209), .ref (N0 + 210), .ref (N0 + 211), .ref (N0 + 212), .int 0, .ref (N0 + 213), .ref (N0 + 218), .ref (N0 + 223), .ref (N0 + 224), .ref (N0 + 225), .ref (N0 + 226), .ref (N0 + 227), .int 0, .int 0, .ref (N0 + 228), .null, .int (-1), .int 0, .int 0, .int 0]))) (h1 : F (N0 + 165) = some (.inl (cTm, 3, .inr (.inr (.inr (.inr (va_up (va_up (va_up (fun _ => none) 0 (some (N0 + 166))) 1 (some (N0 + 171))) 2 (some (N0 + 176))))))))) (h2 : F (N0 + 166) = some (.inr (11, [.ref (N0 + 167), .ref (N0 + 168), .ref (N0 + 169), .ref (N0 + 170), .int 1]))) (h3 : F (N0 + 176) = some (.inr (11, [.ref (N0 + 177), .ref (N0 + 178), .ref (N0 + 179), .ref (N0 + 180), .int 1]))) (h4 : F (N0 + 167) = some (.inl (cI, 20, .inl (upd (fun _ => 0) 0 97)))) (h5 : F (N0 + 177) = some (.inl (cI, 20, .inl (upd (fun _ => 0) 0 97)))) (h6 : F (N0 + 169) = some (.inl (cI, 20, .inl (upd (fun _ => 0) 0 0)))) (h7 : F (N0 + 179) = some (.inl (cI, 20, .inl (upd (fun _ => 0) 0 0)))) (h8 : F (N0 + 187) = some (.inl (cII, 20, .inr (.inr (.inr (.inr (fun j => if j < 20 then some ((N0 + 188) + j) else none))))))) (h9 : F (N0 + 188) = some (.inl (cI, 20, .inl (fun _ => 0)))) : Met l yX10_similarity wsX10_similarity ({ frames := 3, cells := 4, slots := 2, locals := 72 }) (va_Pc [.ref (N0 + 164), .int 0, .int 2] (fP N0 D vwCl (fty cI cC cL cD cII cTr cTm cIt cB) (fen ql) F n)) (fQd N0 D vwCl (fty cI cC cL cD cII cTr cTm cIt cB) (fun (r : UInt64) (_ : Unit) => r = 4607182418800017408) (fun _ => (fblk (fu (fu F (N0 + 164) (.inr (12, [.ref (N0 + 165), .int 0, .ref (N0 + 181), .int 0, .int 0, .int 0, .int (-1), .ref (ql 24), .ref (N0 + 182), .ref (N0 + 187), .ref (N0 + 208), .ref (N0 + 209), .ref (N0 + 210), .ref (N0 + 211), .ref (N0 + 212), .int 0, .ref (N0 + 213), .ref (N0 + 218), .ref (N0 + 223), .ref (N0 + 224), .ref (N0 + 225), .ref (N0 + 226), .ref (N0 + 227), .int 0, .int 0, .ref (N0 + 228), .null, .int (-1), .int 0, .int 0, .int 0]))) (N0 + 188) (.inl (cI, 20, .inl (upd (fun _ => 0) 0 0)))) n [.inl (cI, 0, .inl (fun _ => 0)), .inl (cI, 0, .inl (fun _ => 0)), .inl (cII, 1, .inr (.inr (.inr (.inr (fun j => if j < 1 then some ((n + 3) + j) else none))))), .inl (cI, 1, .inl (fun _ => 0))])) (fun _ => (n + 4))) 4 2 (fA N0) := by
  refine fx_start 3 rfl rfl (Nat.le_of_ble_eq_true rfl) ?_ rfl
  intro p e s m below meth c ls S hr hlocks hin hG hl
  have hl : lv_has ls 3 [(0, .ref (N0 + 164)), (1, .int 0), (2, .int 2)] := hl
  have lt_h0 := hG.1.lt h0
  have lt_h1 := hG.1.lt h1
  have lt_h2 := hG.1.lt h2
  have lt_h3 := hG.1.lt h3
  have lt_h4 := hG.1.lt h4
  have lt_h5 := hG.1.lt h5
  have lt_h6 := hG.1.lt h6
  have lt_h7 := hG.1.lt h7
  have lt_h8 := hG.1.lt h8
  have lt_h9 := hG.1.lt h9
  refine lv_aload_n S.1 S.2.1 dX10_similarity_0 rfl (lv_at hl 0 rfl) ?_
  refine lv_iload_n S.1 S.2.1 dX10_similarity_1 rfl (lv_at hl 1 rfl) ?_
  refine lv_iload_n S.1 S.2.1 dX10_similarity_2 rfl (lv_at hl 2 rfl) ?_
  refine fx_cVi (As := [.int 0, .int 2]) (rest := []) S hG (k474_X10_areNone (by omega) h0) h0 rfl (cwV 2 S.2.2.2.2 gX10_similarity_X10_areNone rfl rfl rfl (by decide +kernel) ⟨Nat.le_of_ble_eq_true rfl, Nat.le_of_ble_eq_true rfl⟩) rfl hl.1 rfl (Nat.le_of_ble_eq_true rfl) dX10_similarity_3 ⟨Nat.le_of_ble_eq_true rfl, Nat.le_of_ble_eq_true rfl⟩ (fun rv_1 _ H locs hp hG => ?_)
  subst rv_1
  refine lv_if_eq (tgt := 11) S.1 S.2.1 dX10_similarity_6 (by decide) (fun _ => ?_) (fun c => absurd (by decide) c)
  refine gx_dconst1 (v := 4607182418800017408) S (by decide +kernel) dX10_similarity_11 ?_
  refine lv_aload_n S.1 S.2.1 dX10_similarity_12 rfl (lv_at hl 0 rfl) ?_
  refine lv_aload_n S.1 S.2.1 dX10_similarity_13 rfl (lv_at hl 0 rfl) ?_
  refine gx_get (C := RX10) (T := TX10) (N := 31) S hG fu_s i_X10_similarity_X10 rfl 0 (by decide) (by decide +kernel) rfl dX10_similarity_14 ?_
  refine lv_iload_n S.1 S.2.1 dX10_similarity_17 rfl (lv_at hl 1 rfl) ?_
  refine gx_aldq (x := (N0 + 166)) S hG 6 rfl (fu_at (by omega) h1) rfl (fin_l (by decide)) (rfl) dX10_similarity_18 ?_
  refine lv_aload_n S.1 S.2.1 dX10_similarity_19 rfl (lv_at hl 0 rfl) ?_
  refine gx_get (C := RX10) (T := TX10) (N := 31) S hG fu_s i_X10_similarity_X10 rfl 0 (by decide) (by decide +kernel) rfl dX10_similarity_20 ?_
  refine lv_iload_n S.1 S.2.1 dX10_similarity_23 rfl (lv_at hl 2 rfl) ?_
  refine gx_aldq (x := (N0 + 176)) S hG 6 rfl (fu_at (by omega) h1) rfl (fin_l (by decide)) (rfl) dX10_similarity_24 ?_
  refine fx_cVi (As := [.ref (N0 + 166), .ref (N0 + 176)]) (rest := [.double 4607182418800017408]) S hG (k1215_X10_fills (by omega) (fu_at (by omega) h2) (fu_at (by omega) h3) (fu_at (by omega) h4) (fu_at (by omega) h5) (fu_at (by omega) h6) (fu_at (by omega) h7) fu_s (fu_at (by omega) h8) (fu_at (by omega) h9)) fu_s rfl (cwV 2 S.2.2.2.2 gX10_similarity_X10_fills rfl rfl rfl (by decide +kernel) ⟨Nat.le_of_ble_eq_true rfl, Nat.le_of_ble_eq_true rfl⟩) rfl hl.1 rfl (Nat.le_of_ble_eq_true rfl) dX10_similarity_25 ⟨Nat.le_of_ble_eq_true rfl, Nat.le_of_ble_eq_true rfl⟩ (fun rv_2 _ H locs hp hG => ?_)
  subst rv_2
  refine W.widen (k := 4) (n := 2) (by decide) (by decide) ?_
  refine gx_i2d (v := 0) S (by decide +kernel) dX10_similarity_28 ?_
  refine lv_iconst (v := 2) S.1 S.2.1 dX10_similarity_29 (by decide) ?_
  refine lv_aload_n S.1 S.2.1 dX10_similarity_30 rfl (lv_at hl 0 rfl) ?_
  refine gx_get (C := RX10) (T := TX10) (N := 31) S hG (fblk_sk 4 rfl (by omega) (fu_at (by omega) fu_s)) i_X10_similarity_X10 rfl 0 (by decide) (by decide +kernel) rfl dX10_similarity_31 ?_
  refine lv_iload_n S.1 S.2.1 dX10_similarity_34 rfl (lv_at hl 1 rfl) ?_
  refine gx_aldq (x := (N0 + 166)) S hG 6 rfl (fblk_sk 4 rfl (by omega) (fu_at (by omega) (fu_at (by omega) h1))) rfl (fin_l (by decide)) (rfl) dX10_similarity_35 ?_
  refine gx_getN (C := RX9) (T := TX9) (N := 5) S hG (fblk_sk 4 rfl (by omega) (fu_at (by omega) (fu_at (by omega) h2))) i_X10_similarity_X9 rfl 4 (by decide) (List.mem_of_getElem? (i := 4) rfl) rfl dX10_similarity_36 ?_
  refine lv_aload_n S.1 S.2.1 dX10_similarity_39 rfl (lv_at hl 0 rfl) ?_
  refine gx_get (C := RX10) (T := TX10) (N := 31) S hG (fblk_sk 4 rfl (by omega) (fu_at (by omega) fu_s)) i_X10_similarity_X10 rfl 0 (by decide) (by decide +kernel) rfl dX10_similarity_40 ?_
  refine lv_iload_n S.1 S.2.1 dX10_similarity_43 rfl (lv_at hl 2 rfl) ?_
  refine gx_aldq (x := (N0 + 176)) S hG 6 rfl (fblk_sk 4 rfl (by omega) (fu_at (by omega) (fu_at (by omega) h1))) rfl (fin_l (by decide)) (rfl) dX10_similarity_44 ?_
  refine gx_getN (C := RX9) (T := TX9) (N := 5) S hG (fblk_sk 4 rfl (by omega) (fu_at (by omega) (fu_at (by omega) h3))) i_X10_similarity_X9 rfl 4 (by decide) (List.mem_of_getElem? (i := 4) rfl) rfl dX10_similarity_45 ?_
  refine lv_iadd S.1 S.2.1 dX10_similarity_48 ?_
  refine fx_topi (y := 2) (by decide) ?_
  refine lv_imul S.1 S.2.1 dX10_similarity_49 ?_
  refine fx_topi (y := 4) (by decide) ?_
  refine gx_i2d (v := 4616189618054758400) S (by decide +kernel) dX10_similarity_50 ?_
  refine gx_ddiv (v := 0) S (by decide +kernel) (by unfold vf_n64; decide +kernel) dX10_similarity_51 ?_
  refine gx_dsub (v := 4607182418800017408) S (by decide +kernel) (by unfold vf_n64; decide +kernel) dX10_similarity_52 ?_
  have hG : fG N0 D vwCl (fty cI cC cL cD cII cTr cTm cIt cB) (fen ql) s (fblk (fu (fu F (N0 + 164) (.inr (12, [.ref (N0 + 165), .int 0, .ref (N0 + 181), .int 0, .int 0, .int 0, .int (-1), .ref (ql 24), .ref (N0 + 182), .ref (N0 + 187), .ref (N0 + 208), .ref (N0 + 209), .ref (N0 + 210), .ref (N0 + 211), .ref (N0 + 212), .int 0, .ref (N0 + 213), .ref (N0 + 218), .ref (N0 + 223), .ref (N0 + 224), .ref (N0 + 225), .ref (N0 + 226), .ref (N0 + 227), .int 0, .int 0, .ref (N0 + 228), .null, .int (-1), .int 0, .int 0, .int 0]))) (N0 + 188) (.inl (cI, 20, .inl (upd (fun _ => 0) 0 0)))) n [.inl (cI, 0, .inl (fun _ => 0)), .inl (cI, 0, .inl (fun _ => 0)), .inl (cII, 1, .inr (.inr (.inr (.inr (fun j => if j < 1 then some ((n + 3) + j) else none))))), .inl (cI, 1, .inl (fun _ => 0))]) (n + 4) H locs := hG.weak (fun a e h => by
    rcases fblk_cases 4 rfl h with ⟨k, rfl, hlt, hk⟩ | ⟨hout, h⟩
    · rcases (show k = 0 ∨ k = 1 ∨ k = 2 ∨ k = 3 by omega) with rfl | rfl | rfl | rfl
      · cases (show some (.inl (cI, 0, .inl (fun _ => 0))) = some e from hk); exact (fblk_at 0 (by omega) rfl)
      · cases (show some (.inl (cI, 0, .inl (fun _ => 0))) = some e from hk); exact (fblk_at 1 (by omega) rfl)
      · cases (show some (.inl (cII, 1, .inr (.inr (.inr (.inr (fun j => if j < 1 then some ((n + 3) + j) else none)))))) = some e from hk); exact (fblk_at 2 (by omega) rfl)
      · cases (show some (.inl (cI, 1, .inl (fun _ => 0))) = some e from hk); exact (fblk_at 3 (by omega) rfl)
    · rcases fu_cases h with ⟨rfl, he⟩ | ⟨hne0, h⟩
      · cases he; exact (fblk_sk 4 rfl (by omega) fu_s)
      · skip
        rcases fu_cases h with ⟨rfl, he⟩ | ⟨hne1, h⟩
        · cases he; exact (fblk_sk 4 rfl (by omega) (fu_at (by omega) fu_s))
        · exact (fblk_sk 4 rfl (by omega) (fu_at (by omega) (fu_at (by omega) h))))
  exact fx_dret S hr hlocks () hG (rfl) dX10_similarity_53
theorem k1386_X7_similarity {n : Nat} {a2 : Int32} (g_a2_ge_3 : 3 ≤ a2) (hst : l.stackTraces = false) (hn : N0 + 231 ≤ n) (h0 : F N0 = some (.inr (9, [.ref (N0 + 1), .ref (N0 + 2), .ref (N0 + 11), .ref (N0 + 13), .ref (N0 + 63), .ref (N0 + 65), .ref (N0 + 85), .int (-1), .int (-1), .int 32]))) (h1 : F (N0 + 1) = some (.inl (cTr, 3, .inr (.inr (.inr (.inr (va_up (va_up (va_up (fun _ => none) 0 (some (N0 + 143))) 1 (some (N0 + 150))) 2 (some (N0 + 157))))))))) : vx_Met l yX7_similarity wsX7_similarity ({ frames := 7, cells := 1, slots := 6, locals := 103 }) (va_Pc [.ref N0, .int 0, .int a2] (fP N0 D vwCl (fty cI cC cL cD cII cTr cTm cIt cB) (fen ql) F n)) (fNo N0 D vwCl (fty cI cC cL cD cII cTr cTm cIt cB) F n) (fXC N0 D vwCl (fty cI cC cL cD cII cTr cTm cIt cB) "java/lang/IndexOutOfBoundsException" F n) 1 6 (fA N0) := by
  refine fx_startX 9 rfl rfl (Nat.le_of_ble_eq_true rfl) ?_ rfl
  intro p e s m below meth c ls S htab hlocks hG hl
  have hl : lv_has ls 9 [(0, .ref N0), (1, .int 0), (2, .int a2)] := hl
  have lt_h0 := hG.1.lt h0
  have lt_h1 := hG.1.lt h1
  refine lv_aload_n S.1 S.2.1 dX7_similarity_0 rfl (lv_at hl 0 rfl) ?_
  refine lv_iload_n S.1 S.2.1 dX7_similarity_1 rfl (lv_at hl 1 rfl) ?_
  refine fx_cVr (As := [.int 0]) (rest := []) S hG (k26_X7_treeAt (by omega) h0 h1) h0 rfl (cwV 1 S.2.2.2.2 gX7_similarity_X7_treeAt rfl rfl rfl (by decide +kernel) ⟨Nat.le_of_ble_eq_true rfl, Nat.le_of_ble_eq_true rfl⟩) rfl hl.1 rfl (Nat.le_of_ble_eq_true rfl) dX7_similarity_2 ⟨Nat.le_of_ble_eq_true rfl, Nat.le_of_ble_eq_true rfl⟩ (fun rv_1 _ H locs hp hG => ?_)
  subst rv_1
  refine lv_astore_n (lv' := [(3, .ref (N0 + 143)), (0, .ref N0), (1, .int 0), (2, .int a2)]) S.1 S.2.1 dX7_similarity_5 rfl hl (by decide) rfl (fun ls hl => ?_)
  refine lv_aload_n S.1 S.2.1 dX7_similarity_6 rfl (lv_at hl 1 rfl) ?_
  refine lv_iload_n S.1 S.2.1 dX7_similarity_7 rfl (lv_at hl 3 rfl) ?_
  refine fx_xV (As := [.int a2]) (rest := []) S hG (k478_X7_treeAt g_a2_ge_3 hst (by omega)) h0 rfl (cwV 1 S.2.2.2.2 gX7_similarity_X7_treeAt rfl rfl rfl (by decide +kernel) ⟨Nat.le_of_ble_eq_true rfl, Nat.le_of_ble_eq_true rfl⟩) rfl hl.1 rfl (Nat.le_of_ble_eq_true rfl) dX7_similarity_8 ⟨Nat.le_of_ble_eq_true rfl, Nat.le_of_ble_eq_true rfl⟩ (fun ceq_2 q_2 H locs n_3 hn_3 hG h1q_2 h2q_2 h3q_2 => ?_)
  exact fx_out htab hlocks hG (by omega) h1q_2 h2q_2 h3q_2 (by decide) (by decide)
theorem k1387_L_similarity {n : Nat} {a2 : Int32} (g_a2_ge_3 : 3 ≤ a2) (hst : l.stackTraces = false) (hn : N0 + 231 ≤ n) (h0 : F N0 = some (.inr (9, [.ref (N0 + 1), .ref (N0 + 2), .ref (N0 + 11), .ref (N0 + 13), .ref (N0 + 63), .ref (N0 + 65), .ref (N0 + 85), .int (-1), .int (-1), .int 32]))) (h1 : F (N0 + 1) = some (.inl (cTr, 3, .inr (.inr (.inr (.inr (va_up (va_up (va_up (fun _ => none) 0 (some (N0 + 143))) 1 (some (N0 + 150))) 2 (some (N0 + 157))))))))) : Met l yL_similarity wsL_similarity ({ frames := 8, cells := 1, slots := 6, locals := 131 }) (va_Pc [.ref N0, .int 0, .int a2, .ref (N0 + 230)] (fP N0 D vwCl (fty cI cC cL cD cII cTr cTm cIt cB) (fen ql) F n)) (fQi N0 D vwCl (fty cI cC cL cD cII cTr cTm cIt cB) (fun (r : Int32) (u : Nat) => r = 1 ∧ n ≤ u) (fun _ => F) (fun u => u)) 1 6 (fA N0) := by
  refine fx_startW (hh := [(0, 9, 12, 19)]) 5 rfl rfl (Nat.le_of_ble_eq_true rfl) ?_ rfl
  intro p e s m below meth c ls S htab hr hlocks hG hl
  have hl : lv_has ls 5 [(0, .ref N0), (1, .int 0), (2, .int a2), (3, .ref (N0 + 230))] := hl
  have lt_h0 := hG.1.lt h0
  have lt_h1 := hG.1.lt h1
  refine lv_aload_n S.1 S.2.1 dL_similarity_0 rfl (lv_at hl 3 rfl) ?_
  refine lv_iconst (v := 0) S.1 S.2.1 dL_similarity_1 (by decide) ?_
  refine lv_aload_n S.1 S.2.1 dL_similarity_2 rfl (lv_at hl 0 rfl) ?_
  refine lv_iload_n S.1 S.2.1 dL_similarity_3 rfl (lv_at hl 1 rfl) ?_
  refine lv_iload_n S.1 S.2.1 dL_similarity_4 rfl (lv_at hl 2 rfl) ?_
  refine fx_xV (As := [.int 0, .int a2]) (rest := [.int 0, .ref (N0 + 230)]) S hG (k1386_X7_similarity g_a2_ge_3 hst (by omega) h0 h1) h0 rfl (cwV 2 S.2.2.2.2 gL_similarity_X7_similarity rfl rfl rfl (by decide +kernel) ⟨Nat.le_of_ble_eq_true rfl, Nat.le_of_ble_eq_true rfl⟩) rfl hl.1 rfl (Nat.le_of_ble_eq_true rfl) dL_similarity_5 ⟨Nat.le_of_ble_eq_true rfl, Nat.le_of_ble_eq_true rfl⟩ (fun ceq_1 q_1 H locs n_2 hn_2 hG h1q_1 h2q_1 h3q_1 => ?_)
  refine fx_catch (hh := [(0, 9, 12, 19)]) S htab hG h1q_1 h2q_1 h3q_1 [] ⟨0, 9, 12, 19⟩ [] rfl [] (fun z hz => absurd hz List.not_mem_nil) (by decide) (by decide) (by decide +kernel) (List.mem_of_getElem? (i := 2) rfl) ?_
  refine lv_astore (lv' := [(4, .ref q_1), (0, .ref N0), (1, .int 0), (2, .int a2), (3, .ref (N0 + 230))]) S.1 S.2.1 dL_similarity_12 hl (by decide) rfl (fun ls hl => ?_)
  refine lv_iconst (v := 1) S.1 S.2.1 dL_similarity_14 (by decide) ?_
  exact fx_iret S hr hlocks n_2 hG (⟨rfl, hn_2⟩) dL_similarity_15
theorem k1388_X10_similarity {n : Nat} {a2 : Int32} (g_a2_ge_3 : 3 ≤ a2) (hn : N0 + 231 ≤ n) (h0 : F (N0 + 164) = some (.inr (12, [.ref (N0 + 165), .int 0, .ref (N0 + 181), .int 0, .int 0, .int 0, .int (-1), .ref (ql 24), .ref (N0 + 182), .ref (N0 + 187), .ref (N0 + 208), .ref (N0 + 209), .ref (N0 + 210), .ref (N0 + 211), .ref (N0 + 212), .int 0, .ref (N0 + 213), .ref (N0 + 218), .ref (N0 + 223), .ref (N0 + 224), .ref (N0 + 225), .ref (N0 + 226), .ref (N0 + 227), .int 0, .int 0, .ref (N0 + 228), .null, .int (-1), .int 0, .int 0, .int 0]))) : Met l yX10_similarity wsX10_similarity ({ frames := 3, cells := 0, slots := 0, locals := 64 }) (va_Pc [.ref (N0 + 164), .int 0, .int a2] (fP N0 D vwCl (fty cI cC cL cD cII cTr cTm cIt cB) (fen ql) F n)) (fQd N0 D vwCl (fty cI cC cL cD cII cTr cTm cIt cB) (fun (r : UInt64) (_ : Unit) => r = 0) (fun _ => (fu F (N0 + 164) (.inr (12, [.ref (N0 + 165), .int 1, .ref (N0 + 181), .int 0, .int 0, .int 0, .int (-1), .ref (ql 24), .ref (N0 + 182), .ref (N0 + 187), .ref (N0 + 208), .ref (N0 + 209), .ref (N0 + 210), .ref (N0 + 211), .ref (N0 + 212), .int 0, .ref (N0 + 213), .ref (N0 + 218), .ref (N0 + 223), .ref (N0 + 224), .ref (N0 + 225), .ref (N0 + 226), .ref (N0 + 227), .int 0, .int 0, .ref (N0 + 228), .null, .int (-1), .int 0, .int 0, .int 0])))) (fun _ => n)) 0 0 (fA N0) := by
  refine fx_start 3 rfl rfl (Nat.le_of_ble_eq_true rfl) ?_ rfl
  intro p e s m below meth c ls S hr hlocks hin hG hl
  have hl : lv_has ls 3 [(0, .ref (N0 + 164)), (1, .int 0), (2, .int a2)] := hl
  have lt_h0 := hG.1.lt h0
  refine lv_aload_n S.1 S.2.1 dX10_similarity_0 rfl (lv_at hl 0 rfl) ?_
  refine lv_iload_n S.1 S.2.1 dX10_similarity_1 rfl (lv_at hl 1 rfl) ?_
  refine lv_iload_n S.1 S.2.1 dX10_similarity_2 rfl (lv_at hl 2 rfl) ?_
  refine fx_cVi (As := [.int 0, .int a2]) (rest := []) S hG (k483_X10_areNone g_a2_ge_3 (by omega) h0) h0 rfl (cwV 2 S.2.2.2.2 gX10_similarity_X10_areNone rfl rfl rfl (by decide +kernel) ⟨Nat.le_of_ble_eq_true rfl, Nat.le_of_ble_eq_true rfl⟩) rfl hl.1 rfl (Nat.le_of_ble_eq_true rfl) dX10_similarity_3 ⟨Nat.le_of_ble_eq_true rfl, Nat.le_of_ble_eq_true rfl⟩ (fun rv_1 _ H locs hp hG => ?_)
  subst rv_1
  refine lv_if_eq (tgt := 11) S.1 S.2.1 dX10_similarity_6 (by decide) (fun c => absurd c (by decide)) (fun _ => ?_)
  refine gx_dconst0 (v := 0) S (by decide +kernel) dX10_similarity_9 ?_
  exact fx_dret S hr hlocks () hG (rfl) dX10_similarity_10
theorem k1389_X7_similarity {n : Nat} {a2 : Int32} (g_a2_le_m1 : a2 ≤ (-1)) (hst : l.stackTraces = false) (hn : N0 + 231 ≤ n) (h0 : F N0 = some (.inr (9, [.ref (N0 + 1), .ref (N0 + 2), .ref (N0 + 11), .ref (N0 + 13), .ref (N0 + 63), .ref (N0 + 65), .ref (N0 + 85), .int (-1), .int (-1), .int 32]))) (h1 : F (N0 + 1) = some (.inl (cTr, 3, .inr (.inr (.inr (.inr (va_up (va_up (va_up (fun _ => none) 0 (some (N0 + 143))) 1 (some (N0 + 150))) 2 (some (N0 + 157))))))))) : vx_Met l yX7_similarity wsX7_similarity ({ frames := 7, cells := 1, slots := 6, locals := 103 }) (va_Pc [.ref N0, .int 1, .int a2] (fP N0 D vwCl (fty cI cC cL cD cII cTr cTm cIt cB) (fen ql) F n)) (fNo N0 D vwCl (fty cI cC cL cD cII cTr cTm cIt cB) F n) (fXC N0 D vwCl (fty cI cC cL cD cII cTr cTm cIt cB) "java/lang/IndexOutOfBoundsException" F n) 1 6 (fA N0) := by
  refine fx_startX 9 rfl rfl (Nat.le_of_ble_eq_true rfl) ?_ rfl
  intro p e s m below meth c ls S htab hlocks hG hl
  have hl : lv_has ls 9 [(0, .ref N0), (1, .int 1), (2, .int a2)] := hl
  have lt_h0 := hG.1.lt h0
  have lt_h1 := hG.1.lt h1
  refine lv_aload_n S.1 S.2.1 dX7_similarity_0 rfl (lv_at hl 0 rfl) ?_
  refine lv_iload_n S.1 S.2.1 dX7_similarity_1 rfl (lv_at hl 1 rfl) ?_
  refine fx_cVr (As := [.int 1]) (rest := []) S hG (k42_X7_treeAt (by omega) h0 h1) h0 rfl (cwV 1 S.2.2.2.2 gX7_similarity_X7_treeAt rfl rfl rfl (by decide +kernel) ⟨Nat.le_of_ble_eq_true rfl, Nat.le_of_ble_eq_true rfl⟩) rfl hl.1 rfl (Nat.le_of_ble_eq_true rfl) dX7_similarity_2 ⟨Nat.le_of_ble_eq_true rfl, Nat.le_of_ble_eq_true rfl⟩ (fun rv_1 _ H locs hp hG => ?_)
  subst rv_1
  refine lv_astore_n (lv' := [(3, .ref (N0 + 150)), (0, .ref N0), (1, .int 1), (2, .int a2)]) S.1 S.2.1 dX7_similarity_5 rfl hl (by decide) rfl (fun ls hl => ?_)
  refine lv_aload_n S.1 S.2.1 dX7_similarity_6 rfl (lv_at hl 1 rfl) ?_
  refine lv_iload_n S.1 S.2.1 dX7_similarity_7 rfl (lv_at hl 3 rfl) ?_
  refine fx_xV (As := [.int a2]) (rest := []) S hG (k450_X7_treeAt g_a2_le_m1 hst (by omega)) h0 rfl (cwV 1 S.2.2.2.2 gX7_similarity_X7_treeAt rfl rfl rfl (by decide +kernel) ⟨Nat.le_of_ble_eq_true rfl, Nat.le_of_ble_eq_true rfl⟩) rfl hl.1 rfl (Nat.le_of_ble_eq_true rfl) dX7_similarity_8 ⟨Nat.le_of_ble_eq_true rfl, Nat.le_of_ble_eq_true rfl⟩ (fun ceq_2 q_2 H locs n_3 hn_3 hG h1q_2 h2q_2 h3q_2 => ?_)
  exact fx_out htab hlocks hG (by omega) h1q_2 h2q_2 h3q_2 (by decide) (by decide)
theorem k1390_L_similarity {n : Nat} {a2 : Int32} (g_a2_le_m1 : a2 ≤ (-1)) (hst : l.stackTraces = false) (hn : N0 + 231 ≤ n) (h0 : F N0 = some (.inr (9, [.ref (N0 + 1), .ref (N0 + 2), .ref (N0 + 11), .ref (N0 + 13), .ref (N0 + 63), .ref (N0 + 65), .ref (N0 + 85), .int (-1), .int (-1), .int 32]))) (h1 : F (N0 + 1) = some (.inl (cTr, 3, .inr (.inr (.inr (.inr (va_up (va_up (va_up (fun _ => none) 0 (some (N0 + 143))) 1 (some (N0 + 150))) 2 (some (N0 + 157))))))))) : Met l yL_similarity wsL_similarity ({ frames := 8, cells := 1, slots := 6, locals := 131 }) (va_Pc [.ref N0, .int 1, .int a2, .ref (N0 + 230)] (fP N0 D vwCl (fty cI cC cL cD cII cTr cTm cIt cB) (fen ql) F n)) (fQi N0 D vwCl (fty cI cC cL cD cII cTr cTm cIt cB) (fun (r : Int32) (u : Nat) => r = 1 ∧ n ≤ u) (fun _ => F) (fun u => u)) 1 6 (fA N0) := by
  refine fx_startW (hh := [(0, 9, 12, 19)]) 5 rfl rfl (Nat.le_of_ble_eq_true rfl) ?_ rfl
  intro p e s m below meth c ls S htab hr hlocks hG hl
  have hl : lv_has ls 5 [(0, .ref N0), (1, .int 1), (2, .int a2), (3, .ref (N0 + 230))] := hl
  have lt_h0 := hG.1.lt h0
  have lt_h1 := hG.1.lt h1
  refine lv_aload_n S.1 S.2.1 dL_similarity_0 rfl (lv_at hl 3 rfl) ?_
  refine lv_iconst (v := 0) S.1 S.2.1 dL_similarity_1 (by decide) ?_
  refine lv_aload_n S.1 S.2.1 dL_similarity_2 rfl (lv_at hl 0 rfl) ?_
  refine lv_iload_n S.1 S.2.1 dL_similarity_3 rfl (lv_at hl 1 rfl) ?_
  refine lv_iload_n S.1 S.2.1 dL_similarity_4 rfl (lv_at hl 2 rfl) ?_
  refine fx_xV (As := [.int 1, .int a2]) (rest := [.int 0, .ref (N0 + 230)]) S hG (k1389_X7_similarity g_a2_le_m1 hst (by omega) h0 h1) h0 rfl (cwV 2 S.2.2.2.2 gL_similarity_X7_similarity rfl rfl rfl (by decide +kernel) ⟨Nat.le_of_ble_eq_true rfl, Nat.le_of_ble_eq_true rfl⟩) rfl hl.1 rfl (Nat.le_of_ble_eq_true rfl) dL_similarity_5 ⟨Nat.le_of_ble_eq_true rfl, Nat.le_of_ble_eq_true rfl⟩ (fun ceq_1 q_1 H locs n_2 hn_2 hG h1q_1 h2q_1 h3q_1 => ?_)
  refine fx_catch (hh := [(0, 9, 12, 19)]) S htab hG h1q_1 h2q_1 h3q_1 [] ⟨0, 9, 12, 19⟩ [] rfl [] (fun z hz => absurd hz List.not_mem_nil) (by decide) (by decide) (by decide +kernel) (List.mem_of_getElem? (i := 2) rfl) ?_
  refine lv_astore (lv' := [(4, .ref q_1), (0, .ref N0), (1, .int 1), (2, .int a2), (3, .ref (N0 + 230))]) S.1 S.2.1 dL_similarity_12 hl (by decide) rfl (fun ls hl => ?_)
  refine lv_iconst (v := 1) S.1 S.2.1 dL_similarity_14 (by decide) ?_
  exact fx_iret S hr hlocks n_2 hG (⟨rfl, hn_2⟩) dL_similarity_15
theorem k1391_X10_similarity {n : Nat} {a2 : Int32} (g_a2_le_m1 : a2 ≤ (-1)) (hn : N0 + 231 ≤ n) (h0 : F (N0 + 164) = some (.inr (12, [.ref (N0 + 165), .int 0, .ref (N0 + 181), .int 0, .int 0, .int 0, .int (-1), .ref (ql 24), .ref (N0 + 182), .ref (N0 + 187), .ref (N0 + 208), .ref (N0 + 209), .ref (N0 + 210), .ref (N0 + 211), .ref (N0 + 212), .int 0, .ref (N0 + 213), .ref (N0 + 218), .ref (N0 + 223), .ref (N0 + 224), .ref (N0 + 225), .ref (N0 + 226), .ref (N0 + 227), .int 0, .int 0, .ref (N0 + 228), .null, .int (-1), .int 0, .int 0, .int 0]))) : Met l yX10_similarity wsX10_similarity ({ frames := 3, cells := 0, slots := 0, locals := 64 }) (va_Pc [.ref (N0 + 164), .int 1, .int a2] (fP N0 D vwCl (fty cI cC cL cD cII cTr cTm cIt cB) (fen ql) F n)) (fQd N0 D vwCl (fty cI cC cL cD cII cTr cTm cIt cB) (fun (r : UInt64) (_ : Unit) => r = 0) (fun _ => (fu F (N0 + 164) (.inr (12, [.ref (N0 + 165), .int 1, .ref (N0 + 181), .int 0, .int 0, .int 0, .int (-1), .ref (ql 24), .ref (N0 + 182), .ref (N0 + 187), .ref (N0 + 208), .ref (N0 + 209), .ref (N0 + 210), .ref (N0 + 211), .ref (N0 + 212), .int 0, .ref (N0 + 213), .ref (N0 + 218), .ref (N0 + 223), .ref (N0 + 224), .ref (N0 + 225), .ref (N0 + 226), .ref (N0 + 227), .int 0, .int 0, .ref (N0 + 228), .null, .int (-1), .int 0, .int 0, .int 0])))) (fun _ => n)) 0 0 (fA N0) := by
  refine fx_start 3 rfl rfl (Nat.le_of_ble_eq_true rfl) ?_ rfl
  intro p e s m below meth c ls S hr hlocks hin hG hl
  have hl : lv_has ls 3 [(0, .ref (N0 + 164)), (1, .int 1), (2, .int a2)] := hl
  have lt_h0 := hG.1.lt h0
  refine lv_aload_n S.1 S.2.1 dX10_similarity_0 rfl (lv_at hl 0 rfl) ?_
  refine lv_iload_n S.1 S.2.1 dX10_similarity_1 rfl (lv_at hl 1 rfl) ?_
  refine lv_iload_n S.1 S.2.1 dX10_similarity_2 rfl (lv_at hl 2 rfl) ?_
  refine fx_cVi (As := [.int 1, .int a2]) (rest := []) S hG (k487_X10_areNone g_a2_le_m1 (by omega) h0) h0 rfl (cwV 2 S.2.2.2.2 gX10_similarity_X10_areNone rfl rfl rfl (by decide +kernel) ⟨Nat.le_of_ble_eq_true rfl, Nat.le_of_ble_eq_true rfl⟩) rfl hl.1 rfl (Nat.le_of_ble_eq_true rfl) dX10_similarity_3 ⟨Nat.le_of_ble_eq_true rfl, Nat.le_of_ble_eq_true rfl⟩ (fun rv_1 _ H locs hp hG => ?_)
  subst rv_1
  refine lv_if_eq (tgt := 11) S.1 S.2.1 dX10_similarity_6 (by decide) (fun c => absurd c (by decide)) (fun _ => ?_)
  refine gx_dconst0 (v := 0) S (by decide +kernel) dX10_similarity_9 ?_
  exact fx_dret S hr hlocks () hG (rfl) dX10_similarity_10
theorem k1392_X7_similarity {n : Nat} (hn : N0 + 231 ≤ n) (h0 : F N0 = some (.inr (9, [.ref (N0 + 1), .ref (N0 + 2), .ref (N0 + 11), .ref (N0 + 13), .ref (N0 + 63), .ref (N0 + 65), .ref (N0 + 85), .int (-1), .int (-1), .int 32]))) (h1 : F (N0 + 1) = some (.inl (cTr, 3, .inr (.inr (.inr (.inr (va_up (va_up (va_up (fun _ => none) 0 (some (N0 + 143))) 1 (some (N0 + 150))) 2 (some (N0 + 157))))))))) (h2 : F (N0 + 13) = some (.inr (3, [.ref (N0 + 14), .ref (N0 + 35), .ref (N0 + 57), .ref (N0 + 58), .ref (N0 + 59), .ref (N0 + 60), .int 0, .int 0, .ref (N0 + 61), .ref (N0 + 62)]))) (h3 : F (N0 + 150) = some (.inr (7, [.ref (N0 + 151), .ref (N0 + 152), .ref (N0 + 153), .ref (N0 + 154), .ref (N0 + 155), .ref (N0 + 156), .int 1]))) (h4 : F (N0 + 57) = some (.inl (cI, 20, .inl (fun _ => 0)))) (h5 : F (N0 + 143) = some (.inr (7, [.ref (N0 + 144), .ref (N0 + 145), .ref (N0 + 146), .ref (N0 + 147), .ref (N0 + 148), .ref (N0 + 149), .int 1]))) (h6 : F (N0 + 58) = some (.inl (cI, 20, .inl (fun _ => 0)))) (h7 : F (N0 + 35) = some (.inl (cII, 21, .inr (.inr (.inr (.inr (fun j => if j < 21 then some ((N0 + 36) + j) else none))))))) (h8 : F (N0 + 36) = some (.inl (cI, 21, .inl (fun _ => 0)))) (h9 : F (N0 + 14) = some (.inl (cII, 20, .inr (.inr (.inr (.inr (fun j => if j < 20 then some ((N0 + 15) + j) else none))))))) (h10 : F (N0 + 151) = some (.inl (cC, 20, .inl (upd (fun _ => 0) 0 97)))) (h11 : F (N0 + 144) = some (.inl (cC, 20, .inl (upd (fun _ => 0) 0 97)))) (h12 : F (N0 + 153) = some (.inl (cI, 20, .inl (fun _ => 0)))) (h13 : F (N0 + 146) = some (.inl (cI, 20, .inl (fun _ => 0)))) (h14 : F (N0 + 15) = some (.inl (cI, 20, .inl (fun _ => 0)))) : Met l yX7_similarity wsX7_similarity ({ frames := 3, cells := 0, slots := 0, locals := 73 }) (va_Pc [.ref N0, .int 1, .int 0] (fP N0 D vwCl (fty cI cC cL cD cII cTr cTm cIt cB) (fen ql) F n)) (fQd N0 D vwCl (fty cI cC cL cD cII cTr cTm cIt cB) (fun (r : UInt64) (_ : Unit) => r = 4607182418800017408) (fun _ => (fu (fu (fu (fu (fu F (N0 + 57) (.inl (cI, 20, .inl (upd (fun _ => 0) 0 1)))) (N0 + 58) (.inl (cI, 20, .inl (upd (fun _ => 0) 0 1)))) (N0 + 13) (.inr (3, [.ref (N0 + 14), .ref (N0 + 35), .ref (N0 + 57), .ref (N0 + 58), .ref (N0 + 59), .ref (N0 + 60), .int 0, .int 0, .ref (N0 + 61), .ref (N0 + 62)]))) (N0 + 36) (.inl (cI, 21, .inl (upd (fun _ => 0) 0 0)))) (N0 + 15) (.inl (cI, 20, .inl (upd (fun _ => 0) 0 0))))) (fun _ => n)) 0 0 (fA N0) := by
  refine fx_start 9 rfl rfl (Nat.le_of_ble_eq_true rfl) ?_ rfl
  intro p e s m below meth c ls S hr hlocks hin hG hl
  have hl : lv_has ls 9 [(0, .ref N0), (1, .int 1), (2, .int 0)] := hl
  have lt_h0 := hG.1.lt h0
  have lt_h1 := hG.1.lt h1
  have lt_h2 := hG.1.lt h2
  have lt_h3 := hG.1.lt h3
  have lt_h4 := hG.1.lt h4
  have lt_h5 := hG.1.lt h5
  have lt_h6 := hG.1.lt h6
  have lt_h7 := hG.1.lt h7
  have lt_h8 := hG.1.lt h8
  have lt_h9 := hG.1.lt h9
  have lt_h10 := hG.1.lt h10
  have lt_h11 := hG.1.lt h11
  have lt_h12 := hG.1.lt h12
  have lt_h13 := hG.1.lt h13
  have lt_h14 := hG.1.lt h14
  refine lv_aload_n S.1 S.2.1 dX7_similarity_0 rfl (lv_at hl 0 rfl) ?_
  refine lv_iload_n S.1 S.2.1 dX7_similarity_1 rfl (lv_at hl 1 rfl) ?_
  refine fx_cVr (As := [.int 1]) (rest := []) S hG (k42_X7_treeAt (by omega) h0 h1) h0 rfl (cwV 1 S.2.2.2.2 gX7_similarity_X7_treeAt rfl rfl rfl (by decide +kernel) ⟨Nat.le_of_ble_eq_true rfl, Nat.le_of_ble_eq_true rfl⟩) rfl hl.1 rfl (Nat.le_of_ble_eq_true rfl) dX7_similarity_2 ⟨Nat.le_of_ble_eq_true rfl, Nat.le_of_ble_eq_true rfl⟩ (fun rv_1 _ H locs hp hG => ?_)
  subst rv_1
  refine lv_astore_n (lv' := [(3, .ref (N0 + 150)), (0, .ref N0), (1, .int 1), (2, .int 0)]) S.1 S.2.1 dX7_similarity_5 rfl hl (by decide) rfl (fun ls hl => ?_)
  refine lv_aload_n S.1 S.2.1 dX7_similarity_6 rfl (lv_at hl 1 rfl) ?_
  refine lv_iload_n S.1 S.2.1 dX7_similarity_7 rfl (lv_at hl 3 rfl) ?_
  refine fx_cVr (As := [.int 0]) (rest := []) S hG (k26_X7_treeAt (by omega) h0 h1) h0 rfl (cwV 1 S.2.2.2.2 gX7_similarity_X7_treeAt rfl rfl rfl (by decide +kernel) ⟨Nat.le_of_ble_eq_true rfl, Nat.le_of_ble_eq_true rfl⟩) rfl hl.1 rfl (Nat.le_of_ble_eq_true rfl) dX7_similarity_8 ⟨Nat.le_of_ble_eq_true rfl, Nat.le_of_ble_eq_true rfl⟩ (fun rv_2 _ H locs hp hG => ?_)
  subst rv_2
  refine lv_astore (lv' := [(4, .ref (N0 + 143)), (3, .ref (N0 + 150)), (0, .ref N0), (1, .int 1), (2, .int 0)]) S.1 S.2.1 dX7_similarity_11 hl (by decide) rfl (fun ls hl => ?_)
  refine lv_aload_n S.1 S.2.1 dX7_similarity_13 rfl (lv_at hl 2 rfl) ?_
  refine gx_get (C := RX7) (T := TX7) (N := 10) S hG h0 i_X7_similarity_X7 rfl 3 (by decide) (by decide +kernel) rfl dX7_similarity_14 ?_
  refine lv_aload_n S.1 S.2.1 dX7_similarity_17 rfl (lv_at hl 1 rfl) ?_
  refine lv_aload S.1 S.2.1 dX7_similarity_18 (lv_at hl 0 rfl) ?_
  refine fx_cVi (As := [.ref (N0 + 150), .ref (N0 + 143)]) (rest := []) S hG (k1228_X1_leastCost (by omega) h2 h3 h4 h5 h6 h7 h8 h9 h10 h11 h12 h13 h14) h2 rfl (cwV 2 S.2.2.2.2 gX7_similarity_X1_leastCost rfl rfl rfl (by decide +kernel) ⟨Nat.le_of_ble_eq_true rfl, Nat.le_of_ble_eq_true rfl⟩) rfl hl.1 rfl (Nat.le_of_ble_eq_true rfl) dX7_similarity_20 ⟨Nat.le_of_ble_eq_true rfl, Nat.le_of_ble_eq_true rfl⟩ (fun rv_3 _ H locs hp hG => ?_)
  subst rv_3
  refine gx_i2d (v := 0) S (by decide +kernel) dX7_similarity_23 ?_
  refine lv_dstore (lv' := [(5, .double 0), (4, .ref (N0 + 143)), (3, .ref (N0 + 150)), (0, .ref N0), (1, .int 1), (2, .int 0)]) S.1 S.2.1 dX7_similarity_24 hl (by decide) rfl (fun ls hl => ?_)
  refine lv_iconst (v := 2) S.1 S.2.1 dX7_similarity_26 (by decide) ?_
  refine lv_aload_n S.1 S.2.1 dX7_similarity_27 rfl (lv_at hl 2 rfl) ?_
  refine gx_get (C := RX5) (T := TX5) (N := 7) S hG (fu_at (by omega) (fu_at (by omega) (fu_at (by omega) (fu_at (by omega) (fu_at (by omega) h3))))) i_X7_similarity_X5 rfl 6 (by decide) (by decide +kernel) rfl dX7_similarity_28 ?_
  refine lv_aload S.1 S.2.1 dX7_similarity_31 (lv_at hl 1 rfl) ?_
  refine gx_get (C := RX5) (T := TX5) (N := 7) S hG (fu_at (by omega) (fu_at (by omega) (fu_at (by omega) (fu_at (by omega) (fu_at (by omega) h5))))) i_X7_similarity_X5 rfl 6 (by decide) (by decide +kernel) rfl dX7_similarity_33 ?_
  refine lv_iadd S.1 S.2.1 dX7_similarity_36 ?_
  refine fx_topi (y := 2) (by decide) ?_
  refine lv_imul S.1 S.2.1 dX7_similarity_37 ?_
  refine fx_topi (y := 4) (by decide) ?_
  refine gx_i2d (v := 4616189618054758400) S (by decide +kernel) dX7_similarity_38 ?_
  refine lv_dstore (lv' := [(7, .double 4616189618054758400), (5, .double 0), (4, .ref (N0 + 143)), (3, .ref (N0 + 150)), (0, .ref N0), (1, .int 1), (2, .int 0)]) S.1 S.2.1 dX7_similarity_39 hl (by decide) rfl (fun ls hl => ?_)
  refine lv_dload S.1 S.2.1 dX7_similarity_41 (lv_at hl 0 rfl) ?_
  refine gx_dconst0 (v := 0) S (by decide +kernel) dX7_similarity_43 ?_
  refine gx_dcmp (v := 1) S (by decide +kernel) dX7_similarity_44 ?_
  refine lv_if_le (tgt := 58) S.1 S.2.1 dX7_similarity_45 (by decide) (fun c => absurd c (by decide)) (fun _ => ?_)
  refine gx_dconst1 (v := 4607182418800017408) S (by decide +kernel) dX7_similarity_48 ?_
  refine lv_dload S.1 S.2.1 dX7_similarity_49 (lv_at hl 1 rfl) ?_
  refine lv_dload S.1 S.2.1 dX7_similarity_51 (lv_at hl 0 rfl) ?_
  refine gx_ddiv (v := 0) S (by decide +kernel) (by unfold vf_n64; decide +kernel) dX7_similarity_53 ?_
  refine gx_dsub (v := 4607182418800017408) S (by decide +kernel) (by unfold vf_n64; decide +kernel) dX7_similarity_54 ?_
  refine lv_goto (tgt := 59) S.1 S.2.1 dX7_similarity_55 (by decide) ?_
  exact fx_dret S hr hlocks () hG (rfl) dX7_similarity_59
theorem k1393_L_similarity {n : Nat} (hn : N0 + 231 ≤ n) (h0 : F N0 = some (.inr (9, [.ref (N0 + 1), .ref (N0 + 2), .ref (N0 + 11), .ref (N0 + 13), .ref (N0 + 63), .ref (N0 + 65), .ref (N0 + 85), .int (-1), .int (-1), .int 32]))) (h1 : F (N0 + 1) = some (.inl (cTr, 3, .inr (.inr (.inr (.inr (va_up (va_up (va_up (fun _ => none) 0 (some (N0 + 143))) 1 (some (N0 + 150))) 2 (some (N0 + 157))))))))) (h2 : F (N0 + 13) = some (.inr (3, [.ref (N0 + 14), .ref (N0 + 35), .ref (N0 + 57), .ref (N0 + 58), .ref (N0 + 59), .ref (N0 + 60), .int 0, .int 0, .ref (N0 + 61), .ref (N0 + 62)]))) (h3 : F (N0 + 150) = some (.inr (7, [.ref (N0 + 151), .ref (N0 + 152), .ref (N0 + 153), .ref (N0 + 154), .ref (N0 + 155), .ref (N0 + 156), .int 1]))) (h4 : F (N0 + 57) = some (.inl (cI, 20, .inl (fun _ => 0)))) (h5 : F (N0 + 143) = some (.inr (7, [.ref (N0 + 144), .ref (N0 + 145), .ref (N0 + 146), .ref (N0 + 147), .ref (N0 + 148), .ref (N0 + 149), .int 1]))) (h6 : F (N0 + 58) = some (.inl (cI, 20, .inl (fun _ => 0)))) (h7 : F (N0 + 35) = some (.inl (cII, 21, .inr (.inr (.inr (.inr (fun j => if j < 21 then some ((N0 + 36) + j) else none))))))) (h8 : F (N0 + 36) = some (.inl (cI, 21, .inl (fun _ => 0)))) (h9 : F (N0 + 14) = some (.inl (cII, 20, .inr (.inr (.inr (.inr (fun j => if j < 20 then some ((N0 + 15) + j) else none))))))) (h10 : F (N0 + 151) = some (.inl (cC, 20, .inl (upd (fun _ => 0) 0 97)))) (h11 : F (N0 + 144) = some (.inl (cC, 20, .inl (upd (fun _ => 0) 0 97)))) (h12 : F (N0 + 153) = some (.inl (cI, 20, .inl (fun _ => 0)))) (h13 : F (N0 + 146) = some (.inl (cI, 20, .inl (fun _ => 0)))) (h14 : F (N0 + 15) = some (.inl (cI, 20, .inl (fun _ => 0)))) (h15 : F (N0 + 230) = some (.inl (cD, 1, .inr (.inr (.inr (.inl (fun _ => 0))))))) : Met l yL_similarity wsL_similarity ({ frames := 4, cells := 0, slots := 0, locals := 101 }) (va_Pc [.ref N0, .int 1, .int 0, .ref (N0 + 230)] (fP N0 D vwCl (fty cI cC cL cD cII cTr cTm cIt cB) (fen ql) F n)) (fQi N0 D vwCl (fty cI cC cL cD cII cTr cTm cIt cB) (fun (r : Int32) (_ : Unit) => r = 0) (fun _ => (fu (fu (fu (fu (fu (fu F (N0 + 57) (.inl (cI, 20, .inl (upd (fun _ => 0) 0 1)))) (N0 + 58) (.inl (cI, 20, .inl (upd (fun _ => 0) 0 1)))) (N0 + 13) (.inr (3, [.ref (N0 + 14), .ref (N0 + 35), .ref (N0 + 57), .ref (N0 + 58), .ref (N0 + 59), .ref (N0 + 60), .int 0, .int 0, .ref (N0 + 61), .ref (N0 + 62)]))) (N0 + 36) (.inl (cI, 21, .inl (upd (fun _ => 0) 0 0)))) (N0 + 15) (.inl (cI, 20, .inl (upd (fun _ => 0) 0 0)))) (N0 + 230) (.inl (cD, 1, .inr (.inr (.inr (.inl (vf_upd (fun _ => 0) 0 4607182418800017408)))))))) (fun _ => n)) 0 0 (fA N0) := by
  refine fx_startW (hh := [(0, 9, 12, 19)]) 5 rfl rfl (Nat.le_of_ble_eq_true rfl) ?_ rfl
  intro p e s m below meth c ls S htab hr hlocks hG hl
  have hl : lv_has ls 5 [(0, .ref N0), (1, .int 1), (2, .int 0), (3, .ref (N0 + 230))] := hl
  have lt_h0 := hG.1.lt h0
  have lt_h1 := hG.1.lt h1
  have lt_h2 := hG.1.lt h2
  have lt_h3 := hG.1.lt h3
  have lt_h4 := hG.1.lt h4
  have lt_h5 := hG.1.lt h5
  have lt_h6 := hG.1.lt h6
  have lt_h7 := hG.1.lt h7
  have lt_h8 := hG.1.lt h8
  have lt_h9 := hG.1.lt h9
  have lt_h10 := hG.1.lt h10
  have lt_h11 := hG.1.lt h11
  have lt_h12 := hG.1.lt h12
  have lt_h13 := hG.1.lt h13
  have lt_h14 := hG.1.lt h14
  have lt_h15 := hG.1.lt h15
  refine lv_aload_n S.1 S.2.1 dL_similarity_0 rfl (lv_at hl 3 rfl) ?_
  refine lv_iconst (v := 0) S.1 S.2.1 dL_similarity_1 (by decide) ?_
  refine lv_aload_n S.1 S.2.1 dL_similarity_2 rfl (lv_at hl 0 rfl) ?_
  refine lv_iload_n S.1 S.2.1 dL_similarity_3 rfl (lv_at hl 1 rfl) ?_
  refine lv_iload_n S.1 S.2.1 dL_similarity_4 rfl (lv_at hl 2 rfl) ?_
  refine fx_cVd (As := [.int 1, .int 0]) (rest := [.int 0, .ref (N0 + 230)]) S hG (k1392_X7_similarity (by omega) h0 h1 h2 h3 h4 h5 h6 h7 h8 h9 h10 h11 h12 h13 h14) h0 rfl (cwV 2 S.2.2.2.2 gL_similarity_X7_similarity rfl rfl rfl (by decide +kernel) ⟨Nat.le_of_ble_eq_true rfl, Nat.le_of_ble_eq_true rfl⟩) rfl hl.1 rfl (Nat.le_of_ble_eq_true rfl) dL_similarity_5 ⟨Nat.le_of_ble_eq_true rfl, Nat.le_of_ble_eq_true rfl⟩ (fun rv_1 _ H locs hp hG => ?_)
  subst rv_1
  refine gx_dast (f' := vf_upd (fun _ => 0) 0 4607182418800017408) S hG 3 (fu_at (by omega) (fu_at (by omega) (fu_at (by omega) (fu_at (by omega) (fu_at (by omega) h15))))) rfl (fin_l (by decide)) dL_similarity_8 rfl (fun H locs hG => ?_)
  refine lv_goto (tgt := 16) S.1 S.2.1 dL_similarity_9 (by decide) ?_
  refine lv_iconst (v := 0) S.1 S.2.1 dL_similarity_16 (by decide) ?_
  exact fx_iret S hr hlocks () hG (rfl) dL_similarity_17
theorem k1394_X10_similarity {n : Nat} (hn : N0 + 231 ≤ n) (h0 : F (N0 + 164) = some (.inr (12, [.ref (N0 + 165), .int 0, .ref (N0 + 181), .int 0, .int 0, .int 0, .int (-1), .ref (ql 24), .ref (N0 + 182), .ref (N0 + 187), .ref (N0 + 208), .ref (N0 + 209), .ref (N0 + 210), .ref (N0 + 211), .ref (N0 + 212), .int 0, .ref (N0 + 213), .ref (N0 + 218), .ref (N0 + 223), .ref (N0 + 224), .ref (N0 + 225), .ref (N0 + 226), .ref (N0 + 227), .int 0, .int 0, .ref (N0 + 228), .null, .int (-1), .int 0, .int 0, .int 0]))) (h1 : F (N0 + 165) = some (.inl (cTm, 3, .inr (.inr (.inr (.inr (va_up (va_up (va_up (fun _ => none) 0 (some (N0 + 166))) 1 (some (N0 + 171))) 2 (some (N0 + 176))))))))) (h2 : F (N0 + 171) = some (.inr (11, [.ref (N0 + 172), .ref (N0 + 173), .ref (N0 + 174), .ref (N0 + 175), .int 1]))) (h3 : F (N0 + 166) = some (.inr (11, [.ref (N0 + 167), .ref (N0 + 168), .ref (N0 + 169), .ref (N0 + 170), .int 1]))) (h4 : F (N0 + 172) = some (.inl (cI, 20, .inl (upd (fun _ => 0) 0 97)))) (h5 : F (N0 + 167) = some (.inl (cI, 20, .inl (upd (fun _ => 0) 0 97)))) (h6 : F (N0 + 174) = some (.inl (cI, 20, .inl (upd (fun _ => 0) 0 0)))) (h7 : F (N0 + 169) = some (.inl (cI, 20, .inl (upd (fun _ => 0) 0 0)))) (h8 : F (N0 + 187) = some (.inl (cII, 20, .inr (.inr (.inr (.inr (fun j => if j < 20 then some ((N0 + 188) + j) else none))))))) (h9 : F (N0 + 188) = some (.inl (cI, 20, .inl (fun _ => 0)))) : Met l yX10_similarity wsX10_similarity ({ frames := 3, cells := 4, slots := 2, locals := 72 }) (va_Pc [.ref (N0 + 164), .int 1, .int 0] (fP N0 D vwCl (fty cI cC cL cD cII cTr cTm cIt cB) (fen ql) F n)) (fQd N0 D vwCl (fty cI cC cL cD cII cTr cTm cIt cB) (fun (r : UInt64) (_ : Unit) => r = 4607182418800017408) (fun _ => (fblk (fu (fu F (N0 + 164) (.inr (12, [.ref (N0 + 165), .int 0, .ref (N0 + 181), .int 0, .int 0, .int 0, .int (-1), .ref (ql 24), .ref (N0 + 182), .ref (N0 + 187), .ref (N0 + 208), .ref (N0 + 209), .ref (N0 + 210), .ref (N0 + 211), .ref (N0 + 212), .int 0, .ref (N0 + 213), .ref (N0 + 218), .ref (N0 + 223), .ref (N0 + 224), .ref (N0 + 225), .ref (N0 + 226), .ref (N0 + 227), .int 0, .int 0, .ref (N0 + 228), .null, .int (-1), .int 0, .int 0, .int 0]))) (N0 + 188) (.inl (cI, 20, .inl (upd (fun _ => 0) 0 0)))) n [.inl (cI, 0, .inl (fun _ => 0)), .inl (cI, 0, .inl (fun _ => 0)), .inl (cII, 1, .inr (.inr (.inr (.inr (fun j => if j < 1 then some ((n + 3) + j) else none))))), .inl (cI, 1, .inl (fun _ => 0))])) (fun _ => (n + 4))) 4 2 (fA N0) := by
  refine fx_start 3 rfl rfl (Nat.le_of_ble_eq_true rfl) ?_ rfl
  intro p e s m below meth c ls S hr hlocks hin hG hl
  have hl : lv_has ls 3 [(0, .ref (N0 + 164)), (1, .int 1), (2, .int 0)] := hl
  have lt_h0 := hG.1.lt h0
  have lt_h1 := hG.1.lt h1
  have lt_h2 := hG.1.lt h2
  have lt_h3 := hG.1.lt h3
  have lt_h4 := hG.1.lt h4
  have lt_h5 := hG.1.lt h5
  have lt_h6 := hG.1.lt h6
  have lt_h7 := hG.1.lt h7
  have lt_h8 := hG.1.lt h8
  have lt_h9 := hG.1.lt h9
  refine lv_aload_n S.1 S.2.1 dX10_similarity_0 rfl (lv_at hl 0 rfl) ?_
  refine lv_iload_n S.1 S.2.1 dX10_similarity_1 rfl (lv_at hl 1 rfl) ?_
  refine lv_iload_n S.1 S.2.1 dX10_similarity_2 rfl (lv_at hl 2 rfl) ?_
  refine fx_cVi (As := [.int 1, .int 0]) (rest := []) S hG (k492_X10_areNone (by omega) h0) h0 rfl (cwV 2 S.2.2.2.2 gX10_similarity_X10_areNone rfl rfl rfl (by decide +kernel) ⟨Nat.le_of_ble_eq_true rfl, Nat.le_of_ble_eq_true rfl⟩) rfl hl.1 rfl (Nat.le_of_ble_eq_true rfl) dX10_similarity_3 ⟨Nat.le_of_ble_eq_true rfl, Nat.le_of_ble_eq_true rfl⟩ (fun rv_1 _ H locs hp hG => ?_)
  subst rv_1
  refine lv_if_eq (tgt := 11) S.1 S.2.1 dX10_similarity_6 (by decide) (fun _ => ?_) (fun c => absurd (by decide) c)
  refine gx_dconst1 (v := 4607182418800017408) S (by decide +kernel) dX10_similarity_11 ?_
  refine lv_aload_n S.1 S.2.1 dX10_similarity_12 rfl (lv_at hl 0 rfl) ?_
  refine lv_aload_n S.1 S.2.1 dX10_similarity_13 rfl (lv_at hl 0 rfl) ?_
  refine gx_get (C := RX10) (T := TX10) (N := 31) S hG fu_s i_X10_similarity_X10 rfl 0 (by decide) (by decide +kernel) rfl dX10_similarity_14 ?_
  refine lv_iload_n S.1 S.2.1 dX10_similarity_17 rfl (lv_at hl 1 rfl) ?_
  refine gx_aldq (x := (N0 + 171)) S hG 6 rfl (fu_at (by omega) h1) rfl (fin_l (by decide)) (rfl) dX10_similarity_18 ?_
  refine lv_aload_n S.1 S.2.1 dX10_similarity_19 rfl (lv_at hl 0 rfl) ?_
  refine gx_get (C := RX10) (T := TX10) (N := 31) S hG fu_s i_X10_similarity_X10 rfl 0 (by decide) (by decide +kernel) rfl dX10_similarity_20 ?_
  refine lv_iload_n S.1 S.2.1 dX10_similarity_23 rfl (lv_at hl 2 rfl) ?_
  refine gx_aldq (x := (N0 + 166)) S hG 6 rfl (fu_at (by omega) h1) rfl (fin_l (by decide)) (rfl) dX10_similarity_24 ?_
  refine fx_cVi (As := [.ref (N0 + 171), .ref (N0 + 166)]) (rest := [.double 4607182418800017408]) S hG (k1232_X10_fills (by omega) (fu_at (by omega) h2) (fu_at (by omega) h3) (fu_at (by omega) h4) (fu_at (by omega) h5) (fu_at (by omega) h6) (fu_at (by omega) h7) fu_s (fu_at (by omega) h8) (fu_at (by omega) h9)) fu_s rfl (cwV 2 S.2.2.2.2 gX10_similarity_X10_fills rfl rfl rfl (by decide +kernel) ⟨Nat.le_of_ble_eq_true rfl, Nat.le_of_ble_eq_true rfl⟩) rfl hl.1 rfl (Nat.le_of_ble_eq_true rfl) dX10_similarity_25 ⟨Nat.le_of_ble_eq_true rfl, Nat.le_of_ble_eq_true rfl⟩ (fun rv_2 _ H locs hp hG => ?_)
  subst rv_2
  refine W.widen (k := 4) (n := 2) (by decide) (by decide) ?_
  refine gx_i2d (v := 0) S (by decide +kernel) dX10_similarity_28 ?_
  refine lv_iconst (v := 2) S.1 S.2.1 dX10_similarity_29 (by decide) ?_
  refine lv_aload_n S.1 S.2.1 dX10_similarity_30 rfl (lv_at hl 0 rfl) ?_
  refine gx_get (C := RX10) (T := TX10) (N := 31) S hG (fblk_sk 4 rfl (by omega) (fu_at (by omega) fu_s)) i_X10_similarity_X10 rfl 0 (by decide) (by decide +kernel) rfl dX10_similarity_31 ?_
  refine lv_iload_n S.1 S.2.1 dX10_similarity_34 rfl (lv_at hl 1 rfl) ?_
  refine gx_aldq (x := (N0 + 171)) S hG 6 rfl (fblk_sk 4 rfl (by omega) (fu_at (by omega) (fu_at (by omega) h1))) rfl (fin_l (by decide)) (rfl) dX10_similarity_35 ?_
  refine gx_getN (C := RX9) (T := TX9) (N := 5) S hG (fblk_sk 4 rfl (by omega) (fu_at (by omega) (fu_at (by omega) h2))) i_X10_similarity_X9 rfl 4 (by decide) (List.mem_of_getElem? (i := 4) rfl) rfl dX10_similarity_36 ?_
  refine lv_aload_n S.1 S.2.1 dX10_similarity_39 rfl (lv_at hl 0 rfl) ?_
  refine gx_get (C := RX10) (T := TX10) (N := 31) S hG (fblk_sk 4 rfl (by omega) (fu_at (by omega) fu_s)) i_X10_similarity_X10 rfl 0 (by decide) (by decide +kernel) rfl dX10_similarity_40 ?_
  refine lv_iload_n S.1 S.2.1 dX10_similarity_43 rfl (lv_at hl 2 rfl) ?_
  refine gx_aldq (x := (N0 + 166)) S hG 6 rfl (fblk_sk 4 rfl (by omega) (fu_at (by omega) (fu_at (by omega) h1))) rfl (fin_l (by decide)) (rfl) dX10_similarity_44 ?_
  refine gx_getN (C := RX9) (T := TX9) (N := 5) S hG (fblk_sk 4 rfl (by omega) (fu_at (by omega) (fu_at (by omega) h3))) i_X10_similarity_X9 rfl 4 (by decide) (List.mem_of_getElem? (i := 4) rfl) rfl dX10_similarity_45 ?_
  refine lv_iadd S.1 S.2.1 dX10_similarity_48 ?_
  refine fx_topi (y := 2) (by decide) ?_
  refine lv_imul S.1 S.2.1 dX10_similarity_49 ?_
  refine fx_topi (y := 4) (by decide) ?_
  refine gx_i2d (v := 4616189618054758400) S (by decide +kernel) dX10_similarity_50 ?_
  refine gx_ddiv (v := 0) S (by decide +kernel) (by unfold vf_n64; decide +kernel) dX10_similarity_51 ?_
  refine gx_dsub (v := 4607182418800017408) S (by decide +kernel) (by unfold vf_n64; decide +kernel) dX10_similarity_52 ?_
  have hG : fG N0 D vwCl (fty cI cC cL cD cII cTr cTm cIt cB) (fen ql) s (fblk (fu (fu F (N0 + 164) (.inr (12, [.ref (N0 + 165), .int 0, .ref (N0 + 181), .int 0, .int 0, .int 0, .int (-1), .ref (ql 24), .ref (N0 + 182), .ref (N0 + 187), .ref (N0 + 208), .ref (N0 + 209), .ref (N0 + 210), .ref (N0 + 211), .ref (N0 + 212), .int 0, .ref (N0 + 213), .ref (N0 + 218), .ref (N0 + 223), .ref (N0 + 224), .ref (N0 + 225), .ref (N0 + 226), .ref (N0 + 227), .int 0, .int 0, .ref (N0 + 228), .null, .int (-1), .int 0, .int 0, .int 0]))) (N0 + 188) (.inl (cI, 20, .inl (upd (fun _ => 0) 0 0)))) n [.inl (cI, 0, .inl (fun _ => 0)), .inl (cI, 0, .inl (fun _ => 0)), .inl (cII, 1, .inr (.inr (.inr (.inr (fun j => if j < 1 then some ((n + 3) + j) else none))))), .inl (cI, 1, .inl (fun _ => 0))]) (n + 4) H locs := hG.weak (fun a e h => by
    rcases fblk_cases 4 rfl h with ⟨k, rfl, hlt, hk⟩ | ⟨hout, h⟩
    · rcases (show k = 0 ∨ k = 1 ∨ k = 2 ∨ k = 3 by omega) with rfl | rfl | rfl | rfl
      · cases (show some (.inl (cI, 0, .inl (fun _ => 0))) = some e from hk); exact (fblk_at 0 (by omega) rfl)
      · cases (show some (.inl (cI, 0, .inl (fun _ => 0))) = some e from hk); exact (fblk_at 1 (by omega) rfl)
      · cases (show some (.inl (cII, 1, .inr (.inr (.inr (.inr (fun j => if j < 1 then some ((n + 3) + j) else none)))))) = some e from hk); exact (fblk_at 2 (by omega) rfl)
      · cases (show some (.inl (cI, 1, .inl (fun _ => 0))) = some e from hk); exact (fblk_at 3 (by omega) rfl)
    · rcases fu_cases h with ⟨rfl, he⟩ | ⟨hne0, h⟩
      · cases he; exact (fblk_sk 4 rfl (by omega) fu_s)
      · skip
        rcases fu_cases h with ⟨rfl, he⟩ | ⟨hne1, h⟩
        · cases he; exact (fblk_sk 4 rfl (by omega) (fu_at (by omega) fu_s))
        · exact (fblk_sk 4 rfl (by omega) (fu_at (by omega) (fu_at (by omega) h))))
  exact fx_dret S hr hlocks () hG (rfl) dX10_similarity_53
theorem k1395_X7_similarity {n : Nat} (hn : N0 + 231 ≤ n) (h0 : F N0 = some (.inr (9, [.ref (N0 + 1), .ref (N0 + 2), .ref (N0 + 11), .ref (N0 + 13), .ref (N0 + 63), .ref (N0 + 65), .ref (N0 + 85), .int (-1), .int (-1), .int 32]))) (h1 : F (N0 + 1) = some (.inl (cTr, 3, .inr (.inr (.inr (.inr (va_up (va_up (va_up (fun _ => none) 0 (some (N0 + 143))) 1 (some (N0 + 150))) 2 (some (N0 + 157))))))))) (h2 : F (N0 + 13) = some (.inr (3, [.ref (N0 + 14), .ref (N0 + 35), .ref (N0 + 57), .ref (N0 + 58), .ref (N0 + 59), .ref (N0 + 60), .int 0, .int 0, .ref (N0 + 61), .ref (N0 + 62)]))) (h3 : F (N0 + 150) = some (.inr (7, [.ref (N0 + 151), .ref (N0 + 152), .ref (N0 + 153), .ref (N0 + 154), .ref (N0 + 155), .ref (N0 + 156), .int 1]))) (h4 : F (N0 + 57) = some (.inl (cI, 20, .inl (fun _ => 0)))) (h5 : F (N0 + 58) = some (.inl (cI, 20, .inl (fun _ => 0)))) (h6 : F (N0 + 35) = some (.inl (cII, 21, .inr (.inr (.inr (.inr (fun j => if j < 21 then some ((N0 + 36) + j) else none))))))) (h7 : F (N0 + 36) = some (.inl (cI, 21, .inl (fun _ => 0)))) (h8 : F (N0 + 14) = some (.inl (cII, 20, .inr (.inr (.inr (.inr (fun j => if j < 20 then some ((N0 + 15) + j) else none))))))) (h9 : F (N0 + 151) = some (.inl (cC, 20, .inl (upd (fun _ => 0) 0 97)))) (h10 : F (N0 + 153) = some (.inl (cI, 20, .inl (fun _ => 0)))) (h11 : F (N0 + 15) = some (.inl (cI, 20, .inl (fun _ => 0)))) : Met l yX7_similarity wsX7_similarity ({ frames := 3, cells := 0, slots := 0, locals := 73 }) (va_Pc [.ref N0, .int 1, .int 1] (fP N0 D vwCl (fty cI cC cL cD cII cTr cTm cIt cB) (fen ql) F n)) (fQd N0 D vwCl (fty cI cC cL cD cII cTr cTm cIt cB) (fun (r : UInt64) (_ : Unit) => r = 4607182418800017408) (fun _ => (fu (fu (fu (fu (fu F (N0 + 57) (.inl (cI, 20, .inl (upd (fun _ => 0) 0 1)))) (N0 + 58) (.inl (cI, 20, .inl (upd (fun _ => 0) 0 1)))) (N0 + 13) (.inr (3, [.ref (N0 + 14), .ref (N0 + 35), .ref (N0 + 57), .ref (N0 + 58), .ref (N0 + 59), .ref (N0 + 60), .int 0, .int 0, .ref (N0 + 61), .ref (N0 + 62)]))) (N0 + 36) (.inl (cI, 21, .inl (upd (fun _ => 0) 0 0)))) (N0 + 15) (.inl (cI, 20, .inl (upd (fun _ => 0) 0 0))))) (fun _ => n)) 0 0 (fA N0) := by
  refine fx_start 9 rfl rfl (Nat.le_of_ble_eq_true rfl) ?_ rfl
  intro p e s m below meth c ls S hr hlocks hin hG hl
  have hl : lv_has ls 9 [(0, .ref N0), (1, .int 1), (2, .int 1)] := hl
  have lt_h0 := hG.1.lt h0
  have lt_h1 := hG.1.lt h1
  have lt_h2 := hG.1.lt h2
  have lt_h3 := hG.1.lt h3
  have lt_h4 := hG.1.lt h4
  have lt_h5 := hG.1.lt h5
  have lt_h6 := hG.1.lt h6
  have lt_h7 := hG.1.lt h7
  have lt_h8 := hG.1.lt h8
  have lt_h9 := hG.1.lt h9
  have lt_h10 := hG.1.lt h10
  have lt_h11 := hG.1.lt h11
  refine lv_aload_n S.1 S.2.1 dX7_similarity_0 rfl (lv_at hl 0 rfl) ?_
  refine lv_iload_n S.1 S.2.1 dX7_similarity_1 rfl (lv_at hl 1 rfl) ?_
  refine fx_cVr (As := [.int 1]) (rest := []) S hG (k42_X7_treeAt (by omega) h0 h1) h0 rfl (cwV 1 S.2.2.2.2 gX7_similarity_X7_treeAt rfl rfl rfl (by decide +kernel) ⟨Nat.le_of_ble_eq_true rfl, Nat.le_of_ble_eq_true rfl⟩) rfl hl.1 rfl (Nat.le_of_ble_eq_true rfl) dX7_similarity_2 ⟨Nat.le_of_ble_eq_true rfl, Nat.le_of_ble_eq_true rfl⟩ (fun rv_1 _ H locs hp hG => ?_)
  subst rv_1
  refine lv_astore_n (lv' := [(3, .ref (N0 + 150)), (0, .ref N0), (1, .int 1), (2, .int 1)]) S.1 S.2.1 dX7_similarity_5 rfl hl (by decide) rfl (fun ls hl => ?_)
  refine lv_aload_n S.1 S.2.1 dX7_similarity_6 rfl (lv_at hl 1 rfl) ?_
  refine lv_iload_n S.1 S.2.1 dX7_similarity_7 rfl (lv_at hl 3 rfl) ?_
  refine fx_cVr (As := [.int 1]) (rest := []) S hG (k42_X7_treeAt (by omega) h0 h1) h0 rfl (cwV 1 S.2.2.2.2 gX7_similarity_X7_treeAt rfl rfl rfl (by decide +kernel) ⟨Nat.le_of_ble_eq_true rfl, Nat.le_of_ble_eq_true rfl⟩) rfl hl.1 rfl (Nat.le_of_ble_eq_true rfl) dX7_similarity_8 ⟨Nat.le_of_ble_eq_true rfl, Nat.le_of_ble_eq_true rfl⟩ (fun rv_2 _ H locs hp hG => ?_)
  subst rv_2
  refine lv_astore (lv' := [(4, .ref (N0 + 150)), (3, .ref (N0 + 150)), (0, .ref N0), (1, .int 1), (2, .int 1)]) S.1 S.2.1 dX7_similarity_11 hl (by decide) rfl (fun ls hl => ?_)
  refine lv_aload_n S.1 S.2.1 dX7_similarity_13 rfl (lv_at hl 2 rfl) ?_
  refine gx_get (C := RX7) (T := TX7) (N := 10) S hG h0 i_X7_similarity_X7 rfl 3 (by decide) (by decide +kernel) rfl dX7_similarity_14 ?_
  refine lv_aload_n S.1 S.2.1 dX7_similarity_17 rfl (lv_at hl 1 rfl) ?_
  refine lv_aload S.1 S.2.1 dX7_similarity_18 (lv_at hl 0 rfl) ?_
  refine fx_cVi (As := [.ref (N0 + 150), .ref (N0 + 150)]) (rest := []) S hG (k1237_X1_leastCost (by omega) h2 h3 h4 h5 h6 h7 h8 h9 h10 h11) h2 rfl (cwV 2 S.2.2.2.2 gX7_similarity_X1_leastCost rfl rfl rfl (by decide +kernel) ⟨Nat.le_of_ble_eq_true rfl, Nat.le_of_ble_eq_true rfl⟩) rfl hl.1 rfl (Nat.le_of_ble_eq_true rfl) dX7_similarity_20 ⟨Nat.le_of_ble_eq_true rfl, Nat.le_of_ble_eq_true rfl⟩ (fun rv_3 _ H locs hp hG => ?_)
  subst rv_3
  refine gx_i2d (v := 0) S (by decide +kernel) dX7_similarity_23 ?_
  refine lv_dstore (lv' := [(5, .double 0), (4, .ref (N0 + 150)), (3, .ref (N0 + 150)), (0, .ref N0), (1, .int 1), (2, .int 1)]) S.1 S.2.1 dX7_similarity_24 hl (by decide) rfl (fun ls hl => ?_)
  refine lv_iconst (v := 2) S.1 S.2.1 dX7_similarity_26 (by decide) ?_
  refine lv_aload_n S.1 S.2.1 dX7_similarity_27 rfl (lv_at hl 2 rfl) ?_
  refine gx_get (C := RX5) (T := TX5) (N := 7) S hG (fu_at (by omega) (fu_at (by omega) (fu_at (by omega) (fu_at (by omega) (fu_at (by omega) h3))))) i_X7_similarity_X5 rfl 6 (by decide) (by decide +kernel) rfl dX7_similarity_28 ?_
  refine lv_aload S.1 S.2.1 dX7_similarity_31 (lv_at hl 1 rfl) ?_
  refine gx_get (C := RX5) (T := TX5) (N := 7) S hG (fu_at (by omega) (fu_at (by omega) (fu_at (by omega) (fu_at (by omega) (fu_at (by omega) h3))))) i_X7_similarity_X5 rfl 6 (by decide) (by decide +kernel) rfl dX7_similarity_33 ?_
  refine lv_iadd S.1 S.2.1 dX7_similarity_36 ?_
  refine fx_topi (y := 2) (by decide) ?_
  refine lv_imul S.1 S.2.1 dX7_similarity_37 ?_
  refine fx_topi (y := 4) (by decide) ?_
  refine gx_i2d (v := 4616189618054758400) S (by decide +kernel) dX7_similarity_38 ?_
  refine lv_dstore (lv' := [(7, .double 4616189618054758400), (5, .double 0), (4, .ref (N0 + 150)), (3, .ref (N0 + 150)), (0, .ref N0), (1, .int 1), (2, .int 1)]) S.1 S.2.1 dX7_similarity_39 hl (by decide) rfl (fun ls hl => ?_)
  refine lv_dload S.1 S.2.1 dX7_similarity_41 (lv_at hl 0 rfl) ?_
  refine gx_dconst0 (v := 0) S (by decide +kernel) dX7_similarity_43 ?_
  refine gx_dcmp (v := 1) S (by decide +kernel) dX7_similarity_44 ?_
  refine lv_if_le (tgt := 58) S.1 S.2.1 dX7_similarity_45 (by decide) (fun c => absurd c (by decide)) (fun _ => ?_)
  refine gx_dconst1 (v := 4607182418800017408) S (by decide +kernel) dX7_similarity_48 ?_
  refine lv_dload S.1 S.2.1 dX7_similarity_49 (lv_at hl 1 rfl) ?_
  refine lv_dload S.1 S.2.1 dX7_similarity_51 (lv_at hl 0 rfl) ?_
  refine gx_ddiv (v := 0) S (by decide +kernel) (by unfold vf_n64; decide +kernel) dX7_similarity_53 ?_
  refine gx_dsub (v := 4607182418800017408) S (by decide +kernel) (by unfold vf_n64; decide +kernel) dX7_similarity_54 ?_
  refine lv_goto (tgt := 59) S.1 S.2.1 dX7_similarity_55 (by decide) ?_
  exact fx_dret S hr hlocks () hG (rfl) dX7_similarity_59
theorem k1396_L_similarity {n : Nat} (hn : N0 + 231 ≤ n) (h0 : F N0 = some (.inr (9, [.ref (N0 + 1), .ref (N0 + 2), .ref (N0 + 11), .ref (N0 + 13), .ref (N0 + 63), .ref (N0 + 65), .ref (N0 + 85), .int (-1), .int (-1), .int 32]))) (h1 : F (N0 + 1) = some (.inl (cTr, 3, .inr (.inr (.inr (.inr (va_up (va_up (va_up (fun _ => none) 0 (some (N0 + 143))) 1 (some (N0 + 150))) 2 (some (N0 + 157))))))))) (h2 : F (N0 + 13) = some (.inr (3, [.ref (N0 + 14), .ref (N0 + 35), .ref (N0 + 57), .ref (N0 + 58), .ref (N0 + 59), .ref (N0 + 60), .int 0, .int 0, .ref (N0 + 61), .ref (N0 + 62)]))) (h3 : F (N0 + 150) = some (.inr (7, [.ref (N0 + 151), .ref (N0 + 152), .ref (N0 + 153), .ref (N0 + 154), .ref (N0 + 155), .ref (N0 + 156), .int 1]))) (h4 : F (N0 + 57) = some (.inl (cI, 20, .inl (fun _ => 0)))) (h5 : F (N0 + 58) = some (.inl (cI, 20, .inl (fun _ => 0)))) (h6 : F (N0 + 35) = some (.inl (cII, 21, .inr (.inr (.inr (.inr (fun j => if j < 21 then some ((N0 + 36) + j) else none))))))) (h7 : F (N0 + 36) = some (.inl (cI, 21, .inl (fun _ => 0)))) (h8 : F (N0 + 14) = some (.inl (cII, 20, .inr (.inr (.inr (.inr (fun j => if j < 20 then some ((N0 + 15) + j) else none))))))) (h9 : F (N0 + 151) = some (.inl (cC, 20, .inl (upd (fun _ => 0) 0 97)))) (h10 : F (N0 + 153) = some (.inl (cI, 20, .inl (fun _ => 0)))) (h11 : F (N0 + 15) = some (.inl (cI, 20, .inl (fun _ => 0)))) (h12 : F (N0 + 230) = some (.inl (cD, 1, .inr (.inr (.inr (.inl (fun _ => 0))))))) : Met l yL_similarity wsL_similarity ({ frames := 4, cells := 0, slots := 0, locals := 101 }) (va_Pc [.ref N0, .int 1, .int 1, .ref (N0 + 230)] (fP N0 D vwCl (fty cI cC cL cD cII cTr cTm cIt cB) (fen ql) F n)) (fQi N0 D vwCl (fty cI cC cL cD cII cTr cTm cIt cB) (fun (r : Int32) (_ : Unit) => r = 0) (fun _ => (fu (fu (fu (fu (fu (fu F (N0 + 57) (.inl (cI, 20, .inl (upd (fun _ => 0) 0 1)))) (N0 + 58) (.inl (cI, 20, .inl (upd (fun _ => 0) 0 1)))) (N0 + 13) (.inr (3, [.ref (N0 + 14), .ref (N0 + 35), .ref (N0 + 57), .ref (N0 + 58), .ref (N0 + 59), .ref (N0 + 60), .int 0, .int 0, .ref (N0 + 61), .ref (N0 + 62)]))) (N0 + 36) (.inl (cI, 21, .inl (upd (fun _ => 0) 0 0)))) (N0 + 15) (.inl (cI, 20, .inl (upd (fun _ => 0) 0 0)))) (N0 + 230) (.inl (cD, 1, .inr (.inr (.inr (.inl (vf_upd (fun _ => 0) 0 4607182418800017408)))))))) (fun _ => n)) 0 0 (fA N0) := by
  refine fx_startW (hh := [(0, 9, 12, 19)]) 5 rfl rfl (Nat.le_of_ble_eq_true rfl) ?_ rfl
  intro p e s m below meth c ls S htab hr hlocks hG hl
  have hl : lv_has ls 5 [(0, .ref N0), (1, .int 1), (2, .int 1), (3, .ref (N0 + 230))] := hl
  have lt_h0 := hG.1.lt h0
  have lt_h1 := hG.1.lt h1
  have lt_h2 := hG.1.lt h2
  have lt_h3 := hG.1.lt h3
  have lt_h4 := hG.1.lt h4
  have lt_h5 := hG.1.lt h5
  have lt_h6 := hG.1.lt h6
  have lt_h7 := hG.1.lt h7
  have lt_h8 := hG.1.lt h8
  have lt_h9 := hG.1.lt h9
  have lt_h10 := hG.1.lt h10
  have lt_h11 := hG.1.lt h11
  have lt_h12 := hG.1.lt h12
  refine lv_aload_n S.1 S.2.1 dL_similarity_0 rfl (lv_at hl 3 rfl) ?_
  refine lv_iconst (v := 0) S.1 S.2.1 dL_similarity_1 (by decide) ?_
  refine lv_aload_n S.1 S.2.1 dL_similarity_2 rfl (lv_at hl 0 rfl) ?_
  refine lv_iload_n S.1 S.2.1 dL_similarity_3 rfl (lv_at hl 1 rfl) ?_
  refine lv_iload_n S.1 S.2.1 dL_similarity_4 rfl (lv_at hl 2 rfl) ?_
  refine fx_cVd (As := [.int 1, .int 1]) (rest := [.int 0, .ref (N0 + 230)]) S hG (k1395_X7_similarity (by omega) h0 h1 h2 h3 h4 h5 h6 h7 h8 h9 h10 h11) h0 rfl (cwV 2 S.2.2.2.2 gL_similarity_X7_similarity rfl rfl rfl (by decide +kernel) ⟨Nat.le_of_ble_eq_true rfl, Nat.le_of_ble_eq_true rfl⟩) rfl hl.1 rfl (Nat.le_of_ble_eq_true rfl) dL_similarity_5 ⟨Nat.le_of_ble_eq_true rfl, Nat.le_of_ble_eq_true rfl⟩ (fun rv_1 _ H locs hp hG => ?_)
  subst rv_1
  refine gx_dast (f' := vf_upd (fun _ => 0) 0 4607182418800017408) S hG 3 (fu_at (by omega) (fu_at (by omega) (fu_at (by omega) (fu_at (by omega) (fu_at (by omega) h12))))) rfl (fin_l (by decide)) dL_similarity_8 rfl (fun H locs hG => ?_)
  refine lv_goto (tgt := 16) S.1 S.2.1 dL_similarity_9 (by decide) ?_
  refine lv_iconst (v := 0) S.1 S.2.1 dL_similarity_16 (by decide) ?_
  exact fx_iret S hr hlocks () hG (rfl) dL_similarity_17
theorem k1397_X10_similarity {n : Nat} (hn : N0 + 231 ≤ n) (h0 : F (N0 + 164) = some (.inr (12, [.ref (N0 + 165), .int 0, .ref (N0 + 181), .int 0, .int 0, .int 0, .int (-1), .ref (ql 24), .ref (N0 + 182), .ref (N0 + 187), .ref (N0 + 208), .ref (N0 + 209), .ref (N0 + 210), .ref (N0 + 211), .ref (N0 + 212), .int 0, .ref (N0 + 213), .ref (N0 + 218), .ref (N0 + 223), .ref (N0 + 224), .ref (N0 + 225), .ref (N0 + 226), .ref (N0 + 227), .int 0, .int 0, .ref (N0 + 228), .null, .int (-1), .int 0, .int 0, .int 0]))) (h1 : F (N0 + 165) = some (.inl (cTm, 3, .inr (.inr (.inr (.inr (va_up (va_up (va_up (fun _ => none) 0 (some (N0 + 166))) 1 (some (N0 + 171))) 2 (some (N0 + 176))))))))) (h2 : F (N0 + 171) = some (.inr (11, [.ref (N0 + 172), .ref (N0 + 173), .ref (N0 + 174), .ref (N0 + 175), .int 1]))) (h3 : F (N0 + 172) = some (.inl (cI, 20, .inl (upd (fun _ => 0) 0 97)))) (h4 : F (N0 + 174) = some (.inl (cI, 20, .inl (upd (fun _ => 0) 0 0)))) (h5 : F (N0 + 187) = some (.inl (cII, 20, .inr (.inr (.inr (.inr (fun j => if j < 20 then some ((N0 + 188) + j) else none))))))) (h6 : F (N0 + 188) = some (.inl (cI, 20, .inl (fun _ => 0)))) : Met l yX10_similarity wsX10_similarity ({ frames := 3, cells := 4, slots := 2, locals := 72 }) (va_Pc [.ref (N0 + 164), .int 1, .int 1] (fP N0 D vwCl (fty cI cC cL cD cII cTr cTm cIt cB) (fen ql) F n)) (fQd N0 D vwCl (fty cI cC cL cD cII cTr cTm cIt cB) (fun (r : UInt64) (_ : Unit) => r = 4607182418800017408) (fun _ => (fblk (fu (fu F (N0 + 164) (.inr (12, [.ref (N0 + 165), .int 0, .ref (N0 + 181), .int 0, .int 0, .int 0, .int (-1), .ref (ql 24), .ref (N0 + 182), .ref (N0 + 187), .ref (N0 + 208), .ref (N0 + 209), .ref (N0 + 210), .ref (N0 + 211), .ref (N0 + 212), .int 0, .ref (N0 + 213), .ref (N0 + 218), .ref (N0 + 223), .ref (N0 + 224), .ref (N0 + 225), .ref (N0 + 226), .ref (N0 + 227), .int 0, .int 0, .ref (N0 + 228), .null, .int (-1), .int 0, .int 0, .int 0]))) (N0 + 188) (.inl (cI, 20, .inl (upd (fun _ => 0) 0 0)))) n [.inl (cI, 0, .inl (fun _ => 0)), .inl (cI, 0, .inl (fun _ => 0)), .inl (cII, 1, .inr (.inr (.inr (.inr (fun j => if j < 1 then some ((n + 3) + j) else none))))), .inl (cI, 1, .inl (fun _ => 0))])) (fun _ => (n + 4))) 4 2 (fA N0) := by
  refine fx_start 3 rfl rfl (Nat.le_of_ble_eq_true rfl) ?_ rfl
  intro p e s m below meth c ls S hr hlocks hin hG hl
  have hl : lv_has ls 3 [(0, .ref (N0 + 164)), (1, .int 1), (2, .int 1)] := hl
  have lt_h0 := hG.1.lt h0
  have lt_h1 := hG.1.lt h1
  have lt_h2 := hG.1.lt h2
  have lt_h3 := hG.1.lt h3
  have lt_h4 := hG.1.lt h4
  have lt_h5 := hG.1.lt h5
  have lt_h6 := hG.1.lt h6
  refine lv_aload_n S.1 S.2.1 dX10_similarity_0 rfl (lv_at hl 0 rfl) ?_
  refine lv_iload_n S.1 S.2.1 dX10_similarity_1 rfl (lv_at hl 1 rfl) ?_
  refine lv_iload_n S.1 S.2.1 dX10_similarity_2 rfl (lv_at hl 2 rfl) ?_
  refine fx_cVi (As := [.int 1, .int 1]) (rest := []) S hG (k498_X10_areNone (by omega) h0) h0 rfl (cwV 2 S.2.2.2.2 gX10_similarity_X10_areNone rfl rfl rfl (by decide +kernel) ⟨Nat.le_of_ble_eq_true rfl, Nat.le_of_ble_eq_true rfl⟩) rfl hl.1 rfl (Nat.le_of_ble_eq_true rfl) dX10_similarity_3 ⟨Nat.le_of_ble_eq_true rfl, Nat.le_of_ble_eq_true rfl⟩ (fun rv_1 _ H locs hp hG => ?_)
  subst rv_1
  refine lv_if_eq (tgt := 11) S.1 S.2.1 dX10_similarity_6 (by decide) (fun _ => ?_) (fun c => absurd (by decide) c)
  refine gx_dconst1 (v := 4607182418800017408) S (by decide +kernel) dX10_similarity_11 ?_
  refine lv_aload_n S.1 S.2.1 dX10_similarity_12 rfl (lv_at hl 0 rfl) ?_
  refine lv_aload_n S.1 S.2.1 dX10_similarity_13 rfl (lv_at hl 0 rfl) ?_
  refine gx_get (C := RX10) (T := TX10) (N := 31) S hG fu_s i_X10_similarity_X10 rfl 0 (by decide) (by decide +kernel) rfl dX10_similarity_14 ?_
  refine lv_iload_n S.1 S.2.1 dX10_similarity_17 rfl (lv_at hl 1 rfl) ?_
  refine gx_aldq (x := (N0 + 171)) S hG 6 rfl (fu_at (by omega) h1) rfl (fin_l (by decide)) (rfl) dX10_similarity_18 ?_
  refine lv_aload_n S.1 S.2.1 dX10_similarity_19 rfl (lv_at hl 0 rfl) ?_
  refine gx_get (C := RX10) (T := TX10) (N := 31) S hG fu_s i_X10_similarity_X10 rfl 0 (by decide) (by decide +kernel) rfl dX10_similarity_20 ?_
  refine lv_iload_n S.1 S.2.1 dX10_similarity_23 rfl (lv_at hl 2 rfl) ?_
  refine gx_aldq (x := (N0 + 171)) S hG 6 rfl (fu_at (by omega) h1) rfl (fin_l (by decide)) (rfl) dX10_similarity_24 ?_
  refine fx_cVi (As := [.ref (N0 + 171), .ref (N0 + 171)]) (rest := [.double 4607182418800017408]) S hG (k1241_X10_fills (by omega) (fu_at (by omega) h2) (fu_at (by omega) h3) (fu_at (by omega) h4) fu_s (fu_at (by omega) h5) (fu_at (by omega) h6)) fu_s rfl (cwV 2 S.2.2.2.2 gX10_similarity_X10_fills rfl rfl rfl (by decide +kernel) ⟨Nat.le_of_ble_eq_true rfl, Nat.le_of_ble_eq_true rfl⟩) rfl hl.1 rfl (Nat.le_of_ble_eq_true rfl) dX10_similarity_25 ⟨Nat.le_of_ble_eq_true rfl, Nat.le_of_ble_eq_true rfl⟩ (fun rv_2 _ H locs hp hG => ?_)
  subst rv_2
  refine W.widen (k := 4) (n := 2) (by decide) (by decide) ?_
  refine gx_i2d (v := 0) S (by decide +kernel) dX10_similarity_28 ?_
  refine lv_iconst (v := 2) S.1 S.2.1 dX10_similarity_29 (by decide) ?_
  refine lv_aload_n S.1 S.2.1 dX10_similarity_30 rfl (lv_at hl 0 rfl) ?_
  refine gx_get (C := RX10) (T := TX10) (N := 31) S hG (fblk_sk 4 rfl (by omega) (fu_at (by omega) fu_s)) i_X10_similarity_X10 rfl 0 (by decide) (by decide +kernel) rfl dX10_similarity_31 ?_
  refine lv_iload_n S.1 S.2.1 dX10_similarity_34 rfl (lv_at hl 1 rfl) ?_
  refine gx_aldq (x := (N0 + 171)) S hG 6 rfl (fblk_sk 4 rfl (by omega) (fu_at (by omega) (fu_at (by omega) h1))) rfl (fin_l (by decide)) (rfl) dX10_similarity_35 ?_
  refine gx_getN (C := RX9) (T := TX9) (N := 5) S hG (fblk_sk 4 rfl (by omega) (fu_at (by omega) (fu_at (by omega) h2))) i_X10_similarity_X9 rfl 4 (by decide) (List.mem_of_getElem? (i := 4) rfl) rfl dX10_similarity_36 ?_
  refine lv_aload_n S.1 S.2.1 dX10_similarity_39 rfl (lv_at hl 0 rfl) ?_
  refine gx_get (C := RX10) (T := TX10) (N := 31) S hG (fblk_sk 4 rfl (by omega) (fu_at (by omega) fu_s)) i_X10_similarity_X10 rfl 0 (by decide) (by decide +kernel) rfl dX10_similarity_40 ?_
  refine lv_iload_n S.1 S.2.1 dX10_similarity_43 rfl (lv_at hl 2 rfl) ?_
  refine gx_aldq (x := (N0 + 171)) S hG 6 rfl (fblk_sk 4 rfl (by omega) (fu_at (by omega) (fu_at (by omega) h1))) rfl (fin_l (by decide)) (rfl) dX10_similarity_44 ?_
  refine gx_getN (C := RX9) (T := TX9) (N := 5) S hG (fblk_sk 4 rfl (by omega) (fu_at (by omega) (fu_at (by omega) h2))) i_X10_similarity_X9 rfl 4 (by decide) (List.mem_of_getElem? (i := 4) rfl) rfl dX10_similarity_45 ?_
  refine lv_iadd S.1 S.2.1 dX10_similarity_48 ?_
  refine fx_topi (y := 2) (by decide) ?_
  refine lv_imul S.1 S.2.1 dX10_similarity_49 ?_
  refine fx_topi (y := 4) (by decide) ?_
  refine gx_i2d (v := 4616189618054758400) S (by decide +kernel) dX10_similarity_50 ?_
  refine gx_ddiv (v := 0) S (by decide +kernel) (by unfold vf_n64; decide +kernel) dX10_similarity_51 ?_
  refine gx_dsub (v := 4607182418800017408) S (by decide +kernel) (by unfold vf_n64; decide +kernel) dX10_similarity_52 ?_
  have hG : fG N0 D vwCl (fty cI cC cL cD cII cTr cTm cIt cB) (fen ql) s (fblk (fu (fu F (N0 + 164) (.inr (12, [.ref (N0 + 165), .int 0, .ref (N0 + 181), .int 0, .int 0, .int 0, .int (-1), .ref (ql 24), .ref (N0 + 182), .ref (N0 + 187), .ref (N0 + 208), .ref (N0 + 209), .ref (N0 + 210), .ref (N0 + 211), .ref (N0 + 212), .int 0, .ref (N0 + 213), .ref (N0 + 218), .ref (N0 + 223), .ref (N0 + 224), .ref (N0 + 225), .ref (N0 + 226), .ref (N0 + 227), .int 0, .int 0, .ref (N0 + 228), .null, .int (-1), .int 0, .int 0, .int 0]))) (N0 + 188) (.inl (cI, 20, .inl (upd (fun _ => 0) 0 0)))) n [.inl (cI, 0, .inl (fun _ => 0)), .inl (cI, 0, .inl (fun _ => 0)), .inl (cII, 1, .inr (.inr (.inr (.inr (fun j => if j < 1 then some ((n + 3) + j) else none))))), .inl (cI, 1, .inl (fun _ => 0))]) (n + 4) H locs := hG.weak (fun a e h => by
    rcases fblk_cases 4 rfl h with ⟨k, rfl, hlt, hk⟩ | ⟨hout, h⟩
    · rcases (show k = 0 ∨ k = 1 ∨ k = 2 ∨ k = 3 by omega) with rfl | rfl | rfl | rfl
      · cases (show some (.inl (cI, 0, .inl (fun _ => 0))) = some e from hk); exact (fblk_at 0 (by omega) rfl)
      · cases (show some (.inl (cI, 0, .inl (fun _ => 0))) = some e from hk); exact (fblk_at 1 (by omega) rfl)
      · cases (show some (.inl (cII, 1, .inr (.inr (.inr (.inr (fun j => if j < 1 then some ((n + 3) + j) else none)))))) = some e from hk); exact (fblk_at 2 (by omega) rfl)
      · cases (show some (.inl (cI, 1, .inl (fun _ => 0))) = some e from hk); exact (fblk_at 3 (by omega) rfl)
    · rcases fu_cases h with ⟨rfl, he⟩ | ⟨hne0, h⟩
      · cases he; exact (fblk_sk 4 rfl (by omega) fu_s)
      · skip
        rcases fu_cases h with ⟨rfl, he⟩ | ⟨hne1, h⟩
        · cases he; exact (fblk_sk 4 rfl (by omega) (fu_at (by omega) fu_s))
        · exact (fblk_sk 4 rfl (by omega) (fu_at (by omega) (fu_at (by omega) h))))
  exact fx_dret S hr hlocks () hG (rfl) dX10_similarity_53
theorem k1398_X7_similarity {n : Nat} (hn : N0 + 231 ≤ n) (h0 : F N0 = some (.inr (9, [.ref (N0 + 1), .ref (N0 + 2), .ref (N0 + 11), .ref (N0 + 13), .ref (N0 + 63), .ref (N0 + 65), .ref (N0 + 85), .int (-1), .int (-1), .int 32]))) (h1 : F (N0 + 1) = some (.inl (cTr, 3, .inr (.inr (.inr (.inr (va_up (va_up (va_up (fun _ => none) 0 (some (N0 + 143))) 1 (some (N0 + 150))) 2 (some (N0 + 157))))))))) (h2 : F (N0 + 13) = some (.inr (3, [.ref (N0 + 14), .ref (N0 + 35), .ref (N0 + 57), .ref (N0 + 58), .ref (N0 + 59), .ref (N0 + 60), .int 0, .int 0, .ref (N0 + 61), .ref (N0 + 62)]))) (h3 : F (N0 + 150) = some (.inr (7, [.ref (N0 + 151), .ref (N0 + 152), .ref (N0 + 153), .ref (N0 + 154), .ref (N0 + 155), .ref (N0 + 156), .int 1]))) (h4 : F (N0 + 57) = some (.inl (cI, 20, .inl (fun _ => 0)))) (h5 : F (N0 + 157) = some (.inr (7, [.ref (N0 + 158), .ref (N0 + 159), .ref (N0 + 160), .ref (N0 + 161), .ref (N0 + 162), .ref (N0 + 163), .int 1]))) (h6 : F (N0 + 58) = some (.inl (cI, 20, .inl (fun _ => 0)))) (h7 : F (N0 + 35) = some (.inl (cII, 21, .inr (.inr (.inr (.inr (fun j => if j < 21 then some ((N0 + 36) + j) else none))))))) (h8 : F (N0 + 36) = some (.inl (cI, 21, .inl (fun _ => 0)))) (h9 : F (N0 + 14) = some (.inl (cII, 20, .inr (.inr (.inr (.inr (fun j => if j < 20 then some ((N0 + 15) + j) else none))))))) (h10 : F (N0 + 151) = some (.inl (cC, 20, .inl (upd (fun _ => 0) 0 97)))) (h11 : F (N0 + 158) = some (.inl (cC, 20, .inl (upd (fun _ => 0) 0 97)))) (h12 : F (N0 + 153) = some (.inl (cI, 20, .inl (fun _ => 0)))) (h13 : F (N0 + 160) = some (.inl (cI, 20, .inl (fun _ => 0)))) (h14 : F (N0 + 15) = some (.inl (cI, 20, .inl (fun _ => 0)))) : Met l yX7_similarity wsX7_similarity ({ frames := 3, cells := 0, slots := 0, locals := 73 }) (va_Pc [.ref N0, .int 1, .int 2] (fP N0 D vwCl (fty cI cC cL cD cII cTr cTm cIt cB) (fen ql) F n)) (fQd N0 D vwCl (fty cI cC cL cD cII cTr cTm cIt cB) (fun (r : UInt64) (_ : Unit) => r = 4607182418800017408) (fun _ => (fu (fu (fu (fu (fu F (N0 + 57) (.inl (cI, 20, .inl (upd (fun _ => 0) 0 1)))) (N0 + 58) (.inl (cI, 20, .inl (upd (fun _ => 0) 0 1)))) (N0 + 13) (.inr (3, [.ref (N0 + 14), .ref (N0 + 35), .ref (N0 + 57), .ref (N0 + 58), .ref (N0 + 59), .ref (N0 + 60), .int 0, .int 0, .ref (N0 + 61), .ref (N0 + 62)]))) (N0 + 36) (.inl (cI, 21, .inl (upd (fun _ => 0) 0 0)))) (N0 + 15) (.inl (cI, 20, .inl (upd (fun _ => 0) 0 0))))) (fun _ => n)) 0 0 (fA N0) := by
  refine fx_start 9 rfl rfl (Nat.le_of_ble_eq_true rfl) ?_ rfl
  intro p e s m below meth c ls S hr hlocks hin hG hl
  have hl : lv_has ls 9 [(0, .ref N0), (1, .int 1), (2, .int 2)] := hl
  have lt_h0 := hG.1.lt h0
  have lt_h1 := hG.1.lt h1
  have lt_h2 := hG.1.lt h2
  have lt_h3 := hG.1.lt h3
  have lt_h4 := hG.1.lt h4
  have lt_h5 := hG.1.lt h5
  have lt_h6 := hG.1.lt h6
  have lt_h7 := hG.1.lt h7
  have lt_h8 := hG.1.lt h8
  have lt_h9 := hG.1.lt h9
  have lt_h10 := hG.1.lt h10
  have lt_h11 := hG.1.lt h11
  have lt_h12 := hG.1.lt h12
  have lt_h13 := hG.1.lt h13
  have lt_h14 := hG.1.lt h14
  refine lv_aload_n S.1 S.2.1 dX7_similarity_0 rfl (lv_at hl 0 rfl) ?_
  refine lv_iload_n S.1 S.2.1 dX7_similarity_1 rfl (lv_at hl 1 rfl) ?_
  refine fx_cVr (As := [.int 1]) (rest := []) S hG (k42_X7_treeAt (by omega) h0 h1) h0 rfl (cwV 1 S.2.2.2.2 gX7_similarity_X7_treeAt rfl rfl rfl (by decide +kernel) ⟨Nat.le_of_ble_eq_true rfl, Nat.le_of_ble_eq_true rfl⟩) rfl hl.1 rfl (Nat.le_of_ble_eq_true rfl) dX7_similarity_2 ⟨Nat.le_of_ble_eq_true rfl, Nat.le_of_ble_eq_true rfl⟩ (fun rv_1 _ H locs hp hG => ?_)
  subst rv_1
  refine lv_astore_n (lv' := [(3, .ref (N0 + 150)), (0, .ref N0), (1, .int 1), (2, .int 2)]) S.1 S.2.1 dX7_similarity_5 rfl hl (by decide) rfl (fun ls hl => ?_)
  refine lv_aload_n S.1 S.2.1 dX7_similarity_6 rfl (lv_at hl 1 rfl) ?_
  refine lv_iload_n S.1 S.2.1 dX7_similarity_7 rfl (lv_at hl 3 rfl) ?_
  refine fx_cVr (As := [.int 2]) (rest := []) S hG (k48_X7_treeAt (by omega) h0 h1) h0 rfl (cwV 1 S.2.2.2.2 gX7_similarity_X7_treeAt rfl rfl rfl (by decide +kernel) ⟨Nat.le_of_ble_eq_true rfl, Nat.le_of_ble_eq_true rfl⟩) rfl hl.1 rfl (Nat.le_of_ble_eq_true rfl) dX7_similarity_8 ⟨Nat.le_of_ble_eq_true rfl, Nat.le_of_ble_eq_true rfl⟩ (fun rv_2 _ H locs hp hG => ?_)
  subst rv_2
  refine lv_astore (lv' := [(4, .ref (N0 + 157)), (3, .ref (N0 + 150)), (0, .ref N0), (1, .int 1), (2, .int 2)]) S.1 S.2.1 dX7_similarity_11 hl (by decide) rfl (fun ls hl => ?_)
  refine lv_aload_n S.1 S.2.1 dX7_similarity_13 rfl (lv_at hl 2 rfl) ?_
  refine gx_get (C := RX7) (T := TX7) (N := 10) S hG h0 i_X7_similarity_X7 rfl 3 (by decide) (by decide +kernel) rfl dX7_similarity_14 ?_
  refine lv_aload_n S.1 S.2.1 dX7_similarity_17 rfl (lv_at hl 1 rfl) ?_
  refine lv_aload S.1 S.2.1 dX7_similarity_18 (lv_at hl 0 rfl) ?_
  refine fx_cVi (As := [.ref (N0 + 150), .ref (N0 + 157)]) (rest := []) S hG (k1246_X1_leastCost (by omega) h2 h3 h4 h5 h6 h7 h8 h9 h10 h11 h12 h13 h14) h2 rfl (cwV 2 S.2.2.2.2 gX7_similarity_X1_leastCost rfl rfl rfl (by decide +kernel) ⟨Nat.le_of_ble_eq_true rfl, Nat.le_of_ble_eq_true rfl⟩) rfl hl.1 rfl (Nat.le_of_ble_eq_true rfl) dX7_similarity_20 ⟨Nat.le_of_ble_eq_true rfl, Nat.le_of_ble_eq_true rfl⟩ (fun rv_3 _ H locs hp hG => ?_)
  subst rv_3
  refine gx_i2d (v := 0) S (by decide +kernel) dX7_similarity_23 ?_
  refine lv_dstore (lv' := [(5, .double 0), (4, .ref (N0 + 157)), (3, .ref (N0 + 150)), (0, .ref N0), (1, .int 1), (2, .int 2)]) S.1 S.2.1 dX7_similarity_24 hl (by decide) rfl (fun ls hl => ?_)
  refine lv_iconst (v := 2) S.1 S.2.1 dX7_similarity_26 (by decide) ?_
  refine lv_aload_n S.1 S.2.1 dX7_similarity_27 rfl (lv_at hl 2 rfl) ?_
  refine gx_get (C := RX5) (T := TX5) (N := 7) S hG (fu_at (by omega) (fu_at (by omega) (fu_at (by omega) (fu_at (by omega) (fu_at (by omega) h3))))) i_X7_similarity_X5 rfl 6 (by decide) (by decide +kernel) rfl dX7_similarity_28 ?_
  refine lv_aload S.1 S.2.1 dX7_similarity_31 (lv_at hl 1 rfl) ?_
  refine gx_get (C := RX5) (T := TX5) (N := 7) S hG (fu_at (by omega) (fu_at (by omega) (fu_at (by omega) (fu_at (by omega) (fu_at (by omega) h5))))) i_X7_similarity_X5 rfl 6 (by decide) (by decide +kernel) rfl dX7_similarity_33 ?_
  refine lv_iadd S.1 S.2.1 dX7_similarity_36 ?_
  refine fx_topi (y := 2) (by decide) ?_
  refine lv_imul S.1 S.2.1 dX7_similarity_37 ?_
  refine fx_topi (y := 4) (by decide) ?_
  refine gx_i2d (v := 4616189618054758400) S (by decide +kernel) dX7_similarity_38 ?_
  refine lv_dstore (lv' := [(7, .double 4616189618054758400), (5, .double 0), (4, .ref (N0 + 157)), (3, .ref (N0 + 150)), (0, .ref N0), (1, .int 1), (2, .int 2)]) S.1 S.2.1 dX7_similarity_39 hl (by decide) rfl (fun ls hl => ?_)
  refine lv_dload S.1 S.2.1 dX7_similarity_41 (lv_at hl 0 rfl) ?_
  refine gx_dconst0 (v := 0) S (by decide +kernel) dX7_similarity_43 ?_
  refine gx_dcmp (v := 1) S (by decide +kernel) dX7_similarity_44 ?_
  refine lv_if_le (tgt := 58) S.1 S.2.1 dX7_similarity_45 (by decide) (fun c => absurd c (by decide)) (fun _ => ?_)
  refine gx_dconst1 (v := 4607182418800017408) S (by decide +kernel) dX7_similarity_48 ?_
  refine lv_dload S.1 S.2.1 dX7_similarity_49 (lv_at hl 1 rfl) ?_
  refine lv_dload S.1 S.2.1 dX7_similarity_51 (lv_at hl 0 rfl) ?_
  refine gx_ddiv (v := 0) S (by decide +kernel) (by unfold vf_n64; decide +kernel) dX7_similarity_53 ?_
  refine gx_dsub (v := 4607182418800017408) S (by decide +kernel) (by unfold vf_n64; decide +kernel) dX7_similarity_54 ?_
  refine lv_goto (tgt := 59) S.1 S.2.1 dX7_similarity_55 (by decide) ?_
  exact fx_dret S hr hlocks () hG (rfl) dX7_similarity_59
theorem k1399_L_similarity {n : Nat} (hn : N0 + 231 ≤ n) (h0 : F N0 = some (.inr (9, [.ref (N0 + 1), .ref (N0 + 2), .ref (N0 + 11), .ref (N0 + 13), .ref (N0 + 63), .ref (N0 + 65), .ref (N0 + 85), .int (-1), .int (-1), .int 32]))) (h1 : F (N0 + 1) = some (.inl (cTr, 3, .inr (.inr (.inr (.inr (va_up (va_up (va_up (fun _ => none) 0 (some (N0 + 143))) 1 (some (N0 + 150))) 2 (some (N0 + 157))))))))) (h2 : F (N0 + 13) = some (.inr (3, [.ref (N0 + 14), .ref (N0 + 35), .ref (N0 + 57), .ref (N0 + 58), .ref (N0 + 59), .ref (N0 + 60), .int 0, .int 0, .ref (N0 + 61), .ref (N0 + 62)]))) (h3 : F (N0 + 150) = some (.inr (7, [.ref (N0 + 151), .ref (N0 + 152), .ref (N0 + 153), .ref (N0 + 154), .ref (N0 + 155), .ref (N0 + 156), .int 1]))) (h4 : F (N0 + 57) = some (.inl (cI, 20, .inl (fun _ => 0)))) (h5 : F (N0 + 157) = some (.inr (7, [.ref (N0 + 158), .ref (N0 + 159), .ref (N0 + 160), .ref (N0 + 161), .ref (N0 + 162), .ref (N0 + 163), .int 1]))) (h6 : F (N0 + 58) = some (.inl (cI, 20, .inl (fun _ => 0)))) (h7 : F (N0 + 35) = some (.inl (cII, 21, .inr (.inr (.inr (.inr (fun j => if j < 21 then some ((N0 + 36) + j) else none))))))) (h8 : F (N0 + 36) = some (.inl (cI, 21, .inl (fun _ => 0)))) (h9 : F (N0 + 14) = some (.inl (cII, 20, .inr (.inr (.inr (.inr (fun j => if j < 20 then some ((N0 + 15) + j) else none))))))) (h10 : F (N0 + 151) = some (.inl (cC, 20, .inl (upd (fun _ => 0) 0 97)))) (h11 : F (N0 + 158) = some (.inl (cC, 20, .inl (upd (fun _ => 0) 0 97)))) (h12 : F (N0 + 153) = some (.inl (cI, 20, .inl (fun _ => 0)))) (h13 : F (N0 + 160) = some (.inl (cI, 20, .inl (fun _ => 0)))) (h14 : F (N0 + 15) = some (.inl (cI, 20, .inl (fun _ => 0)))) (h15 : F (N0 + 230) = some (.inl (cD, 1, .inr (.inr (.inr (.inl (fun _ => 0))))))) : Met l yL_similarity wsL_similarity ({ frames := 4, cells := 0, slots := 0, locals := 101 }) (va_Pc [.ref N0, .int 1, .int 2, .ref (N0 + 230)] (fP N0 D vwCl (fty cI cC cL cD cII cTr cTm cIt cB) (fen ql) F n)) (fQi N0 D vwCl (fty cI cC cL cD cII cTr cTm cIt cB) (fun (r : Int32) (_ : Unit) => r = 0) (fun _ => (fu (fu (fu (fu (fu (fu F (N0 + 57) (.inl (cI, 20, .inl (upd (fun _ => 0) 0 1)))) (N0 + 58) (.inl (cI, 20, .inl (upd (fun _ => 0) 0 1)))) (N0 + 13) (.inr (3, [.ref (N0 + 14), .ref (N0 + 35), .ref (N0 + 57), .ref (N0 + 58), .ref (N0 + 59), .ref (N0 + 60), .int 0, .int 0, .ref (N0 + 61), .ref (N0 + 62)]))) (N0 + 36) (.inl (cI, 21, .inl (upd (fun _ => 0) 0 0)))) (N0 + 15) (.inl (cI, 20, .inl (upd (fun _ => 0) 0 0)))) (N0 + 230) (.inl (cD, 1, .inr (.inr (.inr (.inl (vf_upd (fun _ => 0) 0 4607182418800017408)))))))) (fun _ => n)) 0 0 (fA N0) := by
  refine fx_startW (hh := [(0, 9, 12, 19)]) 5 rfl rfl (Nat.le_of_ble_eq_true rfl) ?_ rfl
  intro p e s m below meth c ls S htab hr hlocks hG hl
  have hl : lv_has ls 5 [(0, .ref N0), (1, .int 1), (2, .int 2), (3, .ref (N0 + 230))] := hl
  have lt_h0 := hG.1.lt h0
  have lt_h1 := hG.1.lt h1
  have lt_h2 := hG.1.lt h2
  have lt_h3 := hG.1.lt h3
  have lt_h4 := hG.1.lt h4
  have lt_h5 := hG.1.lt h5
  have lt_h6 := hG.1.lt h6
  have lt_h7 := hG.1.lt h7
  have lt_h8 := hG.1.lt h8
  have lt_h9 := hG.1.lt h9
  have lt_h10 := hG.1.lt h10
  have lt_h11 := hG.1.lt h11
  have lt_h12 := hG.1.lt h12
  have lt_h13 := hG.1.lt h13
  have lt_h14 := hG.1.lt h14
  have lt_h15 := hG.1.lt h15
  refine lv_aload_n S.1 S.2.1 dL_similarity_0 rfl (lv_at hl 3 rfl) ?_
  refine lv_iconst (v := 0) S.1 S.2.1 dL_similarity_1 (by decide) ?_
  refine lv_aload_n S.1 S.2.1 dL_similarity_2 rfl (lv_at hl 0 rfl) ?_
  refine lv_iload_n S.1 S.2.1 dL_similarity_3 rfl (lv_at hl 1 rfl) ?_
  refine lv_iload_n S.1 S.2.1 dL_similarity_4 rfl (lv_at hl 2 rfl) ?_
  refine fx_cVd (As := [.int 1, .int 2]) (rest := [.int 0, .ref (N0 + 230)]) S hG (k1398_X7_similarity (by omega) h0 h1 h2 h3 h4 h5 h6 h7 h8 h9 h10 h11 h12 h13 h14) h0 rfl (cwV 2 S.2.2.2.2 gL_similarity_X7_similarity rfl rfl rfl (by decide +kernel) ⟨Nat.le_of_ble_eq_true rfl, Nat.le_of_ble_eq_true rfl⟩) rfl hl.1 rfl (Nat.le_of_ble_eq_true rfl) dL_similarity_5 ⟨Nat.le_of_ble_eq_true rfl, Nat.le_of_ble_eq_true rfl⟩ (fun rv_1 _ H locs hp hG => ?_)
  subst rv_1
  refine gx_dast (f' := vf_upd (fun _ => 0) 0 4607182418800017408) S hG 3 (fu_at (by omega) (fu_at (by omega) (fu_at (by omega) (fu_at (by omega) (fu_at (by omega) h15))))) rfl (fin_l (by decide)) dL_similarity_8 rfl (fun H locs hG => ?_)
  refine lv_goto (tgt := 16) S.1 S.2.1 dL_similarity_9 (by decide) ?_
  refine lv_iconst (v := 0) S.1 S.2.1 dL_similarity_16 (by decide) ?_
  exact fx_iret S hr hlocks () hG (rfl) dL_similarity_17
theorem k1400_X10_similarity {n : Nat} (hn : N0 + 231 ≤ n) (h0 : F (N0 + 164) = some (.inr (12, [.ref (N0 + 165), .int 0, .ref (N0 + 181), .int 0, .int 0, .int 0, .int (-1), .ref (ql 24), .ref (N0 + 182), .ref (N0 + 187), .ref (N0 + 208), .ref (N0 + 209), .ref (N0 + 210), .ref (N0 + 211), .ref (N0 + 212), .int 0, .ref (N0 + 213), .ref (N0 + 218), .ref (N0 + 223), .ref (N0 + 224), .ref (N0 + 225), .ref (N0 + 226), .ref (N0 + 227), .int 0, .int 0, .ref (N0 + 228), .null, .int (-1), .int 0, .int 0, .int 0]))) (h1 : F (N0 + 165) = some (.inl (cTm, 3, .inr (.inr (.inr (.inr (va_up (va_up (va_up (fun _ => none) 0 (some (N0 + 166))) 1 (some (N0 + 171))) 2 (some (N0 + 176))))))))) (h2 : F (N0 + 171) = some (.inr (11, [.ref (N0 + 172), .ref (N0 + 173), .ref (N0 + 174), .ref (N0 + 175), .int 1]))) (h3 : F (N0 + 176) = some (.inr (11, [.ref (N0 + 177), .ref (N0 + 178), .ref (N0 + 179), .ref (N0 + 180), .int 1]))) (h4 : F (N0 + 172) = some (.inl (cI, 20, .inl (upd (fun _ => 0) 0 97)))) (h5 : F (N0 + 177) = some (.inl (cI, 20, .inl (upd (fun _ => 0) 0 97)))) (h6 : F (N0 + 174) = some (.inl (cI, 20, .inl (upd (fun _ => 0) 0 0)))) (h7 : F (N0 + 179) = some (.inl (cI, 20, .inl (upd (fun _ => 0) 0 0)))) (h8 : F (N0 + 187) = some (.inl (cII, 20, .inr (.inr (.inr (.inr (fun j => if j < 20 then some ((N0 + 188) + j) else none))))))) (h9 : F (N0 + 188) = some (.inl (cI, 20, .inl (fun _ => 0)))) : Met l yX10_similarity wsX10_similarity ({ frames := 3, cells := 4, slots := 2, locals := 72 }) (va_Pc [.ref (N0 + 164), .int 1, .int 2] (fP N0 D vwCl (fty cI cC cL cD cII cTr cTm cIt cB) (fen ql) F n)) (fQd N0 D vwCl (fty cI cC cL cD cII cTr cTm cIt cB) (fun (r : UInt64) (_ : Unit) => r = 4607182418800017408) (fun _ => (fblk (fu (fu F (N0 + 164) (.inr (12, [.ref (N0 + 165), .int 0, .ref (N0 + 181), .int 0, .int 0, .int 0, .int (-1), .ref (ql 24), .ref (N0 + 182), .ref (N0 + 187), .ref (N0 + 208), .ref (N0 + 209), .ref (N0 + 210), .ref (N0 + 211), .ref (N0 + 212), .int 0, .ref (N0 + 213), .ref (N0 + 218), .ref (N0 + 223), .ref (N0 + 224), .ref (N0 + 225), .ref (N0 + 226), .ref (N0 + 227), .int 0, .int 0, .ref (N0 + 228), .null, .int (-1), .int 0, .int 0, .int 0]))) (N0 + 188) (.inl (cI, 20, .inl (upd (fun _ => 0) 0 0)))) n [.inl (cI, 0, .inl (fun _ => 0)), .inl (cI, 0, .inl (fun _ => 0)), .inl (cII, 1, .inr (.inr (.inr (.inr (fun j => if j < 1 then some ((n + 3) + j) else none))))), .inl (cI, 1, .inl (fun _ => 0))])) (fun _ => (n + 4))) 4 2 (fA N0) := by
  refine fx_start 3 rfl rfl (Nat.le_of_ble_eq_true rfl) ?_ rfl
  intro p e s m below meth c ls S hr hlocks hin hG hl
  have hl : lv_has ls 3 [(0, .ref (N0 + 164)), (1, .int 1), (2, .int 2)] := hl
  have lt_h0 := hG.1.lt h0
  have lt_h1 := hG.1.lt h1
  have lt_h2 := hG.1.lt h2
  have lt_h3 := hG.1.lt h3
  have lt_h4 := hG.1.lt h4
  have lt_h5 := hG.1.lt h5
  have lt_h6 := hG.1.lt h6
  have lt_h7 := hG.1.lt h7
  have lt_h8 := hG.1.lt h8
  have lt_h9 := hG.1.lt h9
  refine lv_aload_n S.1 S.2.1 dX10_similarity_0 rfl (lv_at hl 0 rfl) ?_
  refine lv_iload_n S.1 S.2.1 dX10_similarity_1 rfl (lv_at hl 1 rfl) ?_
  refine lv_iload_n S.1 S.2.1 dX10_similarity_2 rfl (lv_at hl 2 rfl) ?_
  refine fx_cVi (As := [.int 1, .int 2]) (rest := []) S hG (k504_X10_areNone (by omega) h0) h0 rfl (cwV 2 S.2.2.2.2 gX10_similarity_X10_areNone rfl rfl rfl (by decide +kernel) ⟨Nat.le_of_ble_eq_true rfl, Nat.le_of_ble_eq_true rfl⟩) rfl hl.1 rfl (Nat.le_of_ble_eq_true rfl) dX10_similarity_3 ⟨Nat.le_of_ble_eq_true rfl, Nat.le_of_ble_eq_true rfl⟩ (fun rv_1 _ H locs hp hG => ?_)
  subst rv_1
  refine lv_if_eq (tgt := 11) S.1 S.2.1 dX10_similarity_6 (by decide) (fun _ => ?_) (fun c => absurd (by decide) c)
  refine gx_dconst1 (v := 4607182418800017408) S (by decide +kernel) dX10_similarity_11 ?_
  refine lv_aload_n S.1 S.2.1 dX10_similarity_12 rfl (lv_at hl 0 rfl) ?_
  refine lv_aload_n S.1 S.2.1 dX10_similarity_13 rfl (lv_at hl 0 rfl) ?_
  refine gx_get (C := RX10) (T := TX10) (N := 31) S hG fu_s i_X10_similarity_X10 rfl 0 (by decide) (by decide +kernel) rfl dX10_similarity_14 ?_
  refine lv_iload_n S.1 S.2.1 dX10_similarity_17 rfl (lv_at hl 1 rfl) ?_
  refine gx_aldq (x := (N0 + 171)) S hG 6 rfl (fu_at (by omega) h1) rfl (fin_l (by decide)) (rfl) dX10_similarity_18 ?_
  refine lv_aload_n S.1 S.2.1 dX10_similarity_19 rfl (lv_at hl 0 rfl) ?_
  refine gx_get (C := RX10) (T := TX10) (N := 31) S hG fu_s i_X10_similarity_X10 rfl 0 (by decide) (by decide +kernel) rfl dX10_similarity_20 ?_
  refine lv_iload_n S.1 S.2.1 dX10_similarity_23 rfl (lv_at hl 2 rfl) ?_
  refine gx_aldq (x := (N0 + 176)) S hG 6 rfl (fu_at (by omega) h1) rfl (fin_l (by decide)) (rfl) dX10_similarity_24 ?_
  refine fx_cVi (As := [.ref (N0 + 171), .ref (N0 + 176)]) (rest := [.double 4607182418800017408]) S hG (k1250_X10_fills (by omega) (fu_at (by omega) h2) (fu_at (by omega) h3) (fu_at (by omega) h4) (fu_at (by omega) h5) (fu_at (by omega) h6) (fu_at (by omega) h7) fu_s (fu_at (by omega) h8) (fu_at (by omega) h9)) fu_s rfl (cwV 2 S.2.2.2.2 gX10_similarity_X10_fills rfl rfl rfl (by decide +kernel) ⟨Nat.le_of_ble_eq_true rfl, Nat.le_of_ble_eq_true rfl⟩) rfl hl.1 rfl (Nat.le_of_ble_eq_true rfl) dX10_similarity_25 ⟨Nat.le_of_ble_eq_true rfl, Nat.le_of_ble_eq_true rfl⟩ (fun rv_2 _ H locs hp hG => ?_)
  subst rv_2
  refine W.widen (k := 4) (n := 2) (by decide) (by decide) ?_
  refine gx_i2d (v := 0) S (by decide +kernel) dX10_similarity_28 ?_
  refine lv_iconst (v := 2) S.1 S.2.1 dX10_similarity_29 (by decide) ?_
  refine lv_aload_n S.1 S.2.1 dX10_similarity_30 rfl (lv_at hl 0 rfl) ?_
  refine gx_get (C := RX10) (T := TX10) (N := 31) S hG (fblk_sk 4 rfl (by omega) (fu_at (by omega) fu_s)) i_X10_similarity_X10 rfl 0 (by decide) (by decide +kernel) rfl dX10_similarity_31 ?_
  refine lv_iload_n S.1 S.2.1 dX10_similarity_34 rfl (lv_at hl 1 rfl) ?_
  refine gx_aldq (x := (N0 + 171)) S hG 6 rfl (fblk_sk 4 rfl (by omega) (fu_at (by omega) (fu_at (by omega) h1))) rfl (fin_l (by decide)) (rfl) dX10_similarity_35 ?_
  refine gx_getN (C := RX9) (T := TX9) (N := 5) S hG (fblk_sk 4 rfl (by omega) (fu_at (by omega) (fu_at (by omega) h2))) i_X10_similarity_X9 rfl 4 (by decide) (List.mem_of_getElem? (i := 4) rfl) rfl dX10_similarity_36 ?_
  refine lv_aload_n S.1 S.2.1 dX10_similarity_39 rfl (lv_at hl 0 rfl) ?_
  refine gx_get (C := RX10) (T := TX10) (N := 31) S hG (fblk_sk 4 rfl (by omega) (fu_at (by omega) fu_s)) i_X10_similarity_X10 rfl 0 (by decide) (by decide +kernel) rfl dX10_similarity_40 ?_
  refine lv_iload_n S.1 S.2.1 dX10_similarity_43 rfl (lv_at hl 2 rfl) ?_
  refine gx_aldq (x := (N0 + 176)) S hG 6 rfl (fblk_sk 4 rfl (by omega) (fu_at (by omega) (fu_at (by omega) h1))) rfl (fin_l (by decide)) (rfl) dX10_similarity_44 ?_
  refine gx_getN (C := RX9) (T := TX9) (N := 5) S hG (fblk_sk 4 rfl (by omega) (fu_at (by omega) (fu_at (by omega) h3))) i_X10_similarity_X9 rfl 4 (by decide) (List.mem_of_getElem? (i := 4) rfl) rfl dX10_similarity_45 ?_
  refine lv_iadd S.1 S.2.1 dX10_similarity_48 ?_
  refine fx_topi (y := 2) (by decide) ?_
  refine lv_imul S.1 S.2.1 dX10_similarity_49 ?_
  refine fx_topi (y := 4) (by decide) ?_
  refine gx_i2d (v := 4616189618054758400) S (by decide +kernel) dX10_similarity_50 ?_
  refine gx_ddiv (v := 0) S (by decide +kernel) (by unfold vf_n64; decide +kernel) dX10_similarity_51 ?_
  refine gx_dsub (v := 4607182418800017408) S (by decide +kernel) (by unfold vf_n64; decide +kernel) dX10_similarity_52 ?_
  have hG : fG N0 D vwCl (fty cI cC cL cD cII cTr cTm cIt cB) (fen ql) s (fblk (fu (fu F (N0 + 164) (.inr (12, [.ref (N0 + 165), .int 0, .ref (N0 + 181), .int 0, .int 0, .int 0, .int (-1), .ref (ql 24), .ref (N0 + 182), .ref (N0 + 187), .ref (N0 + 208), .ref (N0 + 209), .ref (N0 + 210), .ref (N0 + 211), .ref (N0 + 212), .int 0, .ref (N0 + 213), .ref (N0 + 218), .ref (N0 + 223), .ref (N0 + 224), .ref (N0 + 225), .ref (N0 + 226), .ref (N0 + 227), .int 0, .int 0, .ref (N0 + 228), .null, .int (-1), .int 0, .int 0, .int 0]))) (N0 + 188) (.inl (cI, 20, .inl (upd (fun _ => 0) 0 0)))) n [.inl (cI, 0, .inl (fun _ => 0)), .inl (cI, 0, .inl (fun _ => 0)), .inl (cII, 1, .inr (.inr (.inr (.inr (fun j => if j < 1 then some ((n + 3) + j) else none))))), .inl (cI, 1, .inl (fun _ => 0))]) (n + 4) H locs := hG.weak (fun a e h => by
    rcases fblk_cases 4 rfl h with ⟨k, rfl, hlt, hk⟩ | ⟨hout, h⟩
    · rcases (show k = 0 ∨ k = 1 ∨ k = 2 ∨ k = 3 by omega) with rfl | rfl | rfl | rfl
      · cases (show some (.inl (cI, 0, .inl (fun _ => 0))) = some e from hk); exact (fblk_at 0 (by omega) rfl)
      · cases (show some (.inl (cI, 0, .inl (fun _ => 0))) = some e from hk); exact (fblk_at 1 (by omega) rfl)
      · cases (show some (.inl (cII, 1, .inr (.inr (.inr (.inr (fun j => if j < 1 then some ((n + 3) + j) else none)))))) = some e from hk); exact (fblk_at 2 (by omega) rfl)
      · cases (show some (.inl (cI, 1, .inl (fun _ => 0))) = some e from hk); exact (fblk_at 3 (by omega) rfl)
    · rcases fu_cases h with ⟨rfl, he⟩ | ⟨hne0, h⟩
      · cases he; exact (fblk_sk 4 rfl (by omega) fu_s)
      · skip
        rcases fu_cases h with ⟨rfl, he⟩ | ⟨hne1, h⟩
        · cases he; exact (fblk_sk 4 rfl (by omega) (fu_at (by omega) fu_s))
        · exact (fblk_sk 4 rfl (by omega) (fu_at (by omega) (fu_at (by omega) h))))
  exact fx_dret S hr hlocks () hG (rfl) dX10_similarity_53
theorem k1401_X7_similarity {n : Nat} {a2 : Int32} (g_a2_ge_3 : 3 ≤ a2) (hst : l.stackTraces = false) (hn : N0 + 231 ≤ n) (h0 : F N0 = some (.inr (9, [.ref (N0 + 1), .ref (N0 + 2), .ref (N0 + 11), .ref (N0 + 13), .ref (N0 + 63), .ref (N0 + 65), .ref (N0 + 85), .int (-1), .int (-1), .int 32]))) (h1 : F (N0 + 1) = some (.inl (cTr, 3, .inr (.inr (.inr (.inr (va_up (va_up (va_up (fun _ => none) 0 (some (N0 + 143))) 1 (some (N0 + 150))) 2 (some (N0 + 157))))))))) : vx_Met l yX7_similarity wsX7_similarity ({ frames := 7, cells := 1, slots := 6, locals := 103 }) (va_Pc [.ref N0, .int 1, .int a2] (fP N0 D vwCl (fty cI cC cL cD cII cTr cTm cIt cB) (fen ql) F n)) (fNo N0 D vwCl (fty cI cC cL cD cII cTr cTm cIt cB) F n) (fXC N0 D vwCl (fty cI cC cL cD cII cTr cTm cIt cB) "java/lang/IndexOutOfBoundsException" F n) 1 6 (fA N0) := by
  refine fx_startX 9 rfl rfl (Nat.le_of_ble_eq_true rfl) ?_ rfl
  intro p e s m below meth c ls S htab hlocks hG hl
  have hl : lv_has ls 9 [(0, .ref N0), (1, .int 1), (2, .int a2)] := hl
  have lt_h0 := hG.1.lt h0
  have lt_h1 := hG.1.lt h1
  refine lv_aload_n S.1 S.2.1 dX7_similarity_0 rfl (lv_at hl 0 rfl) ?_
  refine lv_iload_n S.1 S.2.1 dX7_similarity_1 rfl (lv_at hl 1 rfl) ?_
  refine fx_cVr (As := [.int 1]) (rest := []) S hG (k42_X7_treeAt (by omega) h0 h1) h0 rfl (cwV 1 S.2.2.2.2 gX7_similarity_X7_treeAt rfl rfl rfl (by decide +kernel) ⟨Nat.le_of_ble_eq_true rfl, Nat.le_of_ble_eq_true rfl⟩) rfl hl.1 rfl (Nat.le_of_ble_eq_true rfl) dX7_similarity_2 ⟨Nat.le_of_ble_eq_true rfl, Nat.le_of_ble_eq_true rfl⟩ (fun rv_1 _ H locs hp hG => ?_)
  subst rv_1
  refine lv_astore_n (lv' := [(3, .ref (N0 + 150)), (0, .ref N0), (1, .int 1), (2, .int a2)]) S.1 S.2.1 dX7_similarity_5 rfl hl (by decide) rfl (fun ls hl => ?_)
  refine lv_aload_n S.1 S.2.1 dX7_similarity_6 rfl (lv_at hl 1 rfl) ?_
  refine lv_iload_n S.1 S.2.1 dX7_similarity_7 rfl (lv_at hl 3 rfl) ?_
  refine fx_xV (As := [.int a2]) (rest := []) S hG (k478_X7_treeAt g_a2_ge_3 hst (by omega)) h0 rfl (cwV 1 S.2.2.2.2 gX7_similarity_X7_treeAt rfl rfl rfl (by decide +kernel) ⟨Nat.le_of_ble_eq_true rfl, Nat.le_of_ble_eq_true rfl⟩) rfl hl.1 rfl (Nat.le_of_ble_eq_true rfl) dX7_similarity_8 ⟨Nat.le_of_ble_eq_true rfl, Nat.le_of_ble_eq_true rfl⟩ (fun ceq_2 q_2 H locs n_3 hn_3 hG h1q_2 h2q_2 h3q_2 => ?_)
  exact fx_out htab hlocks hG (by omega) h1q_2 h2q_2 h3q_2 (by decide) (by decide)
theorem k1402_L_similarity {n : Nat} {a2 : Int32} (g_a2_ge_3 : 3 ≤ a2) (hst : l.stackTraces = false) (hn : N0 + 231 ≤ n) (h0 : F N0 = some (.inr (9, [.ref (N0 + 1), .ref (N0 + 2), .ref (N0 + 11), .ref (N0 + 13), .ref (N0 + 63), .ref (N0 + 65), .ref (N0 + 85), .int (-1), .int (-1), .int 32]))) (h1 : F (N0 + 1) = some (.inl (cTr, 3, .inr (.inr (.inr (.inr (va_up (va_up (va_up (fun _ => none) 0 (some (N0 + 143))) 1 (some (N0 + 150))) 2 (some (N0 + 157))))))))) : Met l yL_similarity wsL_similarity ({ frames := 8, cells := 1, slots := 6, locals := 131 }) (va_Pc [.ref N0, .int 1, .int a2, .ref (N0 + 230)] (fP N0 D vwCl (fty cI cC cL cD cII cTr cTm cIt cB) (fen ql) F n)) (fQi N0 D vwCl (fty cI cC cL cD cII cTr cTm cIt cB) (fun (r : Int32) (u : Nat) => r = 1 ∧ n ≤ u) (fun _ => F) (fun u => u)) 1 6 (fA N0) := by
  refine fx_startW (hh := [(0, 9, 12, 19)]) 5 rfl rfl (Nat.le_of_ble_eq_true rfl) ?_ rfl
  intro p e s m below meth c ls S htab hr hlocks hG hl
  have hl : lv_has ls 5 [(0, .ref N0), (1, .int 1), (2, .int a2), (3, .ref (N0 + 230))] := hl
  have lt_h0 := hG.1.lt h0
  have lt_h1 := hG.1.lt h1
  refine lv_aload_n S.1 S.2.1 dL_similarity_0 rfl (lv_at hl 3 rfl) ?_
  refine lv_iconst (v := 0) S.1 S.2.1 dL_similarity_1 (by decide) ?_
  refine lv_aload_n S.1 S.2.1 dL_similarity_2 rfl (lv_at hl 0 rfl) ?_
  refine lv_iload_n S.1 S.2.1 dL_similarity_3 rfl (lv_at hl 1 rfl) ?_
  refine lv_iload_n S.1 S.2.1 dL_similarity_4 rfl (lv_at hl 2 rfl) ?_
  refine fx_xV (As := [.int 1, .int a2]) (rest := [.int 0, .ref (N0 + 230)]) S hG (k1401_X7_similarity g_a2_ge_3 hst (by omega) h0 h1) h0 rfl (cwV 2 S.2.2.2.2 gL_similarity_X7_similarity rfl rfl rfl (by decide +kernel) ⟨Nat.le_of_ble_eq_true rfl, Nat.le_of_ble_eq_true rfl⟩) rfl hl.1 rfl (Nat.le_of_ble_eq_true rfl) dL_similarity_5 ⟨Nat.le_of_ble_eq_true rfl, Nat.le_of_ble_eq_true rfl⟩ (fun ceq_1 q_1 H locs n_2 hn_2 hG h1q_1 h2q_1 h3q_1 => ?_)
  refine fx_catch (hh := [(0, 9, 12, 19)]) S htab hG h1q_1 h2q_1 h3q_1 [] ⟨0, 9, 12, 19⟩ [] rfl [] (fun z hz => absurd hz List.not_mem_nil) (by decide) (by decide) (by decide +kernel) (List.mem_of_getElem? (i := 2) rfl) ?_
  refine lv_astore (lv' := [(4, .ref q_1), (0, .ref N0), (1, .int 1), (2, .int a2), (3, .ref (N0 + 230))]) S.1 S.2.1 dL_similarity_12 hl (by decide) rfl (fun ls hl => ?_)
  refine lv_iconst (v := 1) S.1 S.2.1 dL_similarity_14 (by decide) ?_
  exact fx_iret S hr hlocks n_2 hG (⟨rfl, hn_2⟩) dL_similarity_15
theorem k1403_X10_similarity {n : Nat} {a2 : Int32} (g_a2_ge_3 : 3 ≤ a2) (hn : N0 + 231 ≤ n) (h0 : F (N0 + 164) = some (.inr (12, [.ref (N0 + 165), .int 0, .ref (N0 + 181), .int 0, .int 0, .int 0, .int (-1), .ref (ql 24), .ref (N0 + 182), .ref (N0 + 187), .ref (N0 + 208), .ref (N0 + 209), .ref (N0 + 210), .ref (N0 + 211), .ref (N0 + 212), .int 0, .ref (N0 + 213), .ref (N0 + 218), .ref (N0 + 223), .ref (N0 + 224), .ref (N0 + 225), .ref (N0 + 226), .ref (N0 + 227), .int 0, .int 0, .ref (N0 + 228), .null, .int (-1), .int 0, .int 0, .int 0]))) : Met l yX10_similarity wsX10_similarity ({ frames := 3, cells := 0, slots := 0, locals := 64 }) (va_Pc [.ref (N0 + 164), .int 1, .int a2] (fP N0 D vwCl (fty cI cC cL cD cII cTr cTm cIt cB) (fen ql) F n)) (fQd N0 D vwCl (fty cI cC cL cD cII cTr cTm cIt cB) (fun (r : UInt64) (_ : Unit) => r = 0) (fun _ => (fu F (N0 + 164) (.inr (12, [.ref (N0 + 165), .int 1, .ref (N0 + 181), .int 0, .int 0, .int 0, .int (-1), .ref (ql 24), .ref (N0 + 182), .ref (N0 + 187), .ref (N0 + 208), .ref (N0 + 209), .ref (N0 + 210), .ref (N0 + 211), .ref (N0 + 212), .int 0, .ref (N0 + 213), .ref (N0 + 218), .ref (N0 + 223), .ref (N0 + 224), .ref (N0 + 225), .ref (N0 + 226), .ref (N0 + 227), .int 0, .int 0, .ref (N0 + 228), .null, .int (-1), .int 0, .int 0, .int 0])))) (fun _ => n)) 0 0 (fA N0) := by
  refine fx_start 3 rfl rfl (Nat.le_of_ble_eq_true rfl) ?_ rfl
  intro p e s m below meth c ls S hr hlocks hin hG hl
  have hl : lv_has ls 3 [(0, .ref (N0 + 164)), (1, .int 1), (2, .int a2)] := hl
  have lt_h0 := hG.1.lt h0
  refine lv_aload_n S.1 S.2.1 dX10_similarity_0 rfl (lv_at hl 0 rfl) ?_
  refine lv_iload_n S.1 S.2.1 dX10_similarity_1 rfl (lv_at hl 1 rfl) ?_
  refine lv_iload_n S.1 S.2.1 dX10_similarity_2 rfl (lv_at hl 2 rfl) ?_
  refine fx_cVi (As := [.int 1, .int a2]) (rest := []) S hG (k509_X10_areNone g_a2_ge_3 (by omega) h0) h0 rfl (cwV 2 S.2.2.2.2 gX10_similarity_X10_areNone rfl rfl rfl (by decide +kernel) ⟨Nat.le_of_ble_eq_true rfl, Nat.le_of_ble_eq_true rfl⟩) rfl hl.1 rfl (Nat.le_of_ble_eq_true rfl) dX10_similarity_3 ⟨Nat.le_of_ble_eq_true rfl, Nat.le_of_ble_eq_true rfl⟩ (fun rv_1 _ H locs hp hG => ?_)
  subst rv_1
  refine lv_if_eq (tgt := 11) S.1 S.2.1 dX10_similarity_6 (by decide) (fun c => absurd c (by decide)) (fun _ => ?_)
  refine gx_dconst0 (v := 0) S (by decide +kernel) dX10_similarity_9 ?_
  exact fx_dret S hr hlocks () hG (rfl) dX10_similarity_10
theorem k1404_X7_similarity {n : Nat} {a2 : Int32} (g_a2_le_m1 : a2 ≤ (-1)) (hst : l.stackTraces = false) (hn : N0 + 231 ≤ n) (h0 : F N0 = some (.inr (9, [.ref (N0 + 1), .ref (N0 + 2), .ref (N0 + 11), .ref (N0 + 13), .ref (N0 + 63), .ref (N0 + 65), .ref (N0 + 85), .int (-1), .int (-1), .int 32]))) (h1 : F (N0 + 1) = some (.inl (cTr, 3, .inr (.inr (.inr (.inr (va_up (va_up (va_up (fun _ => none) 0 (some (N0 + 143))) 1 (some (N0 + 150))) 2 (some (N0 + 157))))))))) : vx_Met l yX7_similarity wsX7_similarity ({ frames := 7, cells := 1, slots := 6, locals := 103 }) (va_Pc [.ref N0, .int 2, .int a2] (fP N0 D vwCl (fty cI cC cL cD cII cTr cTm cIt cB) (fen ql) F n)) (fNo N0 D vwCl (fty cI cC cL cD cII cTr cTm cIt cB) F n) (fXC N0 D vwCl (fty cI cC cL cD cII cTr cTm cIt cB) "java/lang/IndexOutOfBoundsException" F n) 1 6 (fA N0) := by
  refine fx_startX 9 rfl rfl (Nat.le_of_ble_eq_true rfl) ?_ rfl
  intro p e s m below meth c ls S htab hlocks hG hl
  have hl : lv_has ls 9 [(0, .ref N0), (1, .int 2), (2, .int a2)] := hl
  have lt_h0 := hG.1.lt h0
  have lt_h1 := hG.1.lt h1
  refine lv_aload_n S.1 S.2.1 dX7_similarity_0 rfl (lv_at hl 0 rfl) ?_
  refine lv_iload_n S.1 S.2.1 dX7_similarity_1 rfl (lv_at hl 1 rfl) ?_
  refine fx_cVr (As := [.int 2]) (rest := []) S hG (k48_X7_treeAt (by omega) h0 h1) h0 rfl (cwV 1 S.2.2.2.2 gX7_similarity_X7_treeAt rfl rfl rfl (by decide +kernel) ⟨Nat.le_of_ble_eq_true rfl, Nat.le_of_ble_eq_true rfl⟩) rfl hl.1 rfl (Nat.le_of_ble_eq_true rfl) dX7_similarity_2 ⟨Nat.le_of_ble_eq_true rfl, Nat.le_of_ble_eq_true rfl⟩ (fun rv_1 _ H locs hp hG => ?_)
  subst rv_1
  refine lv_astore_n (lv' := [(3, .ref (N0 + 157)), (0, .ref N0), (1, .int 2), (2, .int a2)]) S.1 S.2.1 dX7_similarity_5 rfl hl (by decide) rfl (fun ls hl => ?_)
  refine lv_aload_n S.1 S.2.1 dX7_similarity_6 rfl (lv_at hl 1 rfl) ?_
  refine lv_iload_n S.1 S.2.1 dX7_similarity_7 rfl (lv_at hl 3 rfl) ?_
  refine fx_xV (As := [.int a2]) (rest := []) S hG (k450_X7_treeAt g_a2_le_m1 hst (by omega)) h0 rfl (cwV 1 S.2.2.2.2 gX7_similarity_X7_treeAt rfl rfl rfl (by decide +kernel) ⟨Nat.le_of_ble_eq_true rfl, Nat.le_of_ble_eq_true rfl⟩) rfl hl.1 rfl (Nat.le_of_ble_eq_true rfl) dX7_similarity_8 ⟨Nat.le_of_ble_eq_true rfl, Nat.le_of_ble_eq_true rfl⟩ (fun ceq_2 q_2 H locs n_3 hn_3 hG h1q_2 h2q_2 h3q_2 => ?_)
  exact fx_out htab hlocks hG (by omega) h1q_2 h2q_2 h3q_2 (by decide) (by decide)
theorem k1405_L_similarity {n : Nat} {a2 : Int32} (g_a2_le_m1 : a2 ≤ (-1)) (hst : l.stackTraces = false) (hn : N0 + 231 ≤ n) (h0 : F N0 = some (.inr (9, [.ref (N0 + 1), .ref (N0 + 2), .ref (N0 + 11), .ref (N0 + 13), .ref (N0 + 63), .ref (N0 + 65), .ref (N0 + 85), .int (-1), .int (-1), .int 32]))) (h1 : F (N0 + 1) = some (.inl (cTr, 3, .inr (.inr (.inr (.inr (va_up (va_up (va_up (fun _ => none) 0 (some (N0 + 143))) 1 (some (N0 + 150))) 2 (some (N0 + 157))))))))) : Met l yL_similarity wsL_similarity ({ frames := 8, cells := 1, slots := 6, locals := 131 }) (va_Pc [.ref N0, .int 2, .int a2, .ref (N0 + 230)] (fP N0 D vwCl (fty cI cC cL cD cII cTr cTm cIt cB) (fen ql) F n)) (fQi N0 D vwCl (fty cI cC cL cD cII cTr cTm cIt cB) (fun (r : Int32) (u : Nat) => r = 1 ∧ n ≤ u) (fun _ => F) (fun u => u)) 1 6 (fA N0) := by
  refine fx_startW (hh := [(0, 9, 12, 19)]) 5 rfl rfl (Nat.le_of_ble_eq_true rfl) ?_ rfl
  intro p e s m below meth c ls S htab hr hlocks hG hl
  have hl : lv_has ls 5 [(0, .ref N0), (1, .int 2), (2, .int a2), (3, .ref (N0 + 230))] := hl
  have lt_h0 := hG.1.lt h0
  have lt_h1 := hG.1.lt h1
  refine lv_aload_n S.1 S.2.1 dL_similarity_0 rfl (lv_at hl 3 rfl) ?_
  refine lv_iconst (v := 0) S.1 S.2.1 dL_similarity_1 (by decide) ?_
  refine lv_aload_n S.1 S.2.1 dL_similarity_2 rfl (lv_at hl 0 rfl) ?_
  refine lv_iload_n S.1 S.2.1 dL_similarity_3 rfl (lv_at hl 1 rfl) ?_
  refine lv_iload_n S.1 S.2.1 dL_similarity_4 rfl (lv_at hl 2 rfl) ?_
  refine fx_xV (As := [.int 2, .int a2]) (rest := [.int 0, .ref (N0 + 230)]) S hG (k1404_X7_similarity g_a2_le_m1 hst (by omega) h0 h1) h0 rfl (cwV 2 S.2.2.2.2 gL_similarity_X7_similarity rfl rfl rfl (by decide +kernel) ⟨Nat.le_of_ble_eq_true rfl, Nat.le_of_ble_eq_true rfl⟩) rfl hl.1 rfl (Nat.le_of_ble_eq_true rfl) dL_similarity_5 ⟨Nat.le_of_ble_eq_true rfl, Nat.le_of_ble_eq_true rfl⟩ (fun ceq_1 q_1 H locs n_2 hn_2 hG h1q_1 h2q_1 h3q_1 => ?_)
  refine fx_catch (hh := [(0, 9, 12, 19)]) S htab hG h1q_1 h2q_1 h3q_1 [] ⟨0, 9, 12, 19⟩ [] rfl [] (fun z hz => absurd hz List.not_mem_nil) (by decide) (by decide) (by decide +kernel) (List.mem_of_getElem? (i := 2) rfl) ?_
  refine lv_astore (lv' := [(4, .ref q_1), (0, .ref N0), (1, .int 2), (2, .int a2), (3, .ref (N0 + 230))]) S.1 S.2.1 dL_similarity_12 hl (by decide) rfl (fun ls hl => ?_)
  refine lv_iconst (v := 1) S.1 S.2.1 dL_similarity_14 (by decide) ?_
  exact fx_iret S hr hlocks n_2 hG (⟨rfl, hn_2⟩) dL_similarity_15
theorem k1406_X10_similarity {n : Nat} {a2 : Int32} (g_a2_le_m1 : a2 ≤ (-1)) (hn : N0 + 231 ≤ n) (h0 : F (N0 + 164) = some (.inr (12, [.ref (N0 + 165), .int 0, .ref (N0 + 181), .int 0, .int 0, .int 0, .int (-1), .ref (ql 24), .ref (N0 + 182), .ref (N0 + 187), .ref (N0 + 208), .ref (N0 + 209), .ref (N0 + 210), .ref (N0 + 211), .ref (N0 + 212), .int 0, .ref (N0 + 213), .ref (N0 + 218), .ref (N0 + 223), .ref (N0 + 224), .ref (N0 + 225), .ref (N0 + 226), .ref (N0 + 227), .int 0, .int 0, .ref (N0 + 228), .null, .int (-1), .int 0, .int 0, .int 0]))) : Met l yX10_similarity wsX10_similarity ({ frames := 3, cells := 0, slots := 0, locals := 64 }) (va_Pc [.ref (N0 + 164), .int 2, .int a2] (fP N0 D vwCl (fty cI cC cL cD cII cTr cTm cIt cB) (fen ql) F n)) (fQd N0 D vwCl (fty cI cC cL cD cII cTr cTm cIt cB) (fun (r : UInt64) (_ : Unit) => r = 0) (fun _ => (fu F (N0 + 164) (.inr (12, [.ref (N0 + 165), .int 1, .ref (N0 + 181), .int 0, .int 0, .int 0, .int (-1), .ref (ql 24), .ref (N0 + 182), .ref (N0 + 187), .ref (N0 + 208), .ref (N0 + 209), .ref (N0 + 210), .ref (N0 + 211), .ref (N0 + 212), .int 0, .ref (N0 + 213), .ref (N0 + 218), .ref (N0 + 223), .ref (N0 + 224), .ref (N0 + 225), .ref (N0 + 226), .ref (N0 + 227), .int 0, .int 0, .ref (N0 + 228), .null, .int (-1), .int 0, .int 0, .int 0])))) (fun _ => n)) 0 0 (fA N0) := by
  refine fx_start 3 rfl rfl (Nat.le_of_ble_eq_true rfl) ?_ rfl
  intro p e s m below meth c ls S hr hlocks hin hG hl
  have hl : lv_has ls 3 [(0, .ref (N0 + 164)), (1, .int 2), (2, .int a2)] := hl
  have lt_h0 := hG.1.lt h0
  refine lv_aload_n S.1 S.2.1 dX10_similarity_0 rfl (lv_at hl 0 rfl) ?_
  refine lv_iload_n S.1 S.2.1 dX10_similarity_1 rfl (lv_at hl 1 rfl) ?_
  refine lv_iload_n S.1 S.2.1 dX10_similarity_2 rfl (lv_at hl 2 rfl) ?_
  refine fx_cVi (As := [.int 2, .int a2]) (rest := []) S hG (k513_X10_areNone g_a2_le_m1 (by omega) h0) h0 rfl (cwV 2 S.2.2.2.2 gX10_similarity_X10_areNone rfl rfl rfl (by decide +kernel) ⟨Nat.le_of_ble_eq_true rfl, Nat.le_of_ble_eq_true rfl⟩) rfl hl.1 rfl (Nat.le_of_ble_eq_true rfl) dX10_similarity_3 ⟨Nat.le_of_ble_eq_true rfl, Nat.le_of_ble_eq_true rfl⟩ (fun rv_1 _ H locs hp hG => ?_)
  subst rv_1
  refine lv_if_eq (tgt := 11) S.1 S.2.1 dX10_similarity_6 (by decide) (fun c => absurd c (by decide)) (fun _ => ?_)
  refine gx_dconst0 (v := 0) S (by decide +kernel) dX10_similarity_9 ?_
  exact fx_dret S hr hlocks () hG (rfl) dX10_similarity_10
theorem k1407_X7_similarity {n : Nat} (hn : N0 + 231 ≤ n) (h0 : F N0 = some (.inr (9, [.ref (N0 + 1), .ref (N0 + 2), .ref (N0 + 11), .ref (N0 + 13), .ref (N0 + 63), .ref (N0 + 65), .ref (N0 + 85), .int (-1), .int (-1), .int 32]))) (h1 : F (N0 + 1) = some (.inl (cTr, 3, .inr (.inr (.inr (.inr (va_up (va_up (va_up (fun _ => none) 0 (some (N0 + 143))) 1 (some (N0 + 150))) 2 (some (N0 + 157))))))))) (h2 : F (N0 + 13) = some (.inr (3, [.ref (N0 + 14), .ref (N0 + 35), .ref (N0 + 57), .ref (N0 + 58), .ref (N0 + 59), .ref (N0 + 60), .int 0, .int 0, .ref (N0 + 61), .ref (N0 + 62)]))) (h3 : F (N0 + 157) = some (.inr (7, [.ref (N0 + 158), .ref (N0 + 159), .ref (N0 + 160), .ref (N0 + 161), .ref (N0 + 162), .ref (N0 + 163), .int 1]))) (h4 : F (N0 + 57) = some (.inl (cI, 20, .inl (fun _ => 0)))) (h5 : F (N0 + 143) = some (.inr (7, [.ref (N0 + 144), .ref (N0 + 145), .ref (N0 + 146), .ref (N0 + 147), .ref (N0 + 148), .ref (N0 + 149), .int 1]))) (h6 : F (N0 + 58) = some (.inl (cI, 20, .inl (fun _ => 0)))) (h7 : F (N0 + 35) = some (.inl (cII, 21, .inr (.inr (.inr (.inr (fun j => if j < 21 then some ((N0 + 36) + j) else none))))))) (h8 : F (N0 + 36) = some (.inl (cI, 21, .inl (fun _ => 0)))) (h9 : F (N0 + 14) = some (.inl (cII, 20, .inr (.inr (.inr (.inr (fun j => if j < 20 then some ((N0 + 15) + j) else none))))))) (h10 : F (N0 + 158) = some (.inl (cC, 20, .inl (upd (fun _ => 0) 0 97)))) (h11 : F (N0 + 144) = some (.inl (cC, 20, .inl (upd (fun _ => 0) 0 97)))) (h12 : F (N0 + 160) = some (.inl (cI, 20, .inl (fun _ => 0)))) (h13 : F (N0 + 146) = some (.inl (cI, 20, .inl (fun _ => 0)))) (h14 : F (N0 + 15) = some (.inl (cI, 20, .inl (fun _ => 0)))) : Met l yX7_similarity wsX7_similarity ({ frames := 3, cells := 0, slots := 0, locals := 73 }) (va_Pc [.ref N0, .int 2, .int 0] (fP N0 D vwCl (fty cI cC cL cD cII cTr cTm cIt cB) (fen ql) F n)) (fQd N0 D vwCl (fty cI cC cL cD cII cTr cTm cIt cB) (fun (r : UInt64) (_ : Unit) => r = 4607182418800017408) (fun _ => (fu (fu (fu (fu (fu F (N0 + 57) (.inl (cI, 20, .inl (upd (fun _ => 0) 0 1)))) (N0 + 58) (.inl (cI, 20, .inl (upd (fun _ => 0) 0 1)))) (N0 + 13) (.inr (3, [.ref (N0 + 14), .ref (N0 + 35), .ref (N0 + 57), .ref (N0 + 58), .ref (N0 + 59), .ref (N0 + 60), .int 0, .int 0, .ref (N0 + 61), .ref (N0 + 62)]))) (N0 + 36) (.inl (cI, 21, .inl (upd (fun _ => 0) 0 0)))) (N0 + 15) (.inl (cI, 20, .inl (upd (fun _ => 0) 0 0))))) (fun _ => n)) 0 0 (fA N0) := by
  refine fx_start 9 rfl rfl (Nat.le_of_ble_eq_true rfl) ?_ rfl
  intro p e s m below meth c ls S hr hlocks hin hG hl
  have hl : lv_has ls 9 [(0, .ref N0), (1, .int 2), (2, .int 0)] := hl
  have lt_h0 := hG.1.lt h0
  have lt_h1 := hG.1.lt h1
  have lt_h2 := hG.1.lt h2
  have lt_h3 := hG.1.lt h3
  have lt_h4 := hG.1.lt h4
  have lt_h5 := hG.1.lt h5
  have lt_h6 := hG.1.lt h6
  have lt_h7 := hG.1.lt h7
  have lt_h8 := hG.1.lt h8
  have lt_h9 := hG.1.lt h9
  have lt_h10 := hG.1.lt h10
  have lt_h11 := hG.1.lt h11
  have lt_h12 := hG.1.lt h12
  have lt_h13 := hG.1.lt h13
  have lt_h14 := hG.1.lt h14
  refine lv_aload_n S.1 S.2.1 dX7_similarity_0 rfl (lv_at hl 0 rfl) ?_
  refine lv_iload_n S.1 S.2.1 dX7_similarity_1 rfl (lv_at hl 1 rfl) ?_
  refine fx_cVr (As := [.int 2]) (rest := []) S hG (k48_X7_treeAt (by omega) h0 h1) h0 rfl (cwV 1 S.2.2.2.2 gX7_similarity_X7_treeAt rfl rfl rfl (by decide +kernel) ⟨Nat.le_of_ble_eq_true rfl, Nat.le_of_ble_eq_true rfl⟩) rfl hl.1 rfl (Nat.le_of_ble_eq_true rfl) dX7_similarity_2 ⟨Nat.le_of_ble_eq_true rfl, Nat.le_of_ble_eq_true rfl⟩ (fun rv_1 _ H locs hp hG => ?_)
  subst rv_1
  refine lv_astore_n (lv' := [(3, .ref (N0 + 157)), (0, .ref N0), (1, .int 2), (2, .int 0)]) S.1 S.2.1 dX7_similarity_5 rfl hl (by decide) rfl (fun ls hl => ?_)
  refine lv_aload_n S.1 S.2.1 dX7_similarity_6 rfl (lv_at hl 1 rfl) ?_
  refine lv_iload_n S.1 S.2.1 dX7_similarity_7 rfl (lv_at hl 3 rfl) ?_
  refine fx_cVr (As := [.int 0]) (rest := []) S hG (k26_X7_treeAt (by omega) h0 h1) h0 rfl (cwV 1 S.2.2.2.2 gX7_similarity_X7_treeAt rfl rfl rfl (by decide +kernel) ⟨Nat.le_of_ble_eq_true rfl, Nat.le_of_ble_eq_true rfl⟩) rfl hl.1 rfl (Nat.le_of_ble_eq_true rfl) dX7_similarity_8 ⟨Nat.le_of_ble_eq_true rfl, Nat.le_of_ble_eq_true rfl⟩ (fun rv_2 _ H locs hp hG => ?_)
  subst rv_2
  refine lv_astore (lv' := [(4, .ref (N0 + 143)), (3, .ref (N0 + 157)), (0, .ref N0), (1, .int 2), (2, .int 0)]) S.1 S.2.1 dX7_similarity_11 hl (by decide) rfl (fun ls hl => ?_)
  refine lv_aload_n S.1 S.2.1 dX7_similarity_13 rfl (lv_at hl 2 rfl) ?_
  refine gx_get (C := RX7) (T := TX7) (N := 10) S hG h0 i_X7_similarity_X7 rfl 3 (by decide) (by decide +kernel) rfl dX7_similarity_14 ?_
  refine lv_aload_n S.1 S.2.1 dX7_similarity_17 rfl (lv_at hl 1 rfl) ?_
  refine lv_aload S.1 S.2.1 dX7_similarity_18 (lv_at hl 0 rfl) ?_
  refine fx_cVi (As := [.ref (N0 + 157), .ref (N0 + 143)]) (rest := []) S hG (k1263_X1_leastCost (by omega) h2 h3 h4 h5 h6 h7 h8 h9 h10 h11 h12 h13 h14) h2 rfl (cwV 2 S.2.2.2.2 gX7_similarity_X1_leastCost rfl rfl rfl (by decide +kernel) ⟨Nat.le_of_ble_eq_true rfl, Nat.le_of_ble_eq_true rfl⟩) rfl hl.1 rfl (Nat.le_of_ble_eq_true rfl) dX7_similarity_20 ⟨Nat.le_of_ble_eq_true rfl, Nat.le_of_ble_eq_true rfl⟩ (fun rv_3 _ H locs hp hG => ?_)
  subst rv_3
  refine gx_i2d (v := 0) S (by decide +kernel) dX7_similarity_23 ?_
  refine lv_dstore (lv' := [(5, .double 0), (4, .ref (N0 + 143)), (3, .ref (N0 + 157)), (0, .ref N0), (1, .int 2), (2, .int 0)]) S.1 S.2.1 dX7_similarity_24 hl (by decide) rfl (fun ls hl => ?_)
  refine lv_iconst (v := 2) S.1 S.2.1 dX7_similarity_26 (by decide) ?_
  refine lv_aload_n S.1 S.2.1 dX7_similarity_27 rfl (lv_at hl 2 rfl) ?_
  refine gx_get (C := RX5) (T := TX5) (N := 7) S hG (fu_at (by omega) (fu_at (by omega) (fu_at (by omega) (fu_at (by omega) (fu_at (by omega) h3))))) i_X7_similarity_X5 rfl 6 (by decide) (by decide +kernel) rfl dX7_similarity_28 ?_
  refine lv_aload S.1 S.2.1 dX7_similarity_31 (lv_at hl 1 rfl) ?_
  refine gx_get (C := RX5) (T := TX5) (N := 7) S hG (fu_at (by omega) (fu_at (by omega) (fu_at (by omega) (fu_at (by omega) (fu_at (by omega) h5))))) i_X7_similarity_X5 rfl 6 (by decide) (by decide +kernel) rfl dX7_similarity_33 ?_
  refine lv_iadd S.1 S.2.1 dX7_similarity_36 ?_
  refine fx_topi (y := 2) (by decide) ?_
  refine lv_imul S.1 S.2.1 dX7_similarity_37 ?_
  refine fx_topi (y := 4) (by decide) ?_
  refine gx_i2d (v := 4616189618054758400) S (by decide +kernel) dX7_similarity_38 ?_
  refine lv_dstore (lv' := [(7, .double 4616189618054758400), (5, .double 0), (4, .ref (N0 + 143)), (3, .ref (N0 + 157)), (0, .ref N0), (1, .int 2), (2, .int 0)]) S.1 S.2.1 dX7_similarity_39 hl (by decide) rfl (fun ls hl => ?_)
  refine lv_dload S.1 S.2.1 dX7_similarity_41 (lv_at hl 0 rfl) ?_
  refine gx_dconst0 (v := 0) S (by decide +kernel) dX7_similarity_43 ?_
  refine gx_dcmp (v := 1) S (by decide +kernel) dX7_similarity_44 ?_
  refine lv_if_le (tgt := 58) S.1 S.2.1 dX7_similarity_45 (by decide) (fun c => absurd c (by decide)) (fun _ => ?_)
  refine gx_dconst1 (v := 4607182418800017408) S (by decide +kernel) dX7_similarity_48 ?_
  refine lv_dload S.1 S.2.1 dX7_similarity_49 (lv_at hl 1 rfl) ?_
  refine lv_dload S.1 S.2.1 dX7_similarity_51 (lv_at hl 0 rfl) ?_
  refine gx_ddiv (v := 0) S (by decide +kernel) (by unfold vf_n64; decide +kernel) dX7_similarity_53 ?_
  refine gx_dsub (v := 4607182418800017408) S (by decide +kernel) (by unfold vf_n64; decide +kernel) dX7_similarity_54 ?_
  refine lv_goto (tgt := 59) S.1 S.2.1 dX7_similarity_55 (by decide) ?_
  exact fx_dret S hr hlocks () hG (rfl) dX7_similarity_59
theorem k1408_L_similarity {n : Nat} (hn : N0 + 231 ≤ n) (h0 : F N0 = some (.inr (9, [.ref (N0 + 1), .ref (N0 + 2), .ref (N0 + 11), .ref (N0 + 13), .ref (N0 + 63), .ref (N0 + 65), .ref (N0 + 85), .int (-1), .int (-1), .int 32]))) (h1 : F (N0 + 1) = some (.inl (cTr, 3, .inr (.inr (.inr (.inr (va_up (va_up (va_up (fun _ => none) 0 (some (N0 + 143))) 1 (some (N0 + 150))) 2 (some (N0 + 157))))))))) (h2 : F (N0 + 13) = some (.inr (3, [.ref (N0 + 14), .ref (N0 + 35), .ref (N0 + 57), .ref (N0 + 58), .ref (N0 + 59), .ref (N0 + 60), .int 0, .int 0, .ref (N0 + 61), .ref (N0 + 62)]))) (h3 : F (N0 + 157) = some (.inr (7, [.ref (N0 + 158), .ref (N0 + 159), .ref (N0 + 160), .ref (N0 + 161), .ref (N0 + 162), .ref (N0 + 163), .int 1]))) (h4 : F (N0 + 57) = some (.inl (cI, 20, .inl (fun _ => 0)))) (h5 : F (N0 + 143) = some (.inr (7, [.ref (N0 + 144), .ref (N0 + 145), .ref (N0 + 146), .ref (N0 + 147), .ref (N0 + 148), .ref (N0 + 149), .int 1]))) (h6 : F (N0 + 58) = some (.inl (cI, 20, .inl (fun _ => 0)))) (h7 : F (N0 + 35) = some (.inl (cII, 21, .inr (.inr (.inr (.inr (fun j => if j < 21 then some ((N0 + 36) + j) else none))))))) (h8 : F (N0 + 36) = some (.inl (cI, 21, .inl (fun _ => 0)))) (h9 : F (N0 + 14) = some (.inl (cII, 20, .inr (.inr (.inr (.inr (fun j => if j < 20 then some ((N0 + 15) + j) else none))))))) (h10 : F (N0 + 158) = some (.inl (cC, 20, .inl (upd (fun _ => 0) 0 97)))) (h11 : F (N0 + 144) = some (.inl (cC, 20, .inl (upd (fun _ => 0) 0 97)))) (h12 : F (N0 + 160) = some (.inl (cI, 20, .inl (fun _ => 0)))) (h13 : F (N0 + 146) = some (.inl (cI, 20, .inl (fun _ => 0)))) (h14 : F (N0 + 15) = some (.inl (cI, 20, .inl (fun _ => 0)))) (h15 : F (N0 + 230) = some (.inl (cD, 1, .inr (.inr (.inr (.inl (fun _ => 0))))))) : Met l yL_similarity wsL_similarity ({ frames := 4, cells := 0, slots := 0, locals := 101 }) (va_Pc [.ref N0, .int 2, .int 0, .ref (N0 + 230)] (fP N0 D vwCl (fty cI cC cL cD cII cTr cTm cIt cB) (fen ql) F n)) (fQi N0 D vwCl (fty cI cC cL cD cII cTr cTm cIt cB) (fun (r : Int32) (_ : Unit) => r = 0) (fun _ => (fu (fu (fu (fu (fu (fu F (N0 + 57) (.inl (cI, 20, .inl (upd (fun _ => 0) 0 1)))) (N0 + 58) (.inl (cI, 20, .inl (upd (fun _ => 0) 0 1)))) (N0 + 13) (.inr (3, [.ref (N0 + 14), .ref (N0 + 35), .ref (N0 + 57), .ref (N0 + 58), .ref (N0 + 59), .ref (N0 + 60), .int 0, .int 0, .ref (N0 + 61), .ref (N0 + 62)]))) (N0 + 36) (.inl (cI, 21, .inl (upd (fun _ => 0) 0 0)))) (N0 + 15) (.inl (cI, 20, .inl (upd (fun _ => 0) 0 0)))) (N0 + 230) (.inl (cD, 1, .inr (.inr (.inr (.inl (vf_upd (fun _ => 0) 0 4607182418800017408)))))))) (fun _ => n)) 0 0 (fA N0) := by
  refine fx_startW (hh := [(0, 9, 12, 19)]) 5 rfl rfl (Nat.le_of_ble_eq_true rfl) ?_ rfl
  intro p e s m below meth c ls S htab hr hlocks hG hl
  have hl : lv_has ls 5 [(0, .ref N0), (1, .int 2), (2, .int 0), (3, .ref (N0 + 230))] := hl
  have lt_h0 := hG.1.lt h0
  have lt_h1 := hG.1.lt h1
  have lt_h2 := hG.1.lt h2
  have lt_h3 := hG.1.lt h3
  have lt_h4 := hG.1.lt h4
  have lt_h5 := hG.1.lt h5
  have lt_h6 := hG.1.lt h6
  have lt_h7 := hG.1.lt h7
  have lt_h8 := hG.1.lt h8
  have lt_h9 := hG.1.lt h9
  have lt_h10 := hG.1.lt h10
  have lt_h11 := hG.1.lt h11
  have lt_h12 := hG.1.lt h12
  have lt_h13 := hG.1.lt h13
  have lt_h14 := hG.1.lt h14
  have lt_h15 := hG.1.lt h15
  refine lv_aload_n S.1 S.2.1 dL_similarity_0 rfl (lv_at hl 3 rfl) ?_
  refine lv_iconst (v := 0) S.1 S.2.1 dL_similarity_1 (by decide) ?_
  refine lv_aload_n S.1 S.2.1 dL_similarity_2 rfl (lv_at hl 0 rfl) ?_
  refine lv_iload_n S.1 S.2.1 dL_similarity_3 rfl (lv_at hl 1 rfl) ?_
  refine lv_iload_n S.1 S.2.1 dL_similarity_4 rfl (lv_at hl 2 rfl) ?_
  refine fx_cVd (As := [.int 2, .int 0]) (rest := [.int 0, .ref (N0 + 230)]) S hG (k1407_X7_similarity (by omega) h0 h1 h2 h3 h4 h5 h6 h7 h8 h9 h10 h11 h12 h13 h14) h0 rfl (cwV 2 S.2.2.2.2 gL_similarity_X7_similarity rfl rfl rfl (by decide +kernel) ⟨Nat.le_of_ble_eq_true rfl, Nat.le_of_ble_eq_true rfl⟩) rfl hl.1 rfl (Nat.le_of_ble_eq_true rfl) dL_similarity_5 ⟨Nat.le_of_ble_eq_true rfl, Nat.le_of_ble_eq_true rfl⟩ (fun rv_1 _ H locs hp hG => ?_)
  subst rv_1
  refine gx_dast (f' := vf_upd (fun _ => 0) 0 4607182418800017408) S hG 3 (fu_at (by omega) (fu_at (by omega) (fu_at (by omega) (fu_at (by omega) (fu_at (by omega) h15))))) rfl (fin_l (by decide)) dL_similarity_8 rfl (fun H locs hG => ?_)
  refine lv_goto (tgt := 16) S.1 S.2.1 dL_similarity_9 (by decide) ?_
  refine lv_iconst (v := 0) S.1 S.2.1 dL_similarity_16 (by decide) ?_
  exact fx_iret S hr hlocks () hG (rfl) dL_similarity_17
theorem k1409_X10_similarity {n : Nat} (hn : N0 + 231 ≤ n) (h0 : F (N0 + 164) = some (.inr (12, [.ref (N0 + 165), .int 0, .ref (N0 + 181), .int 0, .int 0, .int 0, .int (-1), .ref (ql 24), .ref (N0 + 182), .ref (N0 + 187), .ref (N0 + 208), .ref (N0 + 209), .ref (N0 + 210), .ref (N0 + 211), .ref (N0 + 212), .int 0, .ref (N0 + 213), .ref (N0 + 218), .ref (N0 + 223), .ref (N0 + 224), .ref (N0 + 225), .ref (N0 + 226), .ref (N0 + 227), .int 0, .int 0, .ref (N0 + 228), .null, .int (-1), .int 0, .int 0, .int 0]))) (h1 : F (N0 + 165) = some (.inl (cTm, 3, .inr (.inr (.inr (.inr (va_up (va_up (va_up (fun _ => none) 0 (some (N0 + 166))) 1 (some (N0 + 171))) 2 (some (N0 + 176))))))))) (h2 : F (N0 + 176) = some (.inr (11, [.ref (N0 + 177), .ref (N0 + 178), .ref (N0 + 179), .ref (N0 + 180), .int 1]))) (h3 : F (N0 + 166) = some (.inr (11, [.ref (N0 + 167), .ref (N0 + 168), .ref (N0 + 169), .ref (N0 + 170), .int 1]))) (h4 : F (N0 + 177) = some (.inl (cI, 20, .inl (upd (fun _ => 0) 0 97)))) (h5 : F (N0 + 167) = some (.inl (cI, 20, .inl (upd (fun _ => 0) 0 97)))) (h6 : F (N0 + 179) = some (.inl (cI, 20, .inl (upd (fun _ => 0) 0 0)))) (h7 : F (N0 + 169) = some (.inl (cI, 20, .inl (upd (fun _ => 0) 0 0)))) (h8 : F (N0 + 187) = some (.inl (cII, 20, .inr (.inr (.inr (.inr (fun j => if j < 20 then some ((N0 + 188) + j) else none))))))) (h9 : F (N0 + 188) = some (.inl (cI, 20, .inl (fun _ => 0)))) : Met l yX10_similarity wsX10_similarity ({ frames := 3, cells := 4, slots := 2, locals := 72 }) (va_Pc [.ref (N0 + 164), .int 2, .int 0] (fP N0 D vwCl (fty cI cC cL cD cII cTr cTm cIt cB) (fen ql) F n)) (fQd N0 D vwCl (fty cI cC cL cD cII cTr cTm cIt cB) (fun (r : UInt64) (_ : Unit) => r = 4607182418800017408) (fun _ => (fblk (fu (fu F (N0 + 164) (.inr (12, [.ref (N0 + 165), .int 0, .ref (N0 + 181), .int 0, .int 0, .int 0, .int (-1), .ref (ql 24), .ref (N0 + 182), .ref (N0 + 187), .ref (N0 + 208), .ref (N0 + 209), .ref (N0 + 210), .ref (N0 + 211), .ref (N0 + 212), .int 0, .ref (N0 + 213), .ref (N0 + 218), .ref (N0 + 223), .ref (N0 + 224), .ref (N0 + 225), .ref (N0 + 226), .ref (N0 + 227), .int 0, .int 0, .ref (N0 + 228), .null, .int (-1), .int 0, .int 0, .int 0]))) (N0 + 188) (.inl (cI, 20, .inl (upd (fun _ => 0) 0 0)))) n [.inl (cI, 0, .inl (fun _ => 0)), .inl (cI, 0, .inl (fun _ => 0)), .inl (cII, 1, .inr (.inr (.inr (.inr (fun j => if j < 1 then some ((n + 3) + j) else none))))), .inl (cI, 1, .inl (fun _ => 0))])) (fun _ => (n + 4))) 4 2 (fA N0) := by
  refine fx_start 3 rfl rfl (Nat.le_of_ble_eq_true rfl) ?_ rfl
  intro p e s m below meth c ls S hr hlocks hin hG hl
  have hl : lv_has ls 3 [(0, .ref (N0 + 164)), (1, .int 2), (2, .int 0)] := hl
  have lt_h0 := hG.1.lt h0
  have lt_h1 := hG.1.lt h1
  have lt_h2 := hG.1.lt h2
  have lt_h3 := hG.1.lt h3
  have lt_h4 := hG.1.lt h4
  have lt_h5 := hG.1.lt h5
  have lt_h6 := hG.1.lt h6
  have lt_h7 := hG.1.lt h7
  have lt_h8 := hG.1.lt h8
  have lt_h9 := hG.1.lt h9
  refine lv_aload_n S.1 S.2.1 dX10_similarity_0 rfl (lv_at hl 0 rfl) ?_
  refine lv_iload_n S.1 S.2.1 dX10_similarity_1 rfl (lv_at hl 1 rfl) ?_
  refine lv_iload_n S.1 S.2.1 dX10_similarity_2 rfl (lv_at hl 2 rfl) ?_
  refine fx_cVi (As := [.int 2, .int 0]) (rest := []) S hG (k518_X10_areNone (by omega) h0) h0 rfl (cwV 2 S.2.2.2.2 gX10_similarity_X10_areNone rfl rfl rfl (by decide +kernel) ⟨Nat.le_of_ble_eq_true rfl, Nat.le_of_ble_eq_true rfl⟩) rfl hl.1 rfl (Nat.le_of_ble_eq_true rfl) dX10_similarity_3 ⟨Nat.le_of_ble_eq_true rfl, Nat.le_of_ble_eq_true rfl⟩ (fun rv_1 _ H locs hp hG => ?_)
  subst rv_1
  refine lv_if_eq (tgt := 11) S.1 S.2.1 dX10_similarity_6 (by decide) (fun _ => ?_) (fun c => absurd (by decide) c)
  refine gx_dconst1 (v := 4607182418800017408) S (by decide +kernel) dX10_similarity_11 ?_
  refine lv_aload_n S.1 S.2.1 dX10_similarity_12 rfl (lv_at hl 0 rfl) ?_
  refine lv_aload_n S.1 S.2.1 dX10_similarity_13 rfl (lv_at hl 0 rfl) ?_
  refine gx_get (C := RX10) (T := TX10) (N := 31) S hG fu_s i_X10_similarity_X10 rfl 0 (by decide) (by decide +kernel) rfl dX10_similarity_14 ?_
  refine lv_iload_n S.1 S.2.1 dX10_similarity_17 rfl (lv_at hl 1 rfl) ?_
  refine gx_aldq (x := (N0 + 176)) S hG 6 rfl (fu_at (by omega) h1) rfl (fin_l (by decide)) (rfl) dX10_similarity_18 ?_
  refine lv_aload_n S.1 S.2.1 dX10_similarity_19 rfl (lv_at hl 0 rfl) ?_
  refine gx_get (C := RX10) (T := TX10) (N := 31) S hG fu_s i_X10_similarity_X10 rfl 0 (by decide) (by decide +kernel) rfl dX10_similarity_20 ?_
  refine lv_iload_n S.1 S.2.1 dX10_similarity_23 rfl (lv_at hl 2 rfl) ?_
  refine gx_aldq (x := (N0 + 166)) S hG 6 rfl (fu_at (by omega) h1) rfl (fin_l (by decide)) (rfl) dX10_similarity_24 ?_
  refine fx_cVi (As := [.ref (N0 + 176), .ref (N0 + 166)]) (rest := [.double 4607182418800017408]) S hG (k1267_X10_fills (by omega) (fu_at (by omega) h2) (fu_at (by omega) h3) (fu_at (by omega) h4) (fu_at (by omega) h5) (fu_at (by omega) h6) (fu_at (by omega) h7) fu_s (fu_at (by omega) h8) (fu_at (by omega) h9)) fu_s rfl (cwV 2 S.2.2.2.2 gX10_similarity_X10_fills rfl rfl rfl (by decide +kernel) ⟨Nat.le_of_ble_eq_true rfl, Nat.le_of_ble_eq_true rfl⟩) rfl hl.1 rfl (Nat.le_of_ble_eq_true rfl) dX10_similarity_25 ⟨Nat.le_of_ble_eq_true rfl, Nat.le_of_ble_eq_true rfl⟩ (fun rv_2 _ H locs hp hG => ?_)
  subst rv_2
  refine W.widen (k := 4) (n := 2) (by decide) (by decide) ?_
  refine gx_i2d (v := 0) S (by decide +kernel) dX10_similarity_28 ?_
  refine lv_iconst (v := 2) S.1 S.2.1 dX10_similarity_29 (by decide) ?_
  refine lv_aload_n S.1 S.2.1 dX10_similarity_30 rfl (lv_at hl 0 rfl) ?_
  refine gx_get (C := RX10) (T := TX10) (N := 31) S hG (fblk_sk 4 rfl (by omega) (fu_at (by omega) fu_s)) i_X10_similarity_X10 rfl 0 (by decide) (by decide +kernel) rfl dX10_similarity_31 ?_
  refine lv_iload_n S.1 S.2.1 dX10_similarity_34 rfl (lv_at hl 1 rfl) ?_
  refine gx_aldq (x := (N0 + 176)) S hG 6 rfl (fblk_sk 4 rfl (by omega) (fu_at (by omega) (fu_at (by omega) h1))) rfl (fin_l (by decide)) (rfl) dX10_similarity_35 ?_
  refine gx_getN (C := RX9) (T := TX9) (N := 5) S hG (fblk_sk 4 rfl (by omega) (fu_at (by omega) (fu_at (by omega) h2))) i_X10_similarity_X9 rfl 4 (by decide) (List.mem_of_getElem? (i := 4) rfl) rfl dX10_similarity_36 ?_
  refine lv_aload_n S.1 S.2.1 dX10_similarity_39 rfl (lv_at hl 0 rfl) ?_
  refine gx_get (C := RX10) (T := TX10) (N := 31) S hG (fblk_sk 4 rfl (by omega) (fu_at (by omega) fu_s)) i_X10_similarity_X10 rfl 0 (by decide) (by decide +kernel) rfl dX10_similarity_40 ?_
  refine lv_iload_n S.1 S.2.1 dX10_similarity_43 rfl (lv_at hl 2 rfl) ?_
  refine gx_aldq (x := (N0 + 166)) S hG 6 rfl (fblk_sk 4 rfl (by omega) (fu_at (by omega) (fu_at (by omega) h1))) rfl (fin_l (by decide)) (rfl) dX10_similarity_44 ?_
  refine gx_getN (C := RX9) (T := TX9) (N := 5) S hG (fblk_sk 4 rfl (by omega) (fu_at (by omega) (fu_at (by omega) h3))) i_X10_similarity_X9 rfl 4 (by decide) (List.mem_of_getElem? (i := 4) rfl) rfl dX10_similarity_45 ?_
  refine lv_iadd S.1 S.2.1 dX10_similarity_48 ?_
  refine fx_topi (y := 2) (by decide) ?_
  refine lv_imul S.1 S.2.1 dX10_similarity_49 ?_
  refine fx_topi (y := 4) (by decide) ?_
  refine gx_i2d (v := 4616189618054758400) S (by decide +kernel) dX10_similarity_50 ?_
  refine gx_ddiv (v := 0) S (by decide +kernel) (by unfold vf_n64; decide +kernel) dX10_similarity_51 ?_
  refine gx_dsub (v := 4607182418800017408) S (by decide +kernel) (by unfold vf_n64; decide +kernel) dX10_similarity_52 ?_
  have hG : fG N0 D vwCl (fty cI cC cL cD cII cTr cTm cIt cB) (fen ql) s (fblk (fu (fu F (N0 + 164) (.inr (12, [.ref (N0 + 165), .int 0, .ref (N0 + 181), .int 0, .int 0, .int 0, .int (-1), .ref (ql 24), .ref (N0 + 182), .ref (N0 + 187), .ref (N0 + 208), .ref (N0 + 209), .ref (N0 + 210), .ref (N0 + 211), .ref (N0 + 212), .int 0, .ref (N0 + 213), .ref (N0 + 218), .ref (N0 + 223), .ref (N0 + 224), .ref (N0 + 225), .ref (N0 + 226), .ref (N0 + 227), .int 0, .int 0, .ref (N0 + 228), .null, .int (-1), .int 0, .int 0, .int 0]))) (N0 + 188) (.inl (cI, 20, .inl (upd (fun _ => 0) 0 0)))) n [.inl (cI, 0, .inl (fun _ => 0)), .inl (cI, 0, .inl (fun _ => 0)), .inl (cII, 1, .inr (.inr (.inr (.inr (fun j => if j < 1 then some ((n + 3) + j) else none))))), .inl (cI, 1, .inl (fun _ => 0))]) (n + 4) H locs := hG.weak (fun a e h => by
    rcases fblk_cases 4 rfl h with ⟨k, rfl, hlt, hk⟩ | ⟨hout, h⟩
    · rcases (show k = 0 ∨ k = 1 ∨ k = 2 ∨ k = 3 by omega) with rfl | rfl | rfl | rfl
      · cases (show some (.inl (cI, 0, .inl (fun _ => 0))) = some e from hk); exact (fblk_at 0 (by omega) rfl)
      · cases (show some (.inl (cI, 0, .inl (fun _ => 0))) = some e from hk); exact (fblk_at 1 (by omega) rfl)
      · cases (show some (.inl (cII, 1, .inr (.inr (.inr (.inr (fun j => if j < 1 then some ((n + 3) + j) else none)))))) = some e from hk); exact (fblk_at 2 (by omega) rfl)
      · cases (show some (.inl (cI, 1, .inl (fun _ => 0))) = some e from hk); exact (fblk_at 3 (by omega) rfl)
    · rcases fu_cases h with ⟨rfl, he⟩ | ⟨hne0, h⟩
      · cases he; exact (fblk_sk 4 rfl (by omega) fu_s)
      · skip
        rcases fu_cases h with ⟨rfl, he⟩ | ⟨hne1, h⟩
        · cases he; exact (fblk_sk 4 rfl (by omega) (fu_at (by omega) fu_s))
        · exact (fblk_sk 4 rfl (by omega) (fu_at (by omega) (fu_at (by omega) h))))
  exact fx_dret S hr hlocks () hG (rfl) dX10_similarity_53
theorem k1410_X7_similarity {n : Nat} (hn : N0 + 231 ≤ n) (h0 : F N0 = some (.inr (9, [.ref (N0 + 1), .ref (N0 + 2), .ref (N0 + 11), .ref (N0 + 13), .ref (N0 + 63), .ref (N0 + 65), .ref (N0 + 85), .int (-1), .int (-1), .int 32]))) (h1 : F (N0 + 1) = some (.inl (cTr, 3, .inr (.inr (.inr (.inr (va_up (va_up (va_up (fun _ => none) 0 (some (N0 + 143))) 1 (some (N0 + 150))) 2 (some (N0 + 157))))))))) (h2 : F (N0 + 13) = some (.inr (3, [.ref (N0 + 14), .ref (N0 + 35), .ref (N0 + 57), .ref (N0 + 58), .ref (N0 + 59), .ref (N0 + 60), .int 0, .int 0, .ref (N0 + 61), .ref (N0 + 62)]))) (h3 : F (N0 + 157) = some (.inr (7, [.ref (N0 + 158), .ref (N0 + 159), .ref (N0 + 160), .ref (N0 + 161), .ref (N0 + 162), .ref (N0 + 163), .int 1]))) (h4 : F (N0 + 57) = some (.inl (cI, 20, .inl (fun _ => 0)))) (h5 : F (N0 + 150) = some (.inr (7, [.ref (N0 + 151), .ref (N0 + 152), .ref (N0 + 153), .ref (N0 + 154), .ref (N0 + 155), .ref (N0 + 156), .int 1]))) (h6 : F (N0 + 58) = some (.inl (cI, 20, .inl (fun _ => 0)))) (h7 : F (N0 + 35) = some (.inl (cII, 21, .inr (.inr (.inr (.inr (fun j => if j < 21 then some ((N0 + 36) + j) else none))))))) (h8 : F (N0 + 36) = some (.inl (cI, 21, .inl (fun _ => 0)))) (h9 : F (N0 + 14) = some (.inl (cII, 20, .inr (.inr (.inr (.inr (fun j => if j < 20 then some ((N0 + 15) + j) else none))))))) (h10 : F (N0 + 158) = some (.inl (cC, 20, .inl (upd (fun _ => 0) 0 97)))) (h11 : F (N0 + 151) = some (.inl (cC, 20, .inl (upd (fun _ => 0) 0 97)))) (h12 : F (N0 + 160) = some (.inl (cI, 20, .inl (fun _ => 0)))) (h13 : F (N0 + 153) = some (.inl (cI, 20, .inl (fun _ => 0)))) (h14 : F (N0 + 15) = some (.inl (cI, 20, .inl (fun _ => 0)))) : Met l yX7_similarity wsX7_similarity ({ frames := 3, cells := 0, slots := 0, locals := 73 }) (va_Pc [.ref N0, .int 2, .int 1] (fP N0 D vwCl (fty cI cC cL cD cII cTr cTm cIt cB) (fen ql) F n)) (fQd N0 D vwCl (fty cI cC cL cD cII cTr cTm cIt cB) (fun (r : UInt64) (_ : Unit) => r = 4607182418800017408) (fun _ => (fu (fu (fu (fu (fu F (N0 + 57) (.inl (cI, 20, .inl (upd (fun _ => 0) 0 1)))) (N0 + 58) (.inl (cI, 20, .inl (upd (fun _ => 0) 0 1)))) (N0 + 13) (.inr (3, [.ref (N0 + 14), .ref (N0 + 35), .ref (N0 + 57), .ref (N0 + 58), .ref (N0 + 59), .ref (N0 + 60), .int 0, .int 0, .ref (N0 + 61), .ref (N0 + 62)]))) (N0 + 36) (.inl (cI, 21, .inl (upd (fun _ => 0) 0 0)))) (N0 + 15) (.inl (cI, 20, .inl (upd (fun _ => 0) 0 0))))) (fun _ => n)) 0 0 (fA N0) := by
  refine fx_start 9 rfl rfl (Nat.le_of_ble_eq_true rfl) ?_ rfl
  intro p e s m below meth c ls S hr hlocks hin hG hl
  have hl : lv_has ls 9 [(0, .ref N0), (1, .int 2), (2, .int 1)] := hl
  have lt_h0 := hG.1.lt h0
  have lt_h1 := hG.1.lt h1
  have lt_h2 := hG.1.lt h2
  have lt_h3 := hG.1.lt h3
  have lt_h4 := hG.1.lt h4
  have lt_h5 := hG.1.lt h5
  have lt_h6 := hG.1.lt h6
  have lt_h7 := hG.1.lt h7
  have lt_h8 := hG.1.lt h8
  have lt_h9 := hG.1.lt h9
  have lt_h10 := hG.1.lt h10
  have lt_h11 := hG.1.lt h11
  have lt_h12 := hG.1.lt h12
  have lt_h13 := hG.1.lt h13
  have lt_h14 := hG.1.lt h14
  refine lv_aload_n S.1 S.2.1 dX7_similarity_0 rfl (lv_at hl 0 rfl) ?_
  refine lv_iload_n S.1 S.2.1 dX7_similarity_1 rfl (lv_at hl 1 rfl) ?_
  refine fx_cVr (As := [.int 2]) (rest := []) S hG (k48_X7_treeAt (by omega) h0 h1) h0 rfl (cwV 1 S.2.2.2.2 gX7_similarity_X7_treeAt rfl rfl rfl (by decide +kernel) ⟨Nat.le_of_ble_eq_true rfl, Nat.le_of_ble_eq_true rfl⟩) rfl hl.1 rfl (Nat.le_of_ble_eq_true rfl) dX7_similarity_2 ⟨Nat.le_of_ble_eq_true rfl, Nat.le_of_ble_eq_true rfl⟩ (fun rv_1 _ H locs hp hG => ?_)
  subst rv_1
  refine lv_astore_n (lv' := [(3, .ref (N0 + 157)), (0, .ref N0), (1, .int 2), (2, .int 1)]) S.1 S.2.1 dX7_similarity_5 rfl hl (by decide) rfl (fun ls hl => ?_)
  refine lv_aload_n S.1 S.2.1 dX7_similarity_6 rfl (lv_at hl 1 rfl) ?_
  refine lv_iload_n S.1 S.2.1 dX7_similarity_7 rfl (lv_at hl 3 rfl) ?_
  refine fx_cVr (As := [.int 1]) (rest := []) S hG (k42_X7_treeAt (by omega) h0 h1) h0 rfl (cwV 1 S.2.2.2.2 gX7_similarity_X7_treeAt rfl rfl rfl (by decide +kernel) ⟨Nat.le_of_ble_eq_true rfl, Nat.le_of_ble_eq_true rfl⟩) rfl hl.1 rfl (Nat.le_of_ble_eq_true rfl) dX7_similarity_8 ⟨Nat.le_of_ble_eq_true rfl, Nat.le_of_ble_eq_true rfl⟩ (fun rv_2 _ H locs hp hG => ?_)
  subst rv_2
  refine lv_astore (lv' := [(4, .ref (N0 + 150)), (3, .ref (N0 + 157)), (0, .ref N0), (1, .int 2), (2, .int 1)]) S.1 S.2.1 dX7_similarity_11 hl (by decide) rfl (fun ls hl => ?_)
  refine lv_aload_n S.1 S.2.1 dX7_similarity_13 rfl (lv_at hl 2 rfl) ?_
  refine gx_get (C := RX7) (T := TX7) (N := 10) S hG h0 i_X7_similarity_X7 rfl 3 (by decide) (by decide +kernel) rfl dX7_similarity_14 ?_
  refine lv_aload_n S.1 S.2.1 dX7_similarity_17 rfl (lv_at hl 1 rfl) ?_
  refine lv_aload S.1 S.2.1 dX7_similarity_18 (lv_at hl 0 rfl) ?_
  refine fx_cVi (As := [.ref (N0 + 157), .ref (N0 + 150)]) (rest := []) S hG (k1272_X1_leastCost (by omega) h2 h3 h4 h5 h6 h7 h8 h9 h10 h11 h12 h13 h14) h2 rfl (cwV 2 S.2.2.2.2 gX7_similarity_X1_leastCost rfl rfl rfl (by decide +kernel) ⟨Nat.le_of_ble_eq_true rfl, Nat.le_of_ble_eq_true rfl⟩) rfl hl.1 rfl (Nat.le_of_ble_eq_true rfl) dX7_similarity_20 ⟨Nat.le_of_ble_eq_true rfl, Nat.le_of_ble_eq_true rfl⟩ (fun rv_3 _ H locs hp hG => ?_)
  subst rv_3
  refine gx_i2d (v := 0) S (by decide +kernel) dX7_similarity_23 ?_
  refine lv_dstore (lv' := [(5, .double 0), (4, .ref (N0 + 150)), (3, .ref (N0 + 157)), (0, .ref N0), (1, .int 2), (2, .int 1)]) S.1 S.2.1 dX7_similarity_24 hl (by decide) rfl (fun ls hl => ?_)
  refine lv_iconst (v := 2) S.1 S.2.1 dX7_similarity_26 (by decide) ?_
  refine lv_aload_n S.1 S.2.1 dX7_similarity_27 rfl (lv_at hl 2 rfl) ?_
  refine gx_get (C := RX5) (T := TX5) (N := 7) S hG (fu_at (by omega) (fu_at (by omega) (fu_at (by omega) (fu_at (by omega) (fu_at (by omega) h3))))) i_X7_similarity_X5 rfl 6 (by decide) (by decide +kernel) rfl dX7_similarity_28 ?_
  refine lv_aload S.1 S.2.1 dX7_similarity_31 (lv_at hl 1 rfl) ?_
  refine gx_get (C := RX5) (T := TX5) (N := 7) S hG (fu_at (by omega) (fu_at (by omega) (fu_at (by omega) (fu_at (by omega) (fu_at (by omega) h5))))) i_X7_similarity_X5 rfl 6 (by decide) (by decide +kernel) rfl dX7_similarity_33 ?_
  refine lv_iadd S.1 S.2.1 dX7_similarity_36 ?_
  refine fx_topi (y := 2) (by decide) ?_
  refine lv_imul S.1 S.2.1 dX7_similarity_37 ?_
  refine fx_topi (y := 4) (by decide) ?_
  refine gx_i2d (v := 4616189618054758400) S (by decide +kernel) dX7_similarity_38 ?_
  refine lv_dstore (lv' := [(7, .double 4616189618054758400), (5, .double 0), (4, .ref (N0 + 150)), (3, .ref (N0 + 157)), (0, .ref N0), (1, .int 2), (2, .int 1)]) S.1 S.2.1 dX7_similarity_39 hl (by decide) rfl (fun ls hl => ?_)
  refine lv_dload S.1 S.2.1 dX7_similarity_41 (lv_at hl 0 rfl) ?_
  refine gx_dconst0 (v := 0) S (by decide +kernel) dX7_similarity_43 ?_
  refine gx_dcmp (v := 1) S (by decide +kernel) dX7_similarity_44 ?_
  refine lv_if_le (tgt := 58) S.1 S.2.1 dX7_similarity_45 (by decide) (fun c => absurd c (by decide)) (fun _ => ?_)
  refine gx_dconst1 (v := 4607182418800017408) S (by decide +kernel) dX7_similarity_48 ?_
  refine lv_dload S.1 S.2.1 dX7_similarity_49 (lv_at hl 1 rfl) ?_
  refine lv_dload S.1 S.2.1 dX7_similarity_51 (lv_at hl 0 rfl) ?_
  refine gx_ddiv (v := 0) S (by decide +kernel) (by unfold vf_n64; decide +kernel) dX7_similarity_53 ?_
  refine gx_dsub (v := 4607182418800017408) S (by decide +kernel) (by unfold vf_n64; decide +kernel) dX7_similarity_54 ?_
  refine lv_goto (tgt := 59) S.1 S.2.1 dX7_similarity_55 (by decide) ?_
  exact fx_dret S hr hlocks () hG (rfl) dX7_similarity_59
theorem k1411_L_similarity {n : Nat} (hn : N0 + 231 ≤ n) (h0 : F N0 = some (.inr (9, [.ref (N0 + 1), .ref (N0 + 2), .ref (N0 + 11), .ref (N0 + 13), .ref (N0 + 63), .ref (N0 + 65), .ref (N0 + 85), .int (-1), .int (-1), .int 32]))) (h1 : F (N0 + 1) = some (.inl (cTr, 3, .inr (.inr (.inr (.inr (va_up (va_up (va_up (fun _ => none) 0 (some (N0 + 143))) 1 (some (N0 + 150))) 2 (some (N0 + 157))))))))) (h2 : F (N0 + 13) = some (.inr (3, [.ref (N0 + 14), .ref (N0 + 35), .ref (N0 + 57), .ref (N0 + 58), .ref (N0 + 59), .ref (N0 + 60), .int 0, .int 0, .ref (N0 + 61), .ref (N0 + 62)]))) (h3 : F (N0 + 157) = some (.inr (7, [.ref (N0 + 158), .ref (N0 + 159), .ref (N0 + 160), .ref (N0 + 161), .ref (N0 + 162), .ref (N0 + 163), .int 1]))) (h4 : F (N0 + 57) = some (.inl (cI, 20, .inl (fun _ => 0)))) (h5 : F (N0 + 150) = some (.inr (7, [.ref (N0 + 151), .ref (N0 + 152), .ref (N0 + 153), .ref (N0 + 154), .ref (N0 + 155), .ref (N0 + 156), .int 1]))) (h6 : F (N0 + 58) = some (.inl (cI, 20, .inl (fun _ => 0)))) (h7 : F (N0 + 35) = some (.inl (cII, 21, .inr (.inr (.inr (.inr (fun j => if j < 21 then some ((N0 + 36) + j) else none))))))) (h8 : F (N0 + 36) = some (.inl (cI, 21, .inl (fun _ => 0)))) (h9 : F (N0 + 14) = some (.inl (cII, 20, .inr (.inr (.inr (.inr (fun j => if j < 20 then some ((N0 + 15) + j) else none))))))) (h10 : F (N0 + 158) = some (.inl (cC, 20, .inl (upd (fun _ => 0) 0 97)))) (h11 : F (N0 + 151) = some (.inl (cC, 20, .inl (upd (fun _ => 0) 0 97)))) (h12 : F (N0 + 160) = some (.inl (cI, 20, .inl (fun _ => 0)))) (h13 : F (N0 + 153) = some (.inl (cI, 20, .inl (fun _ => 0)))) (h14 : F (N0 + 15) = some (.inl (cI, 20, .inl (fun _ => 0)))) (h15 : F (N0 + 230) = some (.inl (cD, 1, .inr (.inr (.inr (.inl (fun _ => 0))))))) : Met l yL_similarity wsL_similarity ({ frames := 4, cells := 0, slots := 0, locals := 101 }) (va_Pc [.ref N0, .int 2, .int 1, .ref (N0 + 230)] (fP N0 D vwCl (fty cI cC cL cD cII cTr cTm cIt cB) (fen ql) F n)) (fQi N0 D vwCl (fty cI cC cL cD cII cTr cTm cIt cB) (fun (r : Int32) (_ : Unit) => r = 0) (fun _ => (fu (fu (fu (fu (fu (fu F (N0 + 57) (.inl (cI, 20, .inl (upd (fun _ => 0) 0 1)))) (N0 + 58) (.inl (cI, 20, .inl (upd (fun _ => 0) 0 1)))) (N0 + 13) (.inr (3, [.ref (N0 + 14), .ref (N0 + 35), .ref (N0 + 57), .ref (N0 + 58), .ref (N0 + 59), .ref (N0 + 60), .int 0, .int 0, .ref (N0 + 61), .ref (N0 + 62)]))) (N0 + 36) (.inl (cI, 21, .inl (upd (fun _ => 0) 0 0)))) (N0 + 15) (.inl (cI, 20, .inl (upd (fun _ => 0) 0 0)))) (N0 + 230) (.inl (cD, 1, .inr (.inr (.inr (.inl (vf_upd (fun _ => 0) 0 4607182418800017408)))))))) (fun _ => n)) 0 0 (fA N0) := by
  refine fx_startW (hh := [(0, 9, 12, 19)]) 5 rfl rfl (Nat.le_of_ble_eq_true rfl) ?_ rfl
  intro p e s m below meth c ls S htab hr hlocks hG hl
  have hl : lv_has ls 5 [(0, .ref N0), (1, .int 2), (2, .int 1), (3, .ref (N0 + 230))] := hl
  have lt_h0 := hG.1.lt h0
  have lt_h1 := hG.1.lt h1
  have lt_h2 := hG.1.lt h2
  have lt_h3 := hG.1.lt h3
  have lt_h4 := hG.1.lt h4
  have lt_h5 := hG.1.lt h5
  have lt_h6 := hG.1.lt h6
  have lt_h7 := hG.1.lt h7
  have lt_h8 := hG.1.lt h8
  have lt_h9 := hG.1.lt h9
  have lt_h10 := hG.1.lt h10
  have lt_h11 := hG.1.lt h11
  have lt_h12 := hG.1.lt h12
  have lt_h13 := hG.1.lt h13
  have lt_h14 := hG.1.lt h14
  have lt_h15 := hG.1.lt h15
  refine lv_aload_n S.1 S.2.1 dL_similarity_0 rfl (lv_at hl 3 rfl) ?_
  refine lv_iconst (v := 0) S.1 S.2.1 dL_similarity_1 (by decide) ?_
  refine lv_aload_n S.1 S.2.1 dL_similarity_2 rfl (lv_at hl 0 rfl) ?_
  refine lv_iload_n S.1 S.2.1 dL_similarity_3 rfl (lv_at hl 1 rfl) ?_
  refine lv_iload_n S.1 S.2.1 dL_similarity_4 rfl (lv_at hl 2 rfl) ?_
  refine fx_cVd (As := [.int 2, .int 1]) (rest := [.int 0, .ref (N0 + 230)]) S hG (k1410_X7_similarity (by omega) h0 h1 h2 h3 h4 h5 h6 h7 h8 h9 h10 h11 h12 h13 h14) h0 rfl (cwV 2 S.2.2.2.2 gL_similarity_X7_similarity rfl rfl rfl (by decide +kernel) ⟨Nat.le_of_ble_eq_true rfl, Nat.le_of_ble_eq_true rfl⟩) rfl hl.1 rfl (Nat.le_of_ble_eq_true rfl) dL_similarity_5 ⟨Nat.le_of_ble_eq_true rfl, Nat.le_of_ble_eq_true rfl⟩ (fun rv_1 _ H locs hp hG => ?_)
  subst rv_1
  refine gx_dast (f' := vf_upd (fun _ => 0) 0 4607182418800017408) S hG 3 (fu_at (by omega) (fu_at (by omega) (fu_at (by omega) (fu_at (by omega) (fu_at (by omega) h15))))) rfl (fin_l (by decide)) dL_similarity_8 rfl (fun H locs hG => ?_)
  refine lv_goto (tgt := 16) S.1 S.2.1 dL_similarity_9 (by decide) ?_
  refine lv_iconst (v := 0) S.1 S.2.1 dL_similarity_16 (by decide) ?_
  exact fx_iret S hr hlocks () hG (rfl) dL_similarity_17
theorem k1412_X10_similarity {n : Nat} (hn : N0 + 231 ≤ n) (h0 : F (N0 + 164) = some (.inr (12, [.ref (N0 + 165), .int 0, .ref (N0 + 181), .int 0, .int 0, .int 0, .int (-1), .ref (ql 24), .ref (N0 + 182), .ref (N0 + 187), .ref (N0 + 208), .ref (N0 + 209), .ref (N0 + 210), .ref (N0 + 211), .ref (N0 + 212), .int 0, .ref (N0 + 213), .ref (N0 + 218), .ref (N0 + 223), .ref (N0 + 224), .ref (N0 + 225), .ref (N0 + 226), .ref (N0 + 227), .int 0, .int 0, .ref (N0 + 228), .null, .int (-1), .int 0, .int 0, .int 0]))) (h1 : F (N0 + 165) = some (.inl (cTm, 3, .inr (.inr (.inr (.inr (va_up (va_up (va_up (fun _ => none) 0 (some (N0 + 166))) 1 (some (N0 + 171))) 2 (some (N0 + 176))))))))) (h2 : F (N0 + 176) = some (.inr (11, [.ref (N0 + 177), .ref (N0 + 178), .ref (N0 + 179), .ref (N0 + 180), .int 1]))) (h3 : F (N0 + 171) = some (.inr (11, [.ref (N0 + 172), .ref (N0 + 173), .ref (N0 + 174), .ref (N0 + 175), .int 1]))) (h4 : F (N0 + 177) = some (.inl (cI, 20, .inl (upd (fun _ => 0) 0 97)))) (h5 : F (N0 + 172) = some (.inl (cI, 20, .inl (upd (fun _ => 0) 0 97)))) (h6 : F (N0 + 179) = some (.inl (cI, 20, .inl (upd (fun _ => 0) 0 0)))) (h7 : F (N0 + 174) = some (.inl (cI, 20, .inl (upd (fun _ => 0) 0 0)))) (h8 : F (N0 + 187) = some (.inl (cII, 20, .inr (.inr (.inr (.inr (fun j => if j < 20 then some ((N0 + 188) + j) else none))))))) (h9 : F (N0 + 188) = some (.inl (cI, 20, .inl (fun _ => 0)))) : Met l yX10_similarity wsX10_similarity ({ frames := 3, cells := 4, slots := 2, locals := 72 }) (va_Pc [.ref (N0 + 164), .int 2, .int 1] (fP N0 D vwCl (fty cI cC cL cD cII cTr cTm cIt cB) (fen ql) F n)) (fQd N0 D vwCl (fty cI cC cL cD cII cTr cTm cIt cB) (fun (r : UInt64) (_ : Unit) => r = 4607182418800017408) (fun _ => (fblk (fu (fu F (N0 + 164) (.inr (12, [.ref (N0 + 165), .int 0, .ref (N0 + 181), .int 0, .int 0, .int 0, .int (-1), .ref (ql 24), .ref (N0 + 182), .ref (N0 + 187), .ref (N0 + 208), .ref (N0 + 209), .ref (N0 + 210), .ref (N0 + 211), .ref (N0 + 212), .int 0, .ref (N0 + 213), .ref (N0 + 218), .ref (N0 + 223), .ref (N0 + 224), .ref (N0 + 225), .ref (N0 + 226), .ref (N0 + 227), .int 0, .int 0, .ref (N0 + 228), .null, .int (-1), .int 0, .int 0, .int 0]))) (N0 + 188) (.inl (cI, 20, .inl (upd (fun _ => 0) 0 0)))) n [.inl (cI, 0, .inl (fun _ => 0)), .inl (cI, 0, .inl (fun _ => 0)), .inl (cII, 1, .inr (.inr (.inr (.inr (fun j => if j < 1 then some ((n + 3) + j) else none))))), .inl (cI, 1, .inl (fun _ => 0))])) (fun _ => (n + 4))) 4 2 (fA N0) := by
  refine fx_start 3 rfl rfl (Nat.le_of_ble_eq_true rfl) ?_ rfl
  intro p e s m below meth c ls S hr hlocks hin hG hl
  have hl : lv_has ls 3 [(0, .ref (N0 + 164)), (1, .int 2), (2, .int 1)] := hl
  have lt_h0 := hG.1.lt h0
  have lt_h1 := hG.1.lt h1
  have lt_h2 := hG.1.lt h2
  have lt_h3 := hG.1.lt h3
  have lt_h4 := hG.1.lt h4
  have lt_h5 := hG.1.lt h5
  have lt_h6 := hG.1.lt h6
  have lt_h7 := hG.1.lt h7
  have lt_h8 := hG.1.lt h8
  have lt_h9 := hG.1.lt h9
  refine lv_aload_n S.1 S.2.1 dX10_similarity_0 rfl (lv_at hl 0 rfl) ?_
  refine lv_iload_n S.1 S.2.1 dX10_similarity_1 rfl (lv_at hl 1 rfl) ?_
  refine lv_iload_n S.1 S.2.1 dX10_similarity_2 rfl (lv_at hl 2 rfl) ?_
  refine fx_cVi (As := [.int 2, .int 1]) (rest := []) S hG (k524_X10_areNone (by omega) h0) h0 rfl (cwV 2 S.2.2.2.2 gX10_similarity_X10_areNone rfl rfl rfl (by decide +kernel) ⟨Nat.le_of_ble_eq_true rfl, Nat.le_of_ble_eq_true rfl⟩) rfl hl.1 rfl (Nat.le_of_ble_eq_true rfl) dX10_similarity_3 ⟨Nat.le_of_ble_eq_true rfl, Nat.le_of_ble_eq_true rfl⟩ (fun rv_1 _ H locs hp hG => ?_)
  subst rv_1
  refine lv_if_eq (tgt := 11) S.1 S.2.1 dX10_similarity_6 (by decide) (fun _ => ?_) (fun c => absurd (by decide) c)
  refine gx_dconst1 (v := 4607182418800017408) S (by decide +kernel) dX10_similarity_11 ?_
  refine lv_aload_n S.1 S.2.1 dX10_similarity_12 rfl (lv_at hl 0 rfl) ?_
  refine lv_aload_n S.1 S.2.1 dX10_similarity_13 rfl (lv_at hl 0 rfl) ?_
  refine gx_get (C := RX10) (T := TX10) (N := 31) S hG fu_s i_X10_similarity_X10 rfl 0 (by decide) (by decide +kernel) rfl dX10_similarity_14 ?_
  refine lv_iload_n S.1 S.2.1 dX10_similarity_17 rfl (lv_at hl 1 rfl) ?_
  refine gx_aldq (x := (N0 + 176)) S hG 6 rfl (fu_at (by omega) h1) rfl (fin_l (by decide)) (rfl) dX10_similarity_18 ?_
  refine lv_aload_n S.1 S.2.1 dX10_similarity_19 rfl (lv_at hl 0 rfl) ?_
  refine gx_get (C := RX10) (T := TX10) (N := 31) S hG fu_s i_X10_similarity_X10 rfl 0 (by decide) (by decide +kernel) rfl dX10_similarity_20 ?_
  refine lv_iload_n S.1 S.2.1 dX10_similarity_23 rfl (lv_at hl 2 rfl) ?_
  refine gx_aldq (x := (N0 + 171)) S hG 6 rfl (fu_at (by omega) h1) rfl (fin_l (by decide)) (rfl) dX10_similarity_24 ?_
  refine fx_cVi (As := [.ref (N0 + 176), .ref (N0 + 171)]) (rest := [.double 4607182418800017408]) S hG (k1276_X10_fills (by omega) (fu_at (by omega) h2) (fu_at (by omega) h3) (fu_at (by omega) h4) (fu_at (by omega) h5) (fu_at (by omega) h6) (fu_at (by omega) h7) fu_s (fu_at (by omega) h8) (fu_at (by omega) h9)) fu_s rfl (cwV 2 S.2.2.2.2 gX10_similarity_X10_fills rfl rfl rfl (by decide +kernel) ⟨Nat.le_of_ble_eq_true rfl, Nat.le_of_ble_eq_true rfl⟩) rfl hl.1 rfl (Nat.le_of_ble_eq_true rfl) dX10_similarity_25 ⟨Nat.le_of_ble_eq_true rfl, Nat.le_of_ble_eq_true rfl⟩ (fun rv_2 _ H locs hp hG => ?_)
  subst rv_2
  refine W.widen (k := 4) (n := 2) (by decide) (by decide) ?_
  refine gx_i2d (v := 0) S (by decide +kernel) dX10_similarity_28 ?_
  refine lv_iconst (v := 2) S.1 S.2.1 dX10_similarity_29 (by decide) ?_
  refine lv_aload_n S.1 S.2.1 dX10_similarity_30 rfl (lv_at hl 0 rfl) ?_
  refine gx_get (C := RX10) (T := TX10) (N := 31) S hG (fblk_sk 4 rfl (by omega) (fu_at (by omega) fu_s)) i_X10_similarity_X10 rfl 0 (by decide) (by decide +kernel) rfl dX10_similarity_31 ?_
  refine lv_iload_n S.1 S.2.1 dX10_similarity_34 rfl (lv_at hl 1 rfl) ?_
  refine gx_aldq (x := (N0 + 176)) S hG 6 rfl (fblk_sk 4 rfl (by omega) (fu_at (by omega) (fu_at (by omega) h1))) rfl (fin_l (by decide)) (rfl) dX10_similarity_35 ?_
  refine gx_getN (C := RX9) (T := TX9) (N := 5) S hG (fblk_sk 4 rfl (by omega) (fu_at (by omega) (fu_at (by omega) h2))) i_X10_similarity_X9 rfl 4 (by decide) (List.mem_of_getElem? (i := 4) rfl) rfl dX10_similarity_36 ?_
  refine lv_aload_n S.1 S.2.1 dX10_similarity_39 rfl (lv_at hl 0 rfl) ?_
  refine gx_get (C := RX10) (T := TX10) (N := 31) S hG (fblk_sk 4 rfl (by omega) (fu_at (by omega) fu_s)) i_X10_similarity_X10 rfl 0 (by decide) (by decide +kernel) rfl dX10_similarity_40 ?_
  refine lv_iload_n S.1 S.2.1 dX10_similarity_43 rfl (lv_at hl 2 rfl) ?_
  refine gx_aldq (x := (N0 + 171)) S hG 6 rfl (fblk_sk 4 rfl (by omega) (fu_at (by omega) (fu_at (by omega) h1))) rfl (fin_l (by decide)) (rfl) dX10_similarity_44 ?_
  refine gx_getN (C := RX9) (T := TX9) (N := 5) S hG (fblk_sk 4 rfl (by omega) (fu_at (by omega) (fu_at (by omega) h3))) i_X10_similarity_X9 rfl 4 (by decide) (List.mem_of_getElem? (i := 4) rfl) rfl dX10_similarity_45 ?_
  refine lv_iadd S.1 S.2.1 dX10_similarity_48 ?_
  refine fx_topi (y := 2) (by decide) ?_
  refine lv_imul S.1 S.2.1 dX10_similarity_49 ?_
  refine fx_topi (y := 4) (by decide) ?_
  refine gx_i2d (v := 4616189618054758400) S (by decide +kernel) dX10_similarity_50 ?_
  refine gx_ddiv (v := 0) S (by decide +kernel) (by unfold vf_n64; decide +kernel) dX10_similarity_51 ?_
  refine gx_dsub (v := 4607182418800017408) S (by decide +kernel) (by unfold vf_n64; decide +kernel) dX10_similarity_52 ?_
  have hG : fG N0 D vwCl (fty cI cC cL cD cII cTr cTm cIt cB) (fen ql) s (fblk (fu (fu F (N0 + 164) (.inr (12, [.ref (N0 + 165), .int 0, .ref (N0 + 181), .int 0, .int 0, .int 0, .int (-1), .ref (ql 24), .ref (N0 + 182), .ref (N0 + 187), .ref (N0 + 208), .ref (N0 + 209), .ref (N0 + 210), .ref (N0 + 211), .ref (N0 + 212), .int 0, .ref (N0 + 213), .ref (N0 + 218), .ref (N0 + 223), .ref (N0 + 224), .ref (N0 + 225), .ref (N0 + 226), .ref (N0 + 227), .int 0, .int 0, .ref (N0 + 228), .null, .int (-1), .int 0, .int 0, .int 0]))) (N0 + 188) (.inl (cI, 20, .inl (upd (fun _ => 0) 0 0)))) n [.inl (cI, 0, .inl (fun _ => 0)), .inl (cI, 0, .inl (fun _ => 0)), .inl (cII, 1, .inr (.inr (.inr (.inr (fun j => if j < 1 then some ((n + 3) + j) else none))))), .inl (cI, 1, .inl (fun _ => 0))]) (n + 4) H locs := hG.weak (fun a e h => by
    rcases fblk_cases 4 rfl h with ⟨k, rfl, hlt, hk⟩ | ⟨hout, h⟩
    · rcases (show k = 0 ∨ k = 1 ∨ k = 2 ∨ k = 3 by omega) with rfl | rfl | rfl | rfl
      · cases (show some (.inl (cI, 0, .inl (fun _ => 0))) = some e from hk); exact (fblk_at 0 (by omega) rfl)
      · cases (show some (.inl (cI, 0, .inl (fun _ => 0))) = some e from hk); exact (fblk_at 1 (by omega) rfl)
      · cases (show some (.inl (cII, 1, .inr (.inr (.inr (.inr (fun j => if j < 1 then some ((n + 3) + j) else none)))))) = some e from hk); exact (fblk_at 2 (by omega) rfl)
      · cases (show some (.inl (cI, 1, .inl (fun _ => 0))) = some e from hk); exact (fblk_at 3 (by omega) rfl)
    · rcases fu_cases h with ⟨rfl, he⟩ | ⟨hne0, h⟩
      · cases he; exact (fblk_sk 4 rfl (by omega) fu_s)
      · skip
        rcases fu_cases h with ⟨rfl, he⟩ | ⟨hne1, h⟩
        · cases he; exact (fblk_sk 4 rfl (by omega) (fu_at (by omega) fu_s))
        · exact (fblk_sk 4 rfl (by omega) (fu_at (by omega) (fu_at (by omega) h))))
  exact fx_dret S hr hlocks () hG (rfl) dX10_similarity_53
theorem k1413_X7_similarity {n : Nat} (hn : N0 + 231 ≤ n) (h0 : F N0 = some (.inr (9, [.ref (N0 + 1), .ref (N0 + 2), .ref (N0 + 11), .ref (N0 + 13), .ref (N0 + 63), .ref (N0 + 65), .ref (N0 + 85), .int (-1), .int (-1), .int 32]))) (h1 : F (N0 + 1) = some (.inl (cTr, 3, .inr (.inr (.inr (.inr (va_up (va_up (va_up (fun _ => none) 0 (some (N0 + 143))) 1 (some (N0 + 150))) 2 (some (N0 + 157))))))))) (h2 : F (N0 + 13) = some (.inr (3, [.ref (N0 + 14), .ref (N0 + 35), .ref (N0 + 57), .ref (N0 + 58), .ref (N0 + 59), .ref (N0 + 60), .int 0, .int 0, .ref (N0 + 61), .ref (N0 + 62)]))) (h3 : F (N0 + 157) = some (.inr (7, [.ref (N0 + 158), .ref (N0 + 159), .ref (N0 + 160), .ref (N0 + 161), .ref (N0 + 162), .ref (N0 + 163), .int 1]))) (h4 : F (N0 + 57) = some (.inl (cI, 20, .inl (fun _ => 0)))) (h5 : F (N0 + 58) = some (.inl (cI, 20, .inl (fun _ => 0)))) (h6 : F (N0 + 35) = some (.inl (cII, 21, .inr (.inr (.inr (.inr (fun j => if j < 21 then some ((N0 + 36) + j) else none))))))) (h7 : F (N0 + 36) = some (.inl (cI, 21, .inl (fun _ => 0)))) (h8 : F (N0 + 14) = some (.inl (cII, 20, .inr (.inr (.inr (.inr (fun j => if j < 20 then some ((N0 + 15) + j) else none))))))) (h9 : F (N0 + 158) = some (.inl (cC, 20, .inl (upd (fun _ => 0) 0 97)))) (h10 : F (N0 + 160) = some (.inl (cI, 20, .inl (fun _ => 0)))) (h11 : F (N0 + 15) = some (.inl (cI, 20, .inl (fun _ => 0)))) : Met l yX7_similarity wsX7_similarity ({ frames := 3, cells := 0, slots := 0, locals := 73 }) (va_Pc [.ref N0, .int 2, .int 2] (fP N0 D vwCl (fty cI cC cL cD cII cTr cTm cIt cB) (fen ql) F n)) (fQd N0 D vwCl (fty cI cC cL cD cII cTr cTm cIt cB) (fun (r : UInt64) (_ : Unit) => r = 4607182418800017408) (fun _ => (fu (fu (fu (fu (fu F (N0 + 57) (.inl (cI, 20, .inl (upd (fun _ => 0) 0 1)))) (N0 + 58) (.inl (cI, 20, .inl (upd (fun _ => 0) 0 1)))) (N0 + 13) (.inr (3, [.ref (N0 + 14), .ref (N0 + 35), .ref (N0 + 57), .ref (N0 + 58), .ref (N0 + 59), .ref (N0 + 60), .int 0, .int 0, .ref (N0 + 61), .ref (N0 + 62)]))) (N0 + 36) (.inl (cI, 21, .inl (upd (fun _ => 0) 0 0)))) (N0 + 15) (.inl (cI, 20, .inl (upd (fun _ => 0) 0 0))))) (fun _ => n)) 0 0 (fA N0) := by
  refine fx_start 9 rfl rfl (Nat.le_of_ble_eq_true rfl) ?_ rfl
  intro p e s m below meth c ls S hr hlocks hin hG hl
  have hl : lv_has ls 9 [(0, .ref N0), (1, .int 2), (2, .int 2)] := hl
  have lt_h0 := hG.1.lt h0
  have lt_h1 := hG.1.lt h1
  have lt_h2 := hG.1.lt h2
  have lt_h3 := hG.1.lt h3
  have lt_h4 := hG.1.lt h4
  have lt_h5 := hG.1.lt h5
  have lt_h6 := hG.1.lt h6
  have lt_h7 := hG.1.lt h7
  have lt_h8 := hG.1.lt h8
  have lt_h9 := hG.1.lt h9
  have lt_h10 := hG.1.lt h10
  have lt_h11 := hG.1.lt h11
  refine lv_aload_n S.1 S.2.1 dX7_similarity_0 rfl (lv_at hl 0 rfl) ?_
  refine lv_iload_n S.1 S.2.1 dX7_similarity_1 rfl (lv_at hl 1 rfl) ?_
  refine fx_cVr (As := [.int 2]) (rest := []) S hG (k48_X7_treeAt (by omega) h0 h1) h0 rfl (cwV 1 S.2.2.2.2 gX7_similarity_X7_treeAt rfl rfl rfl (by decide +kernel) ⟨Nat.le_of_ble_eq_true rfl, Nat.le_of_ble_eq_true rfl⟩) rfl hl.1 rfl (Nat.le_of_ble_eq_true rfl) dX7_similarity_2 ⟨Nat.le_of_ble_eq_true rfl, Nat.le_of_ble_eq_true rfl⟩ (fun rv_1 _ H locs hp hG => ?_)
  subst rv_1
  refine lv_astore_n (lv' := [(3, .ref (N0 + 157)), (0, .ref N0), (1, .int 2), (2, .int 2)]) S.1 S.2.1 dX7_similarity_5 rfl hl (by decide) rfl (fun ls hl => ?_)
  refine lv_aload_n S.1 S.2.1 dX7_similarity_6 rfl (lv_at hl 1 rfl) ?_
  refine lv_iload_n S.1 S.2.1 dX7_similarity_7 rfl (lv_at hl 3 rfl) ?_
  refine fx_cVr (As := [.int 2]) (rest := []) S hG (k48_X7_treeAt (by omega) h0 h1) h0 rfl (cwV 1 S.2.2.2.2 gX7_similarity_X7_treeAt rfl rfl rfl (by decide +kernel) ⟨Nat.le_of_ble_eq_true rfl, Nat.le_of_ble_eq_true rfl⟩) rfl hl.1 rfl (Nat.le_of_ble_eq_true rfl) dX7_similarity_8 ⟨Nat.le_of_ble_eq_true rfl, Nat.le_of_ble_eq_true rfl⟩ (fun rv_2 _ H locs hp hG => ?_)
  subst rv_2
  refine lv_astore (lv' := [(4, .ref (N0 + 157)), (3, .ref (N0 + 157)), (0, .ref N0), (1, .int 2), (2, .int 2)]) S.1 S.2.1 dX7_similarity_11 hl (by decide) rfl (fun ls hl => ?_)
  refine lv_aload_n S.1 S.2.1 dX7_similarity_13 rfl (lv_at hl 2 rfl) ?_
  refine gx_get (C := RX7) (T := TX7) (N := 10) S hG h0 i_X7_similarity_X7 rfl 3 (by decide) (by decide +kernel) rfl dX7_similarity_14 ?_
  refine lv_aload_n S.1 S.2.1 dX7_similarity_17 rfl (lv_at hl 1 rfl) ?_
  refine lv_aload S.1 S.2.1 dX7_similarity_18 (lv_at hl 0 rfl) ?_
  refine fx_cVi (As := [.ref (N0 + 157), .ref (N0 + 157)]) (rest := []) S hG (k1281_X1_leastCost (by omega) h2 h3 h4 h5 h6 h7 h8 h9 h10 h11) h2 rfl (cwV 2 S.2.2.2.2 gX7_similarity_X1_leastCost rfl rfl rfl (by decide +kernel) ⟨Nat.le_of_ble_eq_true rfl, Nat.le_of_ble_eq_true rfl⟩) rfl hl.1 rfl (Nat.le_of_ble_eq_true rfl) dX7_similarity_20 ⟨Nat.le_of_ble_eq_true rfl, Nat.le_of_ble_eq_true rfl⟩ (fun rv_3 _ H locs hp hG => ?_)
  subst rv_3
  refine gx_i2d (v := 0) S (by decide +kernel) dX7_similarity_23 ?_
  refine lv_dstore (lv' := [(5, .double 0), (4, .ref (N0 + 157)), (3, .ref (N0 + 157)), (0, .ref N0), (1, .int 2), (2, .int 2)]) S.1 S.2.1 dX7_similarity_24 hl (by decide) rfl (fun ls hl => ?_)
  refine lv_iconst (v := 2) S.1 S.2.1 dX7_similarity_26 (by decide) ?_
  refine lv_aload_n S.1 S.2.1 dX7_similarity_27 rfl (lv_at hl 2 rfl) ?_
  refine gx_get (C := RX5) (T := TX5) (N := 7) S hG (fu_at (by omega) (fu_at (by omega) (fu_at (by omega) (fu_at (by omega) (fu_at (by omega) h3))))) i_X7_similarity_X5 rfl 6 (by decide) (by decide +kernel) rfl dX7_similarity_28 ?_
  refine lv_aload S.1 S.2.1 dX7_similarity_31 (lv_at hl 1 rfl) ?_
  refine gx_get (C := RX5) (T := TX5) (N := 7) S hG (fu_at (by omega) (fu_at (by omega) (fu_at (by omega) (fu_at (by omega) (fu_at (by omega) h3))))) i_X7_similarity_X5 rfl 6 (by decide) (by decide +kernel) rfl dX7_similarity_33 ?_
  refine lv_iadd S.1 S.2.1 dX7_similarity_36 ?_
  refine fx_topi (y := 2) (by decide) ?_
  refine lv_imul S.1 S.2.1 dX7_similarity_37 ?_
  refine fx_topi (y := 4) (by decide) ?_
  refine gx_i2d (v := 4616189618054758400) S (by decide +kernel) dX7_similarity_38 ?_
  refine lv_dstore (lv' := [(7, .double 4616189618054758400), (5, .double 0), (4, .ref (N0 + 157)), (3, .ref (N0 + 157)), (0, .ref N0), (1, .int 2), (2, .int 2)]) S.1 S.2.1 dX7_similarity_39 hl (by decide) rfl (fun ls hl => ?_)
  refine lv_dload S.1 S.2.1 dX7_similarity_41 (lv_at hl 0 rfl) ?_
  refine gx_dconst0 (v := 0) S (by decide +kernel) dX7_similarity_43 ?_
  refine gx_dcmp (v := 1) S (by decide +kernel) dX7_similarity_44 ?_
  refine lv_if_le (tgt := 58) S.1 S.2.1 dX7_similarity_45 (by decide) (fun c => absurd c (by decide)) (fun _ => ?_)
  refine gx_dconst1 (v := 4607182418800017408) S (by decide +kernel) dX7_similarity_48 ?_
  refine lv_dload S.1 S.2.1 dX7_similarity_49 (lv_at hl 1 rfl) ?_
  refine lv_dload S.1 S.2.1 dX7_similarity_51 (lv_at hl 0 rfl) ?_
  refine gx_ddiv (v := 0) S (by decide +kernel) (by unfold vf_n64; decide +kernel) dX7_similarity_53 ?_
  refine gx_dsub (v := 4607182418800017408) S (by decide +kernel) (by unfold vf_n64; decide +kernel) dX7_similarity_54 ?_
  refine lv_goto (tgt := 59) S.1 S.2.1 dX7_similarity_55 (by decide) ?_
  exact fx_dret S hr hlocks () hG (rfl) dX7_similarity_59
theorem k1414_L_similarity {n : Nat} (hn : N0 + 231 ≤ n) (h0 : F N0 = some (.inr (9, [.ref (N0 + 1), .ref (N0 + 2), .ref (N0 + 11), .ref (N0 + 13), .ref (N0 + 63), .ref (N0 + 65), .ref (N0 + 85), .int (-1), .int (-1), .int 32]))) (h1 : F (N0 + 1) = some (.inl (cTr, 3, .inr (.inr (.inr (.inr (va_up (va_up (va_up (fun _ => none) 0 (some (N0 + 143))) 1 (some (N0 + 150))) 2 (some (N0 + 157))))))))) (h2 : F (N0 + 13) = some (.inr (3, [.ref (N0 + 14), .ref (N0 + 35), .ref (N0 + 57), .ref (N0 + 58), .ref (N0 + 59), .ref (N0 + 60), .int 0, .int 0, .ref (N0 + 61), .ref (N0 + 62)]))) (h3 : F (N0 + 157) = some (.inr (7, [.ref (N0 + 158), .ref (N0 + 159), .ref (N0 + 160), .ref (N0 + 161), .ref (N0 + 162), .ref (N0 + 163), .int 1]))) (h4 : F (N0 + 57) = some (.inl (cI, 20, .inl (fun _ => 0)))) (h5 : F (N0 + 58) = some (.inl (cI, 20, .inl (fun _ => 0)))) (h6 : F (N0 + 35) = some (.inl (cII, 21, .inr (.inr (.inr (.inr (fun j => if j < 21 then some ((N0 + 36) + j) else none))))))) (h7 : F (N0 + 36) = some (.inl (cI, 21, .inl (fun _ => 0)))) (h8 : F (N0 + 14) = some (.inl (cII, 20, .inr (.inr (.inr (.inr (fun j => if j < 20 then some ((N0 + 15) + j) else none))))))) (h9 : F (N0 + 158) = some (.inl (cC, 20, .inl (upd (fun _ => 0) 0 97)))) (h10 : F (N0 + 160) = some (.inl (cI, 20, .inl (fun _ => 0)))) (h11 : F (N0 + 15) = some (.inl (cI, 20, .inl (fun _ => 0)))) (h12 : F (N0 + 230) = some (.inl (cD, 1, .inr (.inr (.inr (.inl (fun _ => 0))))))) : Met l yL_similarity wsL_similarity ({ frames := 4, cells := 0, slots := 0, locals := 101 }) (va_Pc [.ref N0, .int 2, .int 2, .ref (N0 + 230)] (fP N0 D vwCl (fty cI cC cL cD cII cTr cTm cIt cB) (fen ql) F n)) (fQi N0 D vwCl (fty cI cC cL cD cII cTr cTm cIt cB) (fun (r : Int32) (_ : Unit) => r = 0) (fun _ => (fu (fu (fu (fu (fu (fu F (N0 + 57) (.inl (cI, 20, .inl (upd (fun _ => 0) 0 1)))) (N0 + 58) (.inl (cI, 20, .inl (upd (fun _ => 0) 0 1)))) (N0 + 13) (.inr (3, [.ref (N0 + 14), .ref (N0 + 35), .ref (N0 + 57), .ref (N0 + 58), .ref (N0 + 59), .ref (N0 + 60), .int 0, .int 0, .ref (N0 + 61), .ref (N0 + 62)]))) (N0 + 36) (.inl (cI, 21, .inl (upd (fun _ => 0) 0 0)))) (N0 + 15) (.inl (cI, 20, .inl (upd (fun _ => 0) 0 0)))) (N0 + 230) (.inl (cD, 1, .inr (.inr (.inr (.inl (vf_upd (fun _ => 0) 0 4607182418800017408)))))))) (fun _ => n)) 0 0 (fA N0) := by
  refine fx_startW (hh := [(0, 9, 12, 19)]) 5 rfl rfl (Nat.le_of_ble_eq_true rfl) ?_ rfl
  intro p e s m below meth c ls S htab hr hlocks hG hl
  have hl : lv_has ls 5 [(0, .ref N0), (1, .int 2), (2, .int 2), (3, .ref (N0 + 230))] := hl
  have lt_h0 := hG.1.lt h0
  have lt_h1 := hG.1.lt h1
  have lt_h2 := hG.1.lt h2
  have lt_h3 := hG.1.lt h3
  have lt_h4 := hG.1.lt h4
  have lt_h5 := hG.1.lt h5
  have lt_h6 := hG.1.lt h6
  have lt_h7 := hG.1.lt h7
  have lt_h8 := hG.1.lt h8
  have lt_h9 := hG.1.lt h9
  have lt_h10 := hG.1.lt h10
  have lt_h11 := hG.1.lt h11
  have lt_h12 := hG.1.lt h12
  refine lv_aload_n S.1 S.2.1 dL_similarity_0 rfl (lv_at hl 3 rfl) ?_
  refine lv_iconst (v := 0) S.1 S.2.1 dL_similarity_1 (by decide) ?_
  refine lv_aload_n S.1 S.2.1 dL_similarity_2 rfl (lv_at hl 0 rfl) ?_
  refine lv_iload_n S.1 S.2.1 dL_similarity_3 rfl (lv_at hl 1 rfl) ?_
  refine lv_iload_n S.1 S.2.1 dL_similarity_4 rfl (lv_at hl 2 rfl) ?_
  refine fx_cVd (As := [.int 2, .int 2]) (rest := [.int 0, .ref (N0 + 230)]) S hG (k1413_X7_similarity (by omega) h0 h1 h2 h3 h4 h5 h6 h7 h8 h9 h10 h11) h0 rfl (cwV 2 S.2.2.2.2 gL_similarity_X7_similarity rfl rfl rfl (by decide +kernel) ⟨Nat.le_of_ble_eq_true rfl, Nat.le_of_ble_eq_true rfl⟩) rfl hl.1 rfl (Nat.le_of_ble_eq_true rfl) dL_similarity_5 ⟨Nat.le_of_ble_eq_true rfl, Nat.le_of_ble_eq_true rfl⟩ (fun rv_1 _ H locs hp hG => ?_)
  subst rv_1
  refine gx_dast (f' := vf_upd (fun _ => 0) 0 4607182418800017408) S hG 3 (fu_at (by omega) (fu_at (by omega) (fu_at (by omega) (fu_at (by omega) (fu_at (by omega) h12))))) rfl (fin_l (by decide)) dL_similarity_8 rfl (fun H locs hG => ?_)
  refine lv_goto (tgt := 16) S.1 S.2.1 dL_similarity_9 (by decide) ?_
  refine lv_iconst (v := 0) S.1 S.2.1 dL_similarity_16 (by decide) ?_
  exact fx_iret S hr hlocks () hG (rfl) dL_similarity_17
theorem k1415_X10_similarity {n : Nat} (hn : N0 + 231 ≤ n) (h0 : F (N0 + 164) = some (.inr (12, [.ref (N0 + 165), .int 0, .ref (N0 + 181), .int 0, .int 0, .int 0, .int (-1), .ref (ql 24), .ref (N0 + 182), .ref (N0 + 187), .ref (N0 + 208), .ref (N0 + 209), .ref (N0 + 210), .ref (N0 + 211), .ref (N0 + 212), .int 0, .ref (N0 + 213), .ref (N0 + 218), .ref (N0 + 223), .ref (N0 + 224), .ref (N0 + 225), .ref (N0 + 226), .ref (N0 + 227), .int 0, .int 0, .ref (N0 + 228), .null, .int (-1), .int 0, .int 0, .int 0]))) (h1 : F (N0 + 165) = some (.inl (cTm, 3, .inr (.inr (.inr (.inr (va_up (va_up (va_up (fun _ => none) 0 (some (N0 + 166))) 1 (some (N0 + 171))) 2 (some (N0 + 176))))))))) (h2 : F (N0 + 176) = some (.inr (11, [.ref (N0 + 177), .ref (N0 + 178), .ref (N0 + 179), .ref (N0 + 180), .int 1]))) (h3 : F (N0 + 177) = some (.inl (cI, 20, .inl (upd (fun _ => 0) 0 97)))) (h4 : F (N0 + 179) = some (.inl (cI, 20, .inl (upd (fun _ => 0) 0 0)))) (h5 : F (N0 + 187) = some (.inl (cII, 20, .inr (.inr (.inr (.inr (fun j => if j < 20 then some ((N0 + 188) + j) else none))))))) (h6 : F (N0 + 188) = some (.inl (cI, 20, .inl (fun _ => 0)))) : Met l yX10_similarity wsX10_similarity ({ frames := 3, cells := 4, slots := 2, locals := 72 }) (va_Pc [.ref (N0 + 164), .int 2, .int 2] (fP N0 D vwCl (fty cI cC cL cD cII cTr cTm cIt cB) (fen ql) F n)) (fQd N0 D vwCl (fty cI cC cL cD cII cTr cTm cIt cB) (fun (r : UInt64) (_ : Unit) => r = 4607182418800017408) (fun _ => (fblk (fu (fu F (N0 + 164) (.inr (12, [.ref (N0 + 165), .int 0, .ref (N0 + 181), .int 0, .int 0, .int 0, .int (-1), .ref (ql 24), .ref (N0 + 182), .ref (N0 + 187), .ref (N0 + 208), .ref (N0 + 209), .ref (N0 + 210), .ref (N0 + 211), .ref (N0 + 212), .int 0, .ref (N0 + 213), .ref (N0 + 218), .ref (N0 + 223), .ref (N0 + 224), .ref (N0 + 225), .ref (N0 + 226), .ref (N0 + 227), .int 0, .int 0, .ref (N0 + 228), .null, .int (-1), .int 0, .int 0, .int 0]))) (N0 + 188) (.inl (cI, 20, .inl (upd (fun _ => 0) 0 0)))) n [.inl (cI, 0, .inl (fun _ => 0)), .inl (cI, 0, .inl (fun _ => 0)), .inl (cII, 1, .inr (.inr (.inr (.inr (fun j => if j < 1 then some ((n + 3) + j) else none))))), .inl (cI, 1, .inl (fun _ => 0))])) (fun _ => (n + 4))) 4 2 (fA N0) := by
  refine fx_start 3 rfl rfl (Nat.le_of_ble_eq_true rfl) ?_ rfl
  intro p e s m below meth c ls S hr hlocks hin hG hl
  have hl : lv_has ls 3 [(0, .ref (N0 + 164)), (1, .int 2), (2, .int 2)] := hl
  have lt_h0 := hG.1.lt h0
  have lt_h1 := hG.1.lt h1
  have lt_h2 := hG.1.lt h2
  have lt_h3 := hG.1.lt h3
  have lt_h4 := hG.1.lt h4
  have lt_h5 := hG.1.lt h5
  have lt_h6 := hG.1.lt h6
  refine lv_aload_n S.1 S.2.1 dX10_similarity_0 rfl (lv_at hl 0 rfl) ?_
  refine lv_iload_n S.1 S.2.1 dX10_similarity_1 rfl (lv_at hl 1 rfl) ?_
  refine lv_iload_n S.1 S.2.1 dX10_similarity_2 rfl (lv_at hl 2 rfl) ?_
  refine fx_cVi (As := [.int 2, .int 2]) (rest := []) S hG (k530_X10_areNone (by omega) h0) h0 rfl (cwV 2 S.2.2.2.2 gX10_similarity_X10_areNone rfl rfl rfl (by decide +kernel) ⟨Nat.le_of_ble_eq_true rfl, Nat.le_of_ble_eq_true rfl⟩) rfl hl.1 rfl (Nat.le_of_ble_eq_true rfl) dX10_similarity_3 ⟨Nat.le_of_ble_eq_true rfl, Nat.le_of_ble_eq_true rfl⟩ (fun rv_1 _ H locs hp hG => ?_)
  subst rv_1
  refine lv_if_eq (tgt := 11) S.1 S.2.1 dX10_similarity_6 (by decide) (fun _ => ?_) (fun c => absurd (by decide) c)
  refine gx_dconst1 (v := 4607182418800017408) S (by decide +kernel) dX10_similarity_11 ?_
  refine lv_aload_n S.1 S.2.1 dX10_similarity_12 rfl (lv_at hl 0 rfl) ?_
  refine lv_aload_n S.1 S.2.1 dX10_similarity_13 rfl (lv_at hl 0 rfl) ?_
  refine gx_get (C := RX10) (T := TX10) (N := 31) S hG fu_s i_X10_similarity_X10 rfl 0 (by decide) (by decide +kernel) rfl dX10_similarity_14 ?_
  refine lv_iload_n S.1 S.2.1 dX10_similarity_17 rfl (lv_at hl 1 rfl) ?_
  refine gx_aldq (x := (N0 + 176)) S hG 6 rfl (fu_at (by omega) h1) rfl (fin_l (by decide)) (rfl) dX10_similarity_18 ?_
  refine lv_aload_n S.1 S.2.1 dX10_similarity_19 rfl (lv_at hl 0 rfl) ?_
  refine gx_get (C := RX10) (T := TX10) (N := 31) S hG fu_s i_X10_similarity_X10 rfl 0 (by decide) (by decide +kernel) rfl dX10_similarity_20 ?_
  refine lv_iload_n S.1 S.2.1 dX10_similarity_23 rfl (lv_at hl 2 rfl) ?_
  refine gx_aldq (x := (N0 + 176)) S hG 6 rfl (fu_at (by omega) h1) rfl (fin_l (by decide)) (rfl) dX10_similarity_24 ?_
  refine fx_cVi (As := [.ref (N0 + 176), .ref (N0 + 176)]) (rest := [.double 4607182418800017408]) S hG (k1285_X10_fills (by omega) (fu_at (by omega) h2) (fu_at (by omega) h3) (fu_at (by omega) h4) fu_s (fu_at (by omega) h5) (fu_at (by omega) h6)) fu_s rfl (cwV 2 S.2.2.2.2 gX10_similarity_X10_fills rfl rfl rfl (by decide +kernel) ⟨Nat.le_of_ble_eq_true rfl, Nat.le_of_ble_eq_true rfl⟩) rfl hl.1 rfl (Nat.le_of_ble_eq_true rfl) dX10_similarity_25 ⟨Nat.le_of_ble_eq_true rfl, Nat.le_of_ble_eq_true rfl⟩ (fun rv_2 _ H locs hp hG => ?_)
  subst rv_2
  refine W.widen (k := 4) (n := 2) (by decide) (by decide) ?_
  refine gx_i2d (v := 0) S (by decide +kernel) dX10_similarity_28 ?_
  refine lv_iconst (v := 2) S.1 S.2.1 dX10_similarity_29 (by decide) ?_
  refine lv_aload_n S.1 S.2.1 dX10_similarity_30 rfl (lv_at hl 0 rfl) ?_
  refine gx_get (C := RX10) (T := TX10) (N := 31) S hG (fblk_sk 4 rfl (by omega) (fu_at (by omega) fu_s)) i_X10_similarity_X10 rfl 0 (by decide) (by decide +kernel) rfl dX10_similarity_31 ?_
  refine lv_iload_n S.1 S.2.1 dX10_similarity_34 rfl (lv_at hl 1 rfl) ?_
  refine gx_aldq (x := (N0 + 176)) S hG 6 rfl (fblk_sk 4 rfl (by omega) (fu_at (by omega) (fu_at (by omega) h1))) rfl (fin_l (by decide)) (rfl) dX10_similarity_35 ?_
  refine gx_getN (C := RX9) (T := TX9) (N := 5) S hG (fblk_sk 4 rfl (by omega) (fu_at (by omega) (fu_at (by omega) h2))) i_X10_similarity_X9 rfl 4 (by decide) (List.mem_of_getElem? (i := 4) rfl) rfl dX10_similarity_36 ?_
  refine lv_aload_n S.1 S.2.1 dX10_similarity_39 rfl (lv_at hl 0 rfl) ?_
  refine gx_get (C := RX10) (T := TX10) (N := 31) S hG (fblk_sk 4 rfl (by omega) (fu_at (by omega) fu_s)) i_X10_similarity_X10 rfl 0 (by decide) (by decide +kernel) rfl dX10_similarity_40 ?_
  refine lv_iload_n S.1 S.2.1 dX10_similarity_43 rfl (lv_at hl 2 rfl) ?_
  refine gx_aldq (x := (N0 + 176)) S hG 6 rfl (fblk_sk 4 rfl (by omega) (fu_at (by omega) (fu_at (by omega) h1))) rfl (fin_l (by decide)) (rfl) dX10_similarity_44 ?_
  refine gx_getN (C := RX9) (T := TX9) (N := 5) S hG (fblk_sk 4 rfl (by omega) (fu_at (by omega) (fu_at (by omega) h2))) i_X10_similarity_X9 rfl 4 (by decide) (List.mem_of_getElem? (i := 4) rfl) rfl dX10_similarity_45 ?_
  refine lv_iadd S.1 S.2.1 dX10_similarity_48 ?_
  refine fx_topi (y := 2) (by decide) ?_
  refine lv_imul S.1 S.2.1 dX10_similarity_49 ?_
  refine fx_topi (y := 4) (by decide) ?_
  refine gx_i2d (v := 4616189618054758400) S (by decide +kernel) dX10_similarity_50 ?_
  refine gx_ddiv (v := 0) S (by decide +kernel) (by unfold vf_n64; decide +kernel) dX10_similarity_51 ?_
  refine gx_dsub (v := 4607182418800017408) S (by decide +kernel) (by unfold vf_n64; decide +kernel) dX10_similarity_52 ?_
  have hG : fG N0 D vwCl (fty cI cC cL cD cII cTr cTm cIt cB) (fen ql) s (fblk (fu (fu F (N0 + 164) (.inr (12, [.ref (N0 + 165), .int 0, .ref (N0 + 181), .int 0, .int 0, .int 0, .int (-1), .ref (ql 24), .ref (N0 + 182), .ref (N0 + 187), .ref (N0 + 208), .ref (N0 + 209), .ref (N0 + 210), .ref (N0 + 211), .ref (N0 + 212), .int 0, .ref (N0 + 213), .ref (N0 + 218), .ref (N0 + 223), .ref (N0 + 224), .ref (N0 + 225), .ref (N0 + 226), .ref (N0 + 227), .int 0, .int 0, .ref (N0 + 228), .null, .int (-1), .int 0, .int 0, .int 0]))) (N0 + 188) (.inl (cI, 20, .inl (upd (fun _ => 0) 0 0)))) n [.inl (cI, 0, .inl (fun _ => 0)), .inl (cI, 0, .inl (fun _ => 0)), .inl (cII, 1, .inr (.inr (.inr (.inr (fun j => if j < 1 then some ((n + 3) + j) else none))))), .inl (cI, 1, .inl (fun _ => 0))]) (n + 4) H locs := hG.weak (fun a e h => by
    rcases fblk_cases 4 rfl h with ⟨k, rfl, hlt, hk⟩ | ⟨hout, h⟩
    · rcases (show k = 0 ∨ k = 1 ∨ k = 2 ∨ k = 3 by omega) with rfl | rfl | rfl | rfl
      · cases (show some (.inl (cI, 0, .inl (fun _ => 0))) = some e from hk); exact (fblk_at 0 (by omega) rfl)
      · cases (show some (.inl (cI, 0, .inl (fun _ => 0))) = some e from hk); exact (fblk_at 1 (by omega) rfl)
      · cases (show some (.inl (cII, 1, .inr (.inr (.inr (.inr (fun j => if j < 1 then some ((n + 3) + j) else none)))))) = some e from hk); exact (fblk_at 2 (by omega) rfl)
      · cases (show some (.inl (cI, 1, .inl (fun _ => 0))) = some e from hk); exact (fblk_at 3 (by omega) rfl)
    · rcases fu_cases h with ⟨rfl, he⟩ | ⟨hne0, h⟩
      · cases he; exact (fblk_sk 4 rfl (by omega) fu_s)
      · skip
        rcases fu_cases h with ⟨rfl, he⟩ | ⟨hne1, h⟩
        · cases he; exact (fblk_sk 4 rfl (by omega) (fu_at (by omega) fu_s))
        · exact (fblk_sk 4 rfl (by omega) (fu_at (by omega) (fu_at (by omega) h))))
  exact fx_dret S hr hlocks () hG (rfl) dX10_similarity_53
theorem k1416_X7_similarity {n : Nat} {a2 : Int32} (g_a2_ge_3 : 3 ≤ a2) (hst : l.stackTraces = false) (hn : N0 + 231 ≤ n) (h0 : F N0 = some (.inr (9, [.ref (N0 + 1), .ref (N0 + 2), .ref (N0 + 11), .ref (N0 + 13), .ref (N0 + 63), .ref (N0 + 65), .ref (N0 + 85), .int (-1), .int (-1), .int 32]))) (h1 : F (N0 + 1) = some (.inl (cTr, 3, .inr (.inr (.inr (.inr (va_up (va_up (va_up (fun _ => none) 0 (some (N0 + 143))) 1 (some (N0 + 150))) 2 (some (N0 + 157))))))))) : vx_Met l yX7_similarity wsX7_similarity ({ frames := 7, cells := 1, slots := 6, locals := 103 }) (va_Pc [.ref N0, .int 2, .int a2] (fP N0 D vwCl (fty cI cC cL cD cII cTr cTm cIt cB) (fen ql) F n)) (fNo N0 D vwCl (fty cI cC cL cD cII cTr cTm cIt cB) F n) (fXC N0 D vwCl (fty cI cC cL cD cII cTr cTm cIt cB) "java/lang/IndexOutOfBoundsException" F n) 1 6 (fA N0) := by
  refine fx_startX 9 rfl rfl (Nat.le_of_ble_eq_true rfl) ?_ rfl
  intro p e s m below meth c ls S htab hlocks hG hl
  have hl : lv_has ls 9 [(0, .ref N0), (1, .int 2), (2, .int a2)] := hl
  have lt_h0 := hG.1.lt h0
  have lt_h1 := hG.1.lt h1
  refine lv_aload_n S.1 S.2.1 dX7_similarity_0 rfl (lv_at hl 0 rfl) ?_
  refine lv_iload_n S.1 S.2.1 dX7_similarity_1 rfl (lv_at hl 1 rfl) ?_
  refine fx_cVr (As := [.int 2]) (rest := []) S hG (k48_X7_treeAt (by omega) h0 h1) h0 rfl (cwV 1 S.2.2.2.2 gX7_similarity_X7_treeAt rfl rfl rfl (by decide +kernel) ⟨Nat.le_of_ble_eq_true rfl, Nat.le_of_ble_eq_true rfl⟩) rfl hl.1 rfl (Nat.le_of_ble_eq_true rfl) dX7_similarity_2 ⟨Nat.le_of_ble_eq_true rfl, Nat.le_of_ble_eq_true rfl⟩ (fun rv_1 _ H locs hp hG => ?_)
  subst rv_1
  refine lv_astore_n (lv' := [(3, .ref (N0 + 157)), (0, .ref N0), (1, .int 2), (2, .int a2)]) S.1 S.2.1 dX7_similarity_5 rfl hl (by decide) rfl (fun ls hl => ?_)
  refine lv_aload_n S.1 S.2.1 dX7_similarity_6 rfl (lv_at hl 1 rfl) ?_
  refine lv_iload_n S.1 S.2.1 dX7_similarity_7 rfl (lv_at hl 3 rfl) ?_
  refine fx_xV (As := [.int a2]) (rest := []) S hG (k478_X7_treeAt g_a2_ge_3 hst (by omega)) h0 rfl (cwV 1 S.2.2.2.2 gX7_similarity_X7_treeAt rfl rfl rfl (by decide +kernel) ⟨Nat.le_of_ble_eq_true rfl, Nat.le_of_ble_eq_true rfl⟩) rfl hl.1 rfl (Nat.le_of_ble_eq_true rfl) dX7_similarity_8 ⟨Nat.le_of_ble_eq_true rfl, Nat.le_of_ble_eq_true rfl⟩ (fun ceq_2 q_2 H locs n_3 hn_3 hG h1q_2 h2q_2 h3q_2 => ?_)
  exact fx_out htab hlocks hG (by omega) h1q_2 h2q_2 h3q_2 (by decide) (by decide)
theorem k1417_L_similarity {n : Nat} {a2 : Int32} (g_a2_ge_3 : 3 ≤ a2) (hst : l.stackTraces = false) (hn : N0 + 231 ≤ n) (h0 : F N0 = some (.inr (9, [.ref (N0 + 1), .ref (N0 + 2), .ref (N0 + 11), .ref (N0 + 13), .ref (N0 + 63), .ref (N0 + 65), .ref (N0 + 85), .int (-1), .int (-1), .int 32]))) (h1 : F (N0 + 1) = some (.inl (cTr, 3, .inr (.inr (.inr (.inr (va_up (va_up (va_up (fun _ => none) 0 (some (N0 + 143))) 1 (some (N0 + 150))) 2 (some (N0 + 157))))))))) : Met l yL_similarity wsL_similarity ({ frames := 8, cells := 1, slots := 6, locals := 131 }) (va_Pc [.ref N0, .int 2, .int a2, .ref (N0 + 230)] (fP N0 D vwCl (fty cI cC cL cD cII cTr cTm cIt cB) (fen ql) F n)) (fQi N0 D vwCl (fty cI cC cL cD cII cTr cTm cIt cB) (fun (r : Int32) (u : Nat) => r = 1 ∧ n ≤ u) (fun _ => F) (fun u => u)) 1 6 (fA N0) := by
  refine fx_startW (hh := [(0, 9, 12, 19)]) 5 rfl rfl (Nat.le_of_ble_eq_true rfl) ?_ rfl
  intro p e s m below meth c ls S htab hr hlocks hG hl
  have hl : lv_has ls 5 [(0, .ref N0), (1, .int 2), (2, .int a2), (3, .ref (N0 + 230))] := hl
  have lt_h0 := hG.1.lt h0
  have lt_h1 := hG.1.lt h1
  refine lv_aload_n S.1 S.2.1 dL_similarity_0 rfl (lv_at hl 3 rfl) ?_
  refine lv_iconst (v := 0) S.1 S.2.1 dL_similarity_1 (by decide) ?_
  refine lv_aload_n S.1 S.2.1 dL_similarity_2 rfl (lv_at hl 0 rfl) ?_
  refine lv_iload_n S.1 S.2.1 dL_similarity_3 rfl (lv_at hl 1 rfl) ?_
  refine lv_iload_n S.1 S.2.1 dL_similarity_4 rfl (lv_at hl 2 rfl) ?_
  refine fx_xV (As := [.int 2, .int a2]) (rest := [.int 0, .ref (N0 + 230)]) S hG (k1416_X7_similarity g_a2_ge_3 hst (by omega) h0 h1) h0 rfl (cwV 2 S.2.2.2.2 gL_similarity_X7_similarity rfl rfl rfl (by decide +kernel) ⟨Nat.le_of_ble_eq_true rfl, Nat.le_of_ble_eq_true rfl⟩) rfl hl.1 rfl (Nat.le_of_ble_eq_true rfl) dL_similarity_5 ⟨Nat.le_of_ble_eq_true rfl, Nat.le_of_ble_eq_true rfl⟩ (fun ceq_1 q_1 H locs n_2 hn_2 hG h1q_1 h2q_1 h3q_1 => ?_)
  refine fx_catch (hh := [(0, 9, 12, 19)]) S htab hG h1q_1 h2q_1 h3q_1 [] ⟨0, 9, 12, 19⟩ [] rfl [] (fun z hz => absurd hz List.not_mem_nil) (by decide) (by decide) (by decide +kernel) (List.mem_of_getElem? (i := 2) rfl) ?_
  refine lv_astore (lv' := [(4, .ref q_1), (0, .ref N0), (1, .int 2), (2, .int a2), (3, .ref (N0 + 230))]) S.1 S.2.1 dL_similarity_12 hl (by decide) rfl (fun ls hl => ?_)
  refine lv_iconst (v := 1) S.1 S.2.1 dL_similarity_14 (by decide) ?_
  exact fx_iret S hr hlocks n_2 hG (⟨rfl, hn_2⟩) dL_similarity_15
theorem k1418_X10_similarity {n : Nat} {a2 : Int32} (g_a2_ge_3 : 3 ≤ a2) (hn : N0 + 231 ≤ n) (h0 : F (N0 + 164) = some (.inr (12, [.ref (N0 + 165), .int 0, .ref (N0 + 181), .int 0, .int 0, .int 0, .int (-1), .ref (ql 24), .ref (N0 + 182), .ref (N0 + 187), .ref (N0 + 208), .ref (N0 + 209), .ref (N0 + 210), .ref (N0 + 211), .ref (N0 + 212), .int 0, .ref (N0 + 213), .ref (N0 + 218), .ref (N0 + 223), .ref (N0 + 224), .ref (N0 + 225), .ref (N0 + 226), .ref (N0 + 227), .int 0, .int 0, .ref (N0 + 228), .null, .int (-1), .int 0, .int 0, .int 0]))) : Met l yX10_similarity wsX10_similarity ({ frames := 3, cells := 0, slots := 0, locals := 64 }) (va_Pc [.ref (N0 + 164), .int 2, .int a2] (fP N0 D vwCl (fty cI cC cL cD cII cTr cTm cIt cB) (fen ql) F n)) (fQd N0 D vwCl (fty cI cC cL cD cII cTr cTm cIt cB) (fun (r : UInt64) (_ : Unit) => r = 0) (fun _ => (fu F (N0 + 164) (.inr (12, [.ref (N0 + 165), .int 1, .ref (N0 + 181), .int 0, .int 0, .int 0, .int (-1), .ref (ql 24), .ref (N0 + 182), .ref (N0 + 187), .ref (N0 + 208), .ref (N0 + 209), .ref (N0 + 210), .ref (N0 + 211), .ref (N0 + 212), .int 0, .ref (N0 + 213), .ref (N0 + 218), .ref (N0 + 223), .ref (N0 + 224), .ref (N0 + 225), .ref (N0 + 226), .ref (N0 + 227), .int 0, .int 0, .ref (N0 + 228), .null, .int (-1), .int 0, .int 0, .int 0])))) (fun _ => n)) 0 0 (fA N0) := by
  refine fx_start 3 rfl rfl (Nat.le_of_ble_eq_true rfl) ?_ rfl
  intro p e s m below meth c ls S hr hlocks hin hG hl
  have hl : lv_has ls 3 [(0, .ref (N0 + 164)), (1, .int 2), (2, .int a2)] := hl
  have lt_h0 := hG.1.lt h0
  refine lv_aload_n S.1 S.2.1 dX10_similarity_0 rfl (lv_at hl 0 rfl) ?_
  refine lv_iload_n S.1 S.2.1 dX10_similarity_1 rfl (lv_at hl 1 rfl) ?_
  refine lv_iload_n S.1 S.2.1 dX10_similarity_2 rfl (lv_at hl 2 rfl) ?_
  refine fx_cVi (As := [.int 2, .int a2]) (rest := []) S hG (k535_X10_areNone g_a2_ge_3 (by omega) h0) h0 rfl (cwV 2 S.2.2.2.2 gX10_similarity_X10_areNone rfl rfl rfl (by decide +kernel) ⟨Nat.le_of_ble_eq_true rfl, Nat.le_of_ble_eq_true rfl⟩) rfl hl.1 rfl (Nat.le_of_ble_eq_true rfl) dX10_similarity_3 ⟨Nat.le_of_ble_eq_true rfl, Nat.le_of_ble_eq_true rfl⟩ (fun rv_1 _ H locs hp hG => ?_)
  subst rv_1
  refine lv_if_eq (tgt := 11) S.1 S.2.1 dX10_similarity_6 (by decide) (fun c => absurd c (by decide)) (fun _ => ?_)
  refine gx_dconst0 (v := 0) S (by decide +kernel) dX10_similarity_9 ?_
  exact fx_dret S hr hlocks () hG (rfl) dX10_similarity_10
theorem k1419_X7_similarity {n : Nat} {a1 : Int32} {a2 : Int32} (g_a1_ge_3 : 3 ≤ a1) (hst : l.stackTraces = false) (hn : N0 + 231 ≤ n) (h0 : F N0 = some (.inr (9, [.ref (N0 + 1), .ref (N0 + 2), .ref (N0 + 11), .ref (N0 + 13), .ref (N0 + 63), .ref (N0 + 65), .ref (N0 + 85), .int (-1), .int (-1), .int 32]))) : vx_Met l yX7_similarity wsX7_similarity ({ frames := 7, cells := 1, slots := 6, locals := 103 }) (va_Pc [.ref N0, .int a1, .int a2] (fP N0 D vwCl (fty cI cC cL cD cII cTr cTm cIt cB) (fen ql) F n)) (fNo N0 D vwCl (fty cI cC cL cD cII cTr cTm cIt cB) F n) (fXC N0 D vwCl (fty cI cC cL cD cII cTr cTm cIt cB) "java/lang/IndexOutOfBoundsException" F n) 1 6 (fA N0) := by
  refine fx_startX 9 rfl rfl (Nat.le_of_ble_eq_true rfl) ?_ rfl
  intro p e s m below meth c ls S htab hlocks hG hl
  have hl : lv_has ls 9 [(0, .ref N0), (1, .int a1), (2, .int a2)] := hl
  have lt_h0 := hG.1.lt h0
  refine lv_aload_n S.1 S.2.1 dX7_similarity_0 rfl (lv_at hl 0 rfl) ?_
  refine lv_iload_n S.1 S.2.1 dX7_similarity_1 rfl (lv_at hl 1 rfl) ?_
  refine fx_xV (As := [.int a1]) (rest := []) S hG (k54_X7_treeAt g_a1_ge_3 hst (by omega)) h0 rfl (cwV 1 S.2.2.2.2 gX7_similarity_X7_treeAt rfl rfl rfl (by decide +kernel) ⟨Nat.le_of_ble_eq_true rfl, Nat.le_of_ble_eq_true rfl⟩) rfl hl.1 rfl (Nat.le_of_ble_eq_true rfl) dX7_similarity_2 ⟨Nat.le_of_ble_eq_true rfl, Nat.le_of_ble_eq_true rfl⟩ (fun ceq_1 q_1 H locs n_2 hn_2 hG h1q_1 h2q_1 h3q_1 => ?_)
  exact fx_out htab hlocks hG (by omega) h1q_1 h2q_1 h3q_1 (by decide) (by decide)
theorem k1420_L_similarity {n : Nat} {a1 : Int32} {a2 : Int32} (g_a1_ge_3 : 3 ≤ a1) (hst : l.stackTraces = false) (hn : N0 + 231 ≤ n) (h0 : F N0 = some (.inr (9, [.ref (N0 + 1), .ref (N0 + 2), .ref (N0 + 11), .ref (N0 + 13), .ref (N0 + 63), .ref (N0 + 65), .ref (N0 + 85), .int (-1), .int (-1), .int 32]))) : Met l yL_similarity wsL_similarity ({ frames := 8, cells := 1, slots := 6, locals := 131 }) (va_Pc [.ref N0, .int a1, .int a2, .ref (N0 + 230)] (fP N0 D vwCl (fty cI cC cL cD cII cTr cTm cIt cB) (fen ql) F n)) (fQi N0 D vwCl (fty cI cC cL cD cII cTr cTm cIt cB) (fun (r : Int32) (u : Nat) => r = 1 ∧ n ≤ u) (fun _ => F) (fun u => u)) 1 6 (fA N0) := by
  refine fx_startW (hh := [(0, 9, 12, 19)]) 5 rfl rfl (Nat.le_of_ble_eq_true rfl) ?_ rfl
  intro p e s m below meth c ls S htab hr hlocks hG hl
  have hl : lv_has ls 5 [(0, .ref N0), (1, .int a1), (2, .int a2), (3, .ref (N0 + 230))] := hl
  have lt_h0 := hG.1.lt h0
  refine lv_aload_n S.1 S.2.1 dL_similarity_0 rfl (lv_at hl 3 rfl) ?_
  refine lv_iconst (v := 0) S.1 S.2.1 dL_similarity_1 (by decide) ?_
  refine lv_aload_n S.1 S.2.1 dL_similarity_2 rfl (lv_at hl 0 rfl) ?_
  refine lv_iload_n S.1 S.2.1 dL_similarity_3 rfl (lv_at hl 1 rfl) ?_
  refine lv_iload_n S.1 S.2.1 dL_similarity_4 rfl (lv_at hl 2 rfl) ?_
  refine fx_xV (As := [.int a1, .int a2]) (rest := [.int 0, .ref (N0 + 230)]) S hG (k1419_X7_similarity g_a1_ge_3 hst (by omega) h0) h0 rfl (cwV 2 S.2.2.2.2 gL_similarity_X7_similarity rfl rfl rfl (by decide +kernel) ⟨Nat.le_of_ble_eq_true rfl, Nat.le_of_ble_eq_true rfl⟩) rfl hl.1 rfl (Nat.le_of_ble_eq_true rfl) dL_similarity_5 ⟨Nat.le_of_ble_eq_true rfl, Nat.le_of_ble_eq_true rfl⟩ (fun ceq_1 q_1 H locs n_2 hn_2 hG h1q_1 h2q_1 h3q_1 => ?_)
  refine fx_catch (hh := [(0, 9, 12, 19)]) S htab hG h1q_1 h2q_1 h3q_1 [] ⟨0, 9, 12, 19⟩ [] rfl [] (fun z hz => absurd hz List.not_mem_nil) (by decide) (by decide) (by decide +kernel) (List.mem_of_getElem? (i := 2) rfl) ?_
  refine lv_astore (lv' := [(4, .ref q_1), (0, .ref N0), (1, .int a1), (2, .int a2), (3, .ref (N0 + 230))]) S.1 S.2.1 dL_similarity_12 hl (by decide) rfl (fun ls hl => ?_)
  refine lv_iconst (v := 1) S.1 S.2.1 dL_similarity_14 (by decide) ?_
  exact fx_iret S hr hlocks n_2 hG (⟨rfl, hn_2⟩) dL_similarity_15
theorem k1421_X10_similarity {n : Nat} {a1 : Int32} {a2 : Int32} (g_a1_ge_3 : 3 ≤ a1) (hn : N0 + 231 ≤ n) (h0 : F (N0 + 164) = some (.inr (12, [.ref (N0 + 165), .int 0, .ref (N0 + 181), .int 0, .int 0, .int 0, .int (-1), .ref (ql 24), .ref (N0 + 182), .ref (N0 + 187), .ref (N0 + 208), .ref (N0 + 209), .ref (N0 + 210), .ref (N0 + 211), .ref (N0 + 212), .int 0, .ref (N0 + 213), .ref (N0 + 218), .ref (N0 + 223), .ref (N0 + 224), .ref (N0 + 225), .ref (N0 + 226), .ref (N0 + 227), .int 0, .int 0, .ref (N0 + 228), .null, .int (-1), .int 0, .int 0, .int 0]))) : Met l yX10_similarity wsX10_similarity ({ frames := 3, cells := 0, slots := 0, locals := 64 }) (va_Pc [.ref (N0 + 164), .int a1, .int a2] (fP N0 D vwCl (fty cI cC cL cD cII cTr cTm cIt cB) (fen ql) F n)) (fQd N0 D vwCl (fty cI cC cL cD cII cTr cTm cIt cB) (fun (r : UInt64) (_ : Unit) => r = 0) (fun _ => (fu F (N0 + 164) (.inr (12, [.ref (N0 + 165), .int 1, .ref (N0 + 181), .int 0, .int 0, .int 0, .int (-1), .ref (ql 24), .ref (N0 + 182), .ref (N0 + 187), .ref (N0 + 208), .ref (N0 + 209), .ref (N0 + 210), .ref (N0 + 211), .ref (N0 + 212), .int 0, .ref (N0 + 213), .ref (N0 + 218), .ref (N0 + 223), .ref (N0 + 224), .ref (N0 + 225), .ref (N0 + 226), .ref (N0 + 227), .int 0, .int 0, .ref (N0 + 228), .null, .int (-1), .int 0, .int 0, .int 0])))) (fun _ => n)) 0 0 (fA N0) := by
  refine fx_start 3 rfl rfl (Nat.le_of_ble_eq_true rfl) ?_ rfl
  intro p e s m below meth c ls S hr hlocks hin hG hl
  have hl : lv_has ls 3 [(0, .ref (N0 + 164)), (1, .int a1), (2, .int a2)] := hl
  have lt_h0 := hG.1.lt h0
  refine lv_aload_n S.1 S.2.1 dX10_similarity_0 rfl (lv_at hl 0 rfl) ?_
  refine lv_iload_n S.1 S.2.1 dX10_similarity_1 rfl (lv_at hl 1 rfl) ?_
  refine lv_iload_n S.1 S.2.1 dX10_similarity_2 rfl (lv_at hl 2 rfl) ?_
  refine fx_cVi (As := [.int a1, .int a2]) (rest := []) S hG (k539_X10_areNone g_a1_ge_3 (by omega) h0) h0 rfl (cwV 2 S.2.2.2.2 gX10_similarity_X10_areNone rfl rfl rfl (by decide +kernel) ⟨Nat.le_of_ble_eq_true rfl, Nat.le_of_ble_eq_true rfl⟩) rfl hl.1 rfl (Nat.le_of_ble_eq_true rfl) dX10_similarity_3 ⟨Nat.le_of_ble_eq_true rfl, Nat.le_of_ble_eq_true rfl⟩ (fun rv_1 _ H locs hp hG => ?_)
  subst rv_1
  refine lv_if_eq (tgt := 11) S.1 S.2.1 dX10_similarity_6 (by decide) (fun c => absurd c (by decide)) (fun _ => ?_)
  refine gx_dconst0 (v := 0) S (by decide +kernel) dX10_similarity_9 ?_
  exact fx_dret S hr hlocks () hG (rfl) dX10_similarity_10
theorem l25_0 {p : Program} {e : Env} {s : State} {m : MethodId} {below : List Frame} {meth : Method} {c : Code} {b : Nat} {xs : Nat → Int32} {H : Heap} {locs : List Loc} {ls : Array Slot} {n : Nat} {a1 a2 a3 a4 : Int32} (g_a1_le_m1 : a1 ≤ (-1)) (S : CallFix p m c cL_law 9 s #[.ref b] wsL_law "TreeDifferLaw") (hr : meth.sig.returnType = ret) (hlocks : meth.locks = false) (hst : l.stackTraces = false) (hX : va_X b 5 xs s s.heap) (hbl : b < s.heap.size ∧ b < N0) (hN : s.heap.size = N0) (hn : N0 + 231 ≤ n) (hx1 : xs 1 = a1) (hx2 : xs 2 = a2) (hx3 : xs 3 = a3) (hx4 : xs 4 = a4) (h0 : F N0 = some (.inr (9, [.ref (N0 + 1), .ref (N0 + 2), .ref (N0 + 11), .ref (N0 + 13), .ref (N0 + 63), .ref (N0 + 65), .ref (N0 + 85), .int (-1), .int (-1), .int 32]))) (h1 : F (N0 + 164) = some (.inr (12, [.ref (N0 + 165), .int 0, .ref (N0 + 181), .int 0, .int 0, .int 0, .int (-1), .ref (ql 24), .ref (N0 + 182), .ref (N0 + 187), .ref (N0 + 208), .ref (N0 + 209), .ref (N0 + 210), .ref (N0 + 211), .ref (N0 + 212), .int 0, .ref (N0 + 213), .ref (N0 + 218), .ref (N0 + 223), .ref (N0 + 224), .ref (N0 + 225), .ref (N0 + 226), .ref (N0 + 227), .int 0, .int 0, .ref (N0 + 228), .null, .int (-1), .int 0, .int 0, .int 0]))) (hG : fG N0 D vwCl (fty cI cC cL cD cII cTr cTm cIt cB) (fen ql) s F n H locs) (hl : lv_has ls 9 [(0, .ref b), (1, .ref N0), (2, .ref (N0 + 164)), (3, .ref (N0 + 229)), (4, .ref (N0 + 230)), (5, .int 0)]) : W p l e { frames := 2048, cells := 600002, slots := 7302232, locals := 84000 } s m #[.ref b] below meth c H locs 231 4980 (lw_Z below #[.ref b] s) (F0 m 1929 ls []) := by
  have lt_h0 := hG.1.lt h0
  have lt_h1 := hG.1.lt h1
  refine lv_aload_n S.1 S.2.1 dL_law_1929 rfl (lv_at hl 1 rfl) ?_
  refine lv_aload_n S.1 S.2.1 dL_law_1930 rfl (lv_at hl 0 rfl) ?_
  refine lv_iload S.1 S.2.1 dL_law_1931 (lv_at hl 5 rfl) ?_
  refine lv_iconst (v := 1) S.1 S.2.1 dL_law_1933 (by decide) ?_
  refine lv_iadd S.1 S.2.1 dL_law_1934 ?_
  refine fx_topi (y := 1) (by decide) ?_
  refine gx_sld (v := a1) S hG hX hbl (fin_l (by decide)) hx1 dL_law_1935 ?_
  refine lv_aload_n S.1 S.2.1 dL_law_1936 rfl (lv_at hl 0 rfl) ?_
  refine lv_iload S.1 S.2.1 dL_law_1937 (lv_at hl 5 rfl) ?_
  refine lv_iconst (v := 2) S.1 S.2.1 dL_law_1939 (by decide) ?_
  refine lv_iadd S.1 S.2.1 dL_law_1940 ?_
  refine fx_topi (y := 2) (by decide) ?_
  refine gx_sld (v := a2) S hG hX hbl (fin_l (by decide)) hx2 dL_law_1941 ?_
  refine lv_aload S.1 S.2.1 dL_law_1942 (lv_at hl 4 rfl) ?_
  refine fx_cTi (As := [.ref N0, .int a1, .int a2, .ref (N0 + 230)]) (rest := []) S hG (k1372_L_similarity g_a1_le_m1 hst (by omega) h0) (vx_cwSW 4 S.2.2.2.2 gL_law_L_similarity rfl rfl rfl (by decide +kernel) ⟨Nat.le_of_ble_eq_true rfl, Nat.le_of_ble_eq_true rfl⟩) rfl hl.1 rfl (Nat.le_of_ble_eq_true rfl) dL_law_1944 ⟨Nat.le_of_ble_eq_true rfl, Nat.le_of_ble_eq_true rfl⟩ (fun rv_u_1 u_1 H locs hp hG => ?_)
  obtain ⟨rfl, hu_1⟩ := hp
  refine W.widen (k := 232) (n := 4986) (by decide) (by decide) ?_
  refine lv_istore (lv' := [(6, .int 1), (0, .ref b), (1, .ref N0), (2, .ref (N0 + 164)), (3, .ref (N0 + 229)), (4, .ref (N0 + 230)), (5, .int 0)]) S.1 S.2.1 dL_law_1947 hl (by decide) rfl (fun ls hl => ?_)
  refine lv_aload_n S.1 S.2.1 dL_law_1949 rfl (lv_at hl 3 rfl) ?_
  refine lv_aload_n S.1 S.2.1 dL_law_1950 rfl (lv_at hl 1 rfl) ?_
  refine lv_iload S.1 S.2.1 dL_law_1951 (lv_at hl 6 rfl) ?_
  refine lv_iconst (v := 1) S.1 S.2.1 dL_law_1953 (by decide) ?_
  refine lv_iadd S.1 S.2.1 dL_law_1954 ?_
  refine fx_topi (y := 1) (by decide) ?_
  refine gx_sld (v := a1) S hG hX hbl (fin_l (by decide)) hx1 dL_law_1955 ?_
  refine lv_aload_n S.1 S.2.1 dL_law_1956 rfl (lv_at hl 1 rfl) ?_
  refine lv_iload S.1 S.2.1 dL_law_1957 (lv_at hl 6 rfl) ?_
  refine lv_iconst (v := 2) S.1 S.2.1 dL_law_1959 (by decide) ?_
  refine lv_iadd S.1 S.2.1 dL_law_1960 ?_
  refine fx_topi (y := 2) (by decide) ?_
  refine gx_sld (v := a2) S hG hX hbl (fin_l (by decide)) hx2 dL_law_1961 ?_
  refine fx_cVd (As := [.int a1, .int a2]) (rest := []) S hG (k1373_X10_similarity g_a1_le_m1 (by omega) h1) h1 rfl (cwV 2 S.2.2.2.2 gL_law_X10_similarity rfl rfl rfl (by decide +kernel) ⟨Nat.le_of_ble_eq_true rfl, Nat.le_of_ble_eq_true rfl⟩) rfl hl.1 rfl (Nat.le_of_ble_eq_true rfl) dL_law_1962 ⟨Nat.le_of_ble_eq_true rfl, Nat.le_of_ble_eq_true rfl⟩ (fun rv_2 _ H locs hp hG => ?_)
  subst rv_2
  refine lv_dstore (lv' := [(7, .double 0), (6, .int 1), (0, .ref b), (1, .ref N0), (2, .ref (N0 + 164)), (3, .ref (N0 + 229)), (4, .ref (N0 + 230)), (5, .int 0)]) S.1 S.2.1 dL_law_1965 hl (by decide) rfl (fun ls hl => ?_)
  refine lv_aload_n S.1 S.2.1 dL_law_1967 rfl (lv_at hl 4 rfl) ?_
  refine fx_cVi (As := []) (rest := []) S hG (k25_X10_thrown (by omega) fu_s) fu_s rfl (cwV 0 S.2.2.2.2 gL_law_X10_thrown rfl rfl rfl (by decide +kernel) ⟨Nat.le_of_ble_eq_true rfl, Nat.le_of_ble_eq_true rfl⟩) rfl hl.1 rfl (Nat.le_of_ble_eq_true rfl) dL_law_1968 ⟨Nat.le_of_ble_eq_true rfl, Nat.le_of_ble_eq_true rfl⟩ (fun rv_3 _ H locs hp hG => ?_)
  subst rv_3
  refine lv_iload S.1 S.2.1 dL_law_1971 (lv_at hl 1 rfl) ?_
  refine lv_icmp_eq (tgt := 1978) S.1 S.2.1 dL_law_1973 (by decide) (fun _ => ?_) (fun c => absurd (by decide) c)
  refine lv_iload S.1 S.2.1 dL_law_1978 (lv_at hl 1 rfl) ?_
  refine lv_if_ne (tgt := 2015) S.1 S.2.1 dL_law_1980 (by decide) (fun _ => ?_) (fun c => absurd c (by decide))
  refine lv_goto (tgt := 2650) S.1 S.2.1 dL_law_2015 (by decide) ?_
  refine lv_iinc (v := 5) (lv' := [(5, .int 5), (7, .double 0), (6, .int 1), (0, .ref b), (1, .ref N0), (2, .ref (N0 + 164)), (3, .ref (N0 + 229)), (4, .ref (N0 + 230))]) S.1 S.2.1 dL_law_2650 hl (k := 7) rfl (by decide) (by decide) rfl (fun ls hl => ?_)
  refine lv_goto (tgt := 28) S.1 S.2.1 dL_law_2653 (by decide) ?_
  refine lv_iload S.1 S.2.1 dL_law_28 (lv_at hl 0 rfl) ?_
  refine lv_aload_n S.1 S.2.1 dL_law_30 rfl (lv_at hl 3 rfl) ?_
  refine gx_slen (v := 5) S hG hX hbl rfl dL_law_31 ?_
  refine lv_iconst (v := 5) S.1 S.2.1 dL_law_32 (by decide) ?_
  refine lv_isub S.1 S.2.1 dL_law_33 ?_
  refine fx_topi (y := 0) (by decide) ?_
  refine lv_icmp_gt (tgt := 2656) S.1 S.2.1 dL_law_34 (by decide) (fun _ => ?_) (fun c => absurd (by decide) c)
  refine lv_iconst (v := 1) S.1 S.2.1 dL_law_2656 (by decide) ?_
  refine va_forget (fun q hq => by rw [hN]; exact hG.2.1.2.2 q hq) ?_
  refine W.widen (k := 600002) (n := 7302232) (by decide) (by decide) ?_
  exact lw_ret (d0 := s.drawn) (Drawn.sameBut.refl _ _) S.1 S.2.1 hr hlocks dL_law_2657
theorem l25_1 {p : Program} {e : Env} {s : State} {m : MethodId} {below : List Frame} {meth : Method} {c : Code} {b : Nat} {xs : Nat → Int32} {H : Heap} {locs : List Loc} {ls : Array Slot} {n : Nat} {a2 a3 a4 : Int32} (g_a2_le_m1 : a2 ≤ (-1)) (S : CallFix p m c cL_law 9 s #[.ref b] wsL_law "TreeDifferLaw") (hr : meth.sig.returnType = ret) (hlocks : meth.locks = false) (hst : l.stackTraces = false) (hX : va_X b 5 xs s s.heap) (hbl : b < s.heap.size ∧ b < N0) (hN : s.heap.size = N0) (hn : N0 + 231 ≤ n) (hx1 : xs 1 = 0) (hx2 : xs 2 = a2) (hx3 : xs 3 = a3) (hx4 : xs 4 = a4) (h0 : F N0 = some (.inr (9, [.ref (N0 + 1), .ref (N0 + 2), .ref (N0 + 11), .ref (N0 + 13), .ref (N0 + 63), .ref (N0 + 65), .ref (N0 + 85), .int (-1), .int (-1), .int 32]))) (h1 : F (N0 + 1) = some (.inl (cTr, 3, .inr (.inr (.inr (.inr (va_up (va_up (va_up (fun _ => none) 0 (some (N0 + 143))) 1 (some (N0 + 150))) 2 (some (N0 + 157))))))))) (h2 : F (N0 + 164) = some (.inr (12, [.ref (N0 + 165), .int 0, .ref (N0 + 181), .int 0, .int 0, .int 0, .int (-1), .ref (ql 24), .ref (N0 + 182), .ref (N0 + 187), .ref (N0 + 208), .ref (N0 + 209), .ref (N0 + 210), .ref (N0 + 211), .ref (N0 + 212), .int 0, .ref (N0 + 213), .ref (N0 + 218), .ref (N0 + 223), .ref (N0 + 224), .ref (N0 + 225), .ref (N0 + 226), .ref (N0 + 227), .int 0, .int 0, .ref (N0 + 228), .null, .int (-1), .int 0, .int 0, .int 0]))) (hG : fG N0 D vwCl (fty cI cC cL cD cII cTr cTm cIt cB) (fen ql) s F n H locs) (hl : lv_has ls 9 [(0, .ref b), (1, .ref N0), (2, .ref (N0 + 164)), (3, .ref (N0 + 229)), (4, .ref (N0 + 230)), (5, .int 0)]) : W p l e { frames := 2048, cells := 600002, slots := 7302232, locals := 84000 } s m #[.ref b] below meth c H locs 231 4980 (lw_Z below #[.ref b] s) (F0 m 1929 ls []) := by
  have lt_h0 := hG.1.lt h0
  have lt_h1 := hG.1.lt h1
  have lt_h2 := hG.1.lt h2
  refine lv_aload_n S.1 S.2.1 dL_law_1929 rfl (lv_at hl 1 rfl) ?_
  refine lv_aload_n S.1 S.2.1 dL_law_1930 rfl (lv_at hl 0 rfl) ?_
  refine lv_iload S.1 S.2.1 dL_law_1931 (lv_at hl 5 rfl) ?_
  refine lv_iconst (v := 1) S.1 S.2.1 dL_law_1933 (by decide) ?_
  refine lv_iadd S.1 S.2.1 dL_law_1934 ?_
  refine fx_topi (y := 1) (by decide) ?_
  refine gx_sld (v := 0) S hG hX hbl (fin_l (by decide)) hx1 dL_law_1935 ?_
  refine lv_aload_n S.1 S.2.1 dL_law_1936 rfl (lv_at hl 0 rfl) ?_
  refine lv_iload S.1 S.2.1 dL_law_1937 (lv_at hl 5 rfl) ?_
  refine lv_iconst (v := 2) S.1 S.2.1 dL_law_1939 (by decide) ?_
  refine lv_iadd S.1 S.2.1 dL_law_1940 ?_
  refine fx_topi (y := 2) (by decide) ?_
  refine gx_sld (v := a2) S hG hX hbl (fin_l (by decide)) hx2 dL_law_1941 ?_
  refine lv_aload S.1 S.2.1 dL_law_1942 (lv_at hl 4 rfl) ?_
  refine fx_cTi (As := [.ref N0, .int 0, .int a2, .ref (N0 + 230)]) (rest := []) S hG (k1375_L_similarity g_a2_le_m1 hst (by omega) h0 h1) (vx_cwSW 4 S.2.2.2.2 gL_law_L_similarity rfl rfl rfl (by decide +kernel) ⟨Nat.le_of_ble_eq_true rfl, Nat.le_of_ble_eq_true rfl⟩) rfl hl.1 rfl (Nat.le_of_ble_eq_true rfl) dL_law_1944 ⟨Nat.le_of_ble_eq_true rfl, Nat.le_of_ble_eq_true rfl⟩ (fun rv_u_1 u_1 H locs hp hG => ?_)
  obtain ⟨rfl, hu_1⟩ := hp
  refine W.widen (k := 232) (n := 4986) (by decide) (by decide) ?_
  refine lv_istore (lv' := [(6, .int 1), (0, .ref b), (1, .ref N0), (2, .ref (N0 + 164)), (3, .ref (N0 + 229)), (4, .ref (N0 + 230)), (5, .int 0)]) S.1 S.2.1 dL_law_1947 hl (by decide) rfl (fun ls hl => ?_)
  refine lv_aload_n S.1 S.2.1 dL_law_1949 rfl (lv_at hl 3 rfl) ?_
  refine lv_aload_n S.1 S.2.1 dL_law_1950 rfl (lv_at hl 1 rfl) ?_
  refine lv_iload S.1 S.2.1 dL_law_1951 (lv_at hl 6 rfl) ?_
  refine lv_iconst (v := 1) S.1 S.2.1 dL_law_1953 (by decide) ?_
  refine lv_iadd S.1 S.2.1 dL_law_1954 ?_
  refine fx_topi (y := 1) (by decide) ?_
  refine gx_sld (v := 0) S hG hX hbl (fin_l (by decide)) hx1 dL_law_1955 ?_
  refine lv_aload_n S.1 S.2.1 dL_law_1956 rfl (lv_at hl 1 rfl) ?_
  refine lv_iload S.1 S.2.1 dL_law_1957 (lv_at hl 6 rfl) ?_
  refine lv_iconst (v := 2) S.1 S.2.1 dL_law_1959 (by decide) ?_
  refine lv_iadd S.1 S.2.1 dL_law_1960 ?_
  refine fx_topi (y := 2) (by decide) ?_
  refine gx_sld (v := a2) S hG hX hbl (fin_l (by decide)) hx2 dL_law_1961 ?_
  refine fx_cVd (As := [.int 0, .int a2]) (rest := []) S hG (k1376_X10_similarity g_a2_le_m1 (by omega) h2) h2 rfl (cwV 2 S.2.2.2.2 gL_law_X10_similarity rfl rfl rfl (by decide +kernel) ⟨Nat.le_of_ble_eq_true rfl, Nat.le_of_ble_eq_true rfl⟩) rfl hl.1 rfl (Nat.le_of_ble_eq_true rfl) dL_law_1962 ⟨Nat.le_of_ble_eq_true rfl, Nat.le_of_ble_eq_true rfl⟩ (fun rv_2 _ H locs hp hG => ?_)
  subst rv_2
  refine lv_dstore (lv' := [(7, .double 0), (6, .int 1), (0, .ref b), (1, .ref N0), (2, .ref (N0 + 164)), (3, .ref (N0 + 229)), (4, .ref (N0 + 230)), (5, .int 0)]) S.1 S.2.1 dL_law_1965 hl (by decide) rfl (fun ls hl => ?_)
  refine lv_aload_n S.1 S.2.1 dL_law_1967 rfl (lv_at hl 4 rfl) ?_
  refine fx_cVi (As := []) (rest := []) S hG (k25_X10_thrown (by omega) fu_s) fu_s rfl (cwV 0 S.2.2.2.2 gL_law_X10_thrown rfl rfl rfl (by decide +kernel) ⟨Nat.le_of_ble_eq_true rfl, Nat.le_of_ble_eq_true rfl⟩) rfl hl.1 rfl (Nat.le_of_ble_eq_true rfl) dL_law_1968 ⟨Nat.le_of_ble_eq_true rfl, Nat.le_of_ble_eq_true rfl⟩ (fun rv_3 _ H locs hp hG => ?_)
  subst rv_3
  refine lv_iload S.1 S.2.1 dL_law_1971 (lv_at hl 1 rfl) ?_
  refine lv_icmp_eq (tgt := 1978) S.1 S.2.1 dL_law_1973 (by decide) (fun _ => ?_) (fun c => absurd (by decide) c)
  refine lv_iload S.1 S.2.1 dL_law_1978 (lv_at hl 1 rfl) ?_
  refine lv_if_ne (tgt := 2015) S.1 S.2.1 dL_law_1980 (by decide) (fun _ => ?_) (fun c => absurd c (by decide))
  refine lv_goto (tgt := 2650) S.1 S.2.1 dL_law_2015 (by decide) ?_
  refine lv_iinc (v := 5) (lv' := [(5, .int 5), (7, .double 0), (6, .int 1), (0, .ref b), (1, .ref N0), (2, .ref (N0 + 164)), (3, .ref (N0 + 229)), (4, .ref (N0 + 230))]) S.1 S.2.1 dL_law_2650 hl (k := 7) rfl (by decide) (by decide) rfl (fun ls hl => ?_)
  refine lv_goto (tgt := 28) S.1 S.2.1 dL_law_2653 (by decide) ?_
  refine lv_iload S.1 S.2.1 dL_law_28 (lv_at hl 0 rfl) ?_
  refine lv_aload_n S.1 S.2.1 dL_law_30 rfl (lv_at hl 3 rfl) ?_
  refine gx_slen (v := 5) S hG hX hbl rfl dL_law_31 ?_
  refine lv_iconst (v := 5) S.1 S.2.1 dL_law_32 (by decide) ?_
  refine lv_isub S.1 S.2.1 dL_law_33 ?_
  refine fx_topi (y := 0) (by decide) ?_
  refine lv_icmp_gt (tgt := 2656) S.1 S.2.1 dL_law_34 (by decide) (fun _ => ?_) (fun c => absurd (by decide) c)
  refine lv_iconst (v := 1) S.1 S.2.1 dL_law_2656 (by decide) ?_
  refine va_forget (fun q hq => by rw [hN]; exact hG.2.1.2.2 q hq) ?_
  refine W.widen (k := 600002) (n := 7302232) (by decide) (by decide) ?_
  exact lw_ret (d0 := s.drawn) (Drawn.sameBut.refl _ _) S.1 S.2.1 hr hlocks dL_law_2657
theorem l25_2 {p : Program} {e : Env} {s : State} {m : MethodId} {below : List Frame} {meth : Method} {c : Code} {b : Nat} {xs : Nat → Int32} {H : Heap} {locs : List Loc} {ls : Array Slot} {n : Nat} {a3 a4 : Int32} (S : CallFix p m c cL_law 9 s #[.ref b] wsL_law "TreeDifferLaw") (hr : meth.sig.returnType = ret) (hlocks : meth.locks = false) (hst : l.stackTraces = false) (hX : va_X b 5 xs s s.heap) (hbl : b < s.heap.size ∧ b < N0) (hN : s.heap.size = N0) (hn : N0 + 231 ≤ n) (hx1 : xs 1 = 0) (hx2 : xs 2 = 0) (hx3 : xs 3 = a3) (hx4 : xs 4 = a4) (h0 : F N0 = some (.inr (9, [.ref (N0 + 1), .ref (N0 + 2), .ref (N0 + 11), .ref (N0 + 13), .ref (N0 + 63), .ref (N0 + 65), .ref (N0 + 85), .int (-1), .int (-1), .int 32]))) (h1 : F (N0 + 1) = some (.inl (cTr, 3, .inr (.inr (.inr (.inr (va_up (va_up (va_up (fun _ => none) 0 (some (N0 + 143))) 1 (some (N0 + 150))) 2 (some (N0 + 157))))))))) (h2 : F (N0 + 13) = some (.inr (3, [.ref (N0 + 14), .ref (N0 + 35), .ref (N0 + 57), .ref (N0 + 58), .ref (N0 + 59), .ref (N0 + 60), .int 0, .int 0, .ref (N0 + 61), .ref (N0 + 62)]))) (h3 : F (N0 + 143) = some (.inr (7, [.ref (N0 + 144), .ref (N0 + 145), .ref (N0 + 146), .ref (N0 + 147), .ref (N0 + 148), .ref (N0 + 149), .int 1]))) (h4 : F (N0 + 57) = some (.inl (cI, 20, .inl (fun _ => 0)))) (h5 : F (N0 + 58) = some (.inl (cI, 20, .inl (fun _ => 0)))) (h6 : F (N0 + 35) = some (.inl (cII, 21, .inr (.inr (.inr (.inr (fun j => if j < 21 then some ((N0 + 36) + j) else none))))))) (h7 : F (N0 + 36) = some (.inl (cI, 21, .inl (fun _ => 0)))) (h8 : F (N0 + 14) = some (.inl (cII, 20, .inr (.inr (.inr (.inr (fun j => if j < 20 then some ((N0 + 15) + j) else none))))))) (h9 : F (N0 + 144) = some (.inl (cC, 20, .inl (upd (fun _ => 0) 0 97)))) (h10 : F (N0 + 146) = some (.inl (cI, 20, .inl (fun _ => 0)))) (h11 : F (N0 + 15) = some (.inl (cI, 20, .inl (fun _ => 0)))) (h12 : F (N0 + 230) = some (.inl (cD, 1, .inr (.inr (.inr (.inl (fun _ => 0))))))) (h13 : F (N0 + 164) = some (.inr (12, [.ref (N0 + 165), .int 0, .ref (N0 + 181), .int 0, .int 0, .int 0, .int (-1), .ref (ql 24), .ref (N0 + 182), .ref (N0 + 187), .ref (N0 + 208), .ref (N0 + 209), .ref (N0 + 210), .ref (N0 + 211), .ref (N0 + 212), .int 0, .ref (N0 + 213), .ref (N0 + 218), .ref (N0 + 223), .ref (N0 + 224), .ref (N0 + 225), .ref (N0 + 226), .ref (N0 + 227), .int 0, .int 0, .ref (N0 + 228), .null, .int (-1), .int 0, .int 0, .int 0]))) (h14 : F (N0 + 165) = some (.inl (cTm, 3, .inr (.inr (.inr (.inr (va_up (va_up (va_up (fun _ => none) 0 (some (N0 + 166))) 1 (some (N0 + 171))) 2 (some (N0 + 176))))))))) (h15 : F (N0 + 166) = some (.inr (11, [.ref (N0 + 167), .ref (N0 + 168), .ref (N0 + 169), .ref (N0 + 170), .int 1]))) (h16 : F (N0 + 167) = some (.inl (cI, 20, .inl (upd (fun _ => 0) 0 97)))) (h17 : F (N0 + 169) = some (.inl (cI, 20, .inl (upd (fun _ => 0) 0 0)))) (h18 : F (N0 + 187) = some (.inl (cII, 20, .inr (.inr (.inr (.inr (fun j => if j < 20 then some ((N0 + 188) + j) else none))))))) (h19 : F (N0 + 188) = some (.inl (cI, 20, .inl (fun _ => 0)))) (hG : fG N0 D vwCl (fty cI cC cL cD cII cTr cTm cIt cB) (fen ql) s F n H locs) (hl : lv_has ls 9 [(0, .ref b), (1, .ref N0), (2, .ref (N0 + 164)), (3, .ref (N0 + 229)), (4, .ref (N0 + 230)), (5, .int 0)]) : W p l e { frames := 2048, cells := 600002, slots := 7302232, locals := 84000 } s m #[.ref b] below meth c H locs 231 4980 (lw_Z below #[.ref b] s) (F0 m 1929 ls []) := by
  have lt_h0 := hG.1.lt h0
  have lt_h1 := hG.1.lt h1
  have lt_h2 := hG.1.lt h2
  have lt_h3 := hG.1.lt h3
  have lt_h4 := hG.1.lt h4
  have lt_h5 := hG.1.lt h5
  have lt_h6 := hG.1.lt h6
  have lt_h7 := hG.1.lt h7
  have lt_h8 := hG.1.lt h8
  have lt_h9 := hG.1.lt h9
  have lt_h10 := hG.1.lt h10
  have lt_h11 := hG.1.lt h11
  have lt_h12 := hG.1.lt h12
  have lt_h13 := hG.1.lt h13
  have lt_h14 := hG.1.lt h14
  have lt_h15 := hG.1.lt h15
  have lt_h16 := hG.1.lt h16
  have lt_h17 := hG.1.lt h17
  have lt_h18 := hG.1.lt h18
  have lt_h19 := hG.1.lt h19
  refine lv_aload_n S.1 S.2.1 dL_law_1929 rfl (lv_at hl 1 rfl) ?_
  refine lv_aload_n S.1 S.2.1 dL_law_1930 rfl (lv_at hl 0 rfl) ?_
  refine lv_iload S.1 S.2.1 dL_law_1931 (lv_at hl 5 rfl) ?_
  refine lv_iconst (v := 1) S.1 S.2.1 dL_law_1933 (by decide) ?_
  refine lv_iadd S.1 S.2.1 dL_law_1934 ?_
  refine fx_topi (y := 1) (by decide) ?_
  refine gx_sld (v := 0) S hG hX hbl (fin_l (by decide)) hx1 dL_law_1935 ?_
  refine lv_aload_n S.1 S.2.1 dL_law_1936 rfl (lv_at hl 0 rfl) ?_
  refine lv_iload S.1 S.2.1 dL_law_1937 (lv_at hl 5 rfl) ?_
  refine lv_iconst (v := 2) S.1 S.2.1 dL_law_1939 (by decide) ?_
  refine lv_iadd S.1 S.2.1 dL_law_1940 ?_
  refine fx_topi (y := 2) (by decide) ?_
  refine gx_sld (v := 0) S hG hX hbl (fin_l (by decide)) hx2 dL_law_1941 ?_
  refine lv_aload S.1 S.2.1 dL_law_1942 (lv_at hl 4 rfl) ?_
  refine fx_cTi (As := [.ref N0, .int 0, .int 0, .ref (N0 + 230)]) (rest := []) S hG (k1378_L_similarity (by omega) h0 h1 h2 h3 h4 h5 h6 h7 h8 h9 h10 h11 h12) (vx_cwSW 4 S.2.2.2.2 gL_law_L_similarity rfl rfl rfl (by decide +kernel) ⟨Nat.le_of_ble_eq_true rfl, Nat.le_of_ble_eq_true rfl⟩) rfl hl.1 rfl (Nat.le_of_ble_eq_true rfl) dL_law_1944 ⟨Nat.le_of_ble_eq_true rfl, Nat.le_of_ble_eq_true rfl⟩ (fun rv_1 _ H locs hp hG => ?_)
  subst rv_1
  refine lv_istore (lv' := [(6, .int 0), (0, .ref b), (1, .ref N0), (2, .ref (N0 + 164)), (3, .ref (N0 + 229)), (4, .ref (N0 + 230)), (5, .int 0)]) S.1 S.2.1 dL_law_1947 hl (by decide) rfl (fun ls hl => ?_)
  refine lv_aload_n S.1 S.2.1 dL_law_1949 rfl (lv_at hl 3 rfl) ?_
  refine lv_aload_n S.1 S.2.1 dL_law_1950 rfl (lv_at hl 1 rfl) ?_
  refine lv_iload S.1 S.2.1 dL_law_1951 (lv_at hl 6 rfl) ?_
  refine lv_iconst (v := 1) S.1 S.2.1 dL_law_1953 (by decide) ?_
  refine lv_iadd S.1 S.2.1 dL_law_1954 ?_
  refine fx_topi (y := 1) (by decide) ?_
  refine gx_sld (v := 0) S hG hX hbl (fin_l (by decide)) hx1 dL_law_1955 ?_
  refine lv_aload_n S.1 S.2.1 dL_law_1956 rfl (lv_at hl 1 rfl) ?_
  refine lv_iload S.1 S.2.1 dL_law_1957 (lv_at hl 6 rfl) ?_
  refine lv_iconst (v := 2) S.1 S.2.1 dL_law_1959 (by decide) ?_
  refine lv_iadd S.1 S.2.1 dL_law_1960 ?_
  refine fx_topi (y := 2) (by decide) ?_
  refine gx_sld (v := 0) S hG hX hbl (fin_l (by decide)) hx2 dL_law_1961 ?_
  refine fx_cVd (As := [.int 0, .int 0]) (rest := []) S hG (k1379_X10_similarity (by omega) (fu_at (by omega) (fu_at (by omega) (fu_at (by omega) (fu_at (by omega) (fu_at (by omega) (fu_at (by omega) h13)))))) (fu_at (by omega) (fu_at (by omega) (fu_at (by omega) (fu_at (by omega) (fu_at (by omega) (fu_at (by omega) h14)))))) (fu_at (by omega) (fu_at (by omega) (fu_at (by omega) (fu_at (by omega) (fu_at (by omega) (fu_at (by omega) h15)))))) (fu_at (by omega) (fu_at (by omega) (fu_at (by omega) (fu_at (by omega) (fu_at (by omega) (fu_at (by omega) h16)))))) (fu_at (by omega) (fu_at (by omega) (fu_at (by omega) (fu_at (by omega) (fu_at (by omega) (fu_at (by omega) h17)))))) (fu_at (by omega) (fu_at (by omega) (fu_at (by omega) (fu_at (by omega) (fu_at (by omega) (fu_at (by omega) h18)))))) (fu_at (by omega) (fu_at (by omega) (fu_at (by omega) (fu_at (by omega) (fu_at (by omega) (fu_at (by omega) h19))))))) (fu_at (by omega) (fu_at (by omega) (fu_at (by omega) (fu_at (by omega) (fu_at (by omega) (fu_at (by omega) h13)))))) rfl (cwV 2 S.2.2.2.2 gL_law_X10_similarity rfl rfl rfl (by decide +kernel) ⟨Nat.le_of_ble_eq_true rfl, Nat.le_of_ble_eq_true rfl⟩) rfl hl.1 rfl (Nat.le_of_ble_eq_true rfl) dL_law_1962 ⟨Nat.le_of_ble_eq_true rfl, Nat.le_of_ble_eq_true rfl⟩ (fun rv_2 _ H locs hp hG => ?_)
  subst rv_2
  refine W.widen (k := 235) (n := 4982) (by decide) (by decide) ?_
  refine lv_dstore (lv' := [(7, .double 4607182418800017408), (6, .int 0), (0, .ref b), (1, .ref N0), (2, .ref (N0 + 164)), (3, .ref (N0 + 229)), (4, .ref (N0 + 230)), (5, .int 0)]) S.1 S.2.1 dL_law_1965 hl (by decide) rfl (fun ls hl => ?_)
  refine lv_aload_n S.1 S.2.1 dL_law_1967 rfl (lv_at hl 4 rfl) ?_
  refine fx_cVi (As := []) (rest := []) S hG (k117_X10_thrown (by omega) (fblk_sk 4 rfl (by omega) (fu_at (by omega) fu_s))) (fblk_sk 4 rfl (by omega) (fu_at (by omega) fu_s)) rfl (cwV 0 S.2.2.2.2 gL_law_X10_thrown rfl rfl rfl (by decide +kernel) ⟨Nat.le_of_ble_eq_true rfl, Nat.le_of_ble_eq_true rfl⟩) rfl hl.1 rfl (Nat.le_of_ble_eq_true rfl) dL_law_1968 ⟨Nat.le_of_ble_eq_true rfl, Nat.le_of_ble_eq_true rfl⟩ (fun rv_3 _ H locs hp hG => ?_)
  subst rv_3
  refine lv_iload S.1 S.2.1 dL_law_1971 (lv_at hl 1 rfl) ?_
  refine lv_icmp_eq (tgt := 1978) S.1 S.2.1 dL_law_1973 (by decide) (fun _ => ?_) (fun c => absurd (by decide) c)
  refine lv_iload S.1 S.2.1 dL_law_1978 (lv_at hl 1 rfl) ?_
  refine lv_if_ne (tgt := 2015) S.1 S.2.1 dL_law_1980 (by decide) (fun c => absurd (by decide) c) (fun _ => ?_)
  refine lv_aload S.1 S.2.1 dL_law_1983 (lv_at hl 6 rfl) ?_
  refine lv_iconst (v := 0) S.1 S.2.1 dL_law_1985 (by decide) ?_
  refine gx_dald (v := 4607182418800017408) S hG 3 (fblk_sk 4 rfl (by omega) (fu_at (by omega) (fu_at (by omega) fu_s))) rfl (fin_l (by decide)) rfl dL_law_1986 ?_
  refine lv_dload S.1 S.2.1 dL_law_1987 (lv_at hl 0 rfl) ?_
  refine gx_dcmp (v := 0) S (by decide +kernel) dL_law_1989 ?_
  refine lv_if_eq (tgt := 2015) S.1 S.2.1 dL_law_1990 (by decide) (fun _ => ?_) (fun c => absurd (by decide) c)
  refine lv_goto (tgt := 2650) S.1 S.2.1 dL_law_2015 (by decide) ?_
  refine lv_iinc (v := 5) (lv' := [(5, .int 5), (7, .double 4607182418800017408), (6, .int 0), (0, .ref b), (1, .ref N0), (2, .ref (N0 + 164)), (3, .ref (N0 + 229)), (4, .ref (N0 + 230))]) S.1 S.2.1 dL_law_2650 hl (k := 7) rfl (by decide) (by decide) rfl (fun ls hl => ?_)
  refine lv_goto (tgt := 28) S.1 S.2.1 dL_law_2653 (by decide) ?_
  refine lv_iload S.1 S.2.1 dL_law_28 (lv_at hl 0 rfl) ?_
  refine lv_aload_n S.1 S.2.1 dL_law_30 rfl (lv_at hl 3 rfl) ?_
  refine gx_slen (v := 5) S hG hX hbl rfl dL_law_31 ?_
  refine lv_iconst (v := 5) S.1 S.2.1 dL_law_32 (by decide) ?_
  refine lv_isub S.1 S.2.1 dL_law_33 ?_
  refine fx_topi (y := 0) (by decide) ?_
  refine lv_icmp_gt (tgt := 2656) S.1 S.2.1 dL_law_34 (by decide) (fun _ => ?_) (fun c => absurd (by decide) c)
  refine lv_iconst (v := 1) S.1 S.2.1 dL_law_2656 (by decide) ?_
  refine va_forget (fun q hq => by rw [hN]; exact hG.2.1.2.2 q hq) ?_
  refine W.widen (k := 600002) (n := 7302232) (by decide) (by decide) ?_
  exact lw_ret (d0 := s.drawn) (Drawn.sameBut.refl _ _) S.1 S.2.1 hr hlocks dL_law_2657
theorem l25_3 {p : Program} {e : Env} {s : State} {m : MethodId} {below : List Frame} {meth : Method} {c : Code} {b : Nat} {xs : Nat → Int32} {H : Heap} {locs : List Loc} {ls : Array Slot} {n : Nat} {a3 a4 : Int32} (S : CallFix p m c cL_law 9 s #[.ref b] wsL_law "TreeDifferLaw") (hr : meth.sig.returnType = ret) (hlocks : meth.locks = false) (hst : l.stackTraces = false) (hX : va_X b 5 xs s s.heap) (hbl : b < s.heap.size ∧ b < N0) (hN : s.heap.size = N0) (hn : N0 + 231 ≤ n) (hx1 : xs 1 = 0) (hx2 : xs 2 = 1) (hx3 : xs 3 = a3) (hx4 : xs 4 = a4) (h0 : F N0 = some (.inr (9, [.ref (N0 + 1), .ref (N0 + 2), .ref (N0 + 11), .ref (N0 + 13), .ref (N0 + 63), .ref (N0 + 65), .ref (N0 + 85), .int (-1), .int (-1), .int 32]))) (h1 : F (N0 + 1) = some (.inl (cTr, 3, .inr (.inr (.inr (.inr (va_up (va_up (va_up (fun _ => none) 0 (some (N0 + 143))) 1 (some (N0 + 150))) 2 (some (N0 + 157))))))))) (h2 : F (N0 + 13) = some (.inr (3, [.ref (N0 + 14), .ref (N0 + 35), .ref (N0 + 57), .ref (N0 + 58), .ref (N0 + 59), .ref (N0 + 60), .int 0, .int 0, .ref (N0 + 61), .ref (N0 + 62)]))) (h3 : F (N0 + 143) = some (.inr (7, [.ref (N0 + 144), .ref (N0 + 145), .ref (N0 + 146), .ref (N0 + 147), .ref (N0 + 148), .ref (N0 + 149), .int 1]))) (h4 : F (N0 + 57) = some (.inl (cI, 20, .inl (fun _ => 0)))) (h5 : F (N0 + 150) = some (.inr (7, [.ref (N0 + 151), .ref (N0 + 152), .ref (N0 + 153), .ref (N0 + 154), .ref (N0 + 155), .ref (N0 + 156), .int 1]))) (h6 : F (N0 + 58) = some (.inl (cI, 20, .inl (fun _ => 0)))) (h7 : F (N0 + 35) = some (.inl (cII, 21, .inr (.inr (.inr (.inr (fun j => if j < 21 then some ((N0 + 36) + j) else none))))))) (h8 : F (N0 + 36) = some (.inl (cI, 21, .inl (fun _ => 0)))) (h9 : F (N0 + 14) = some (.inl (cII, 20, .inr (.inr (.inr (.inr (fun j => if j < 20 then some ((N0 + 15) + j) else none))))))) (h10 : F (N0 + 144) = some (.inl (cC, 20, .inl (upd (fun _ => 0) 0 97)))) (h11 : F (N0 + 151) = some (.inl (cC, 20, .inl (upd (fun _ => 0) 0 97)))) (h12 : F (N0 + 146) = some (.inl (cI, 20, .inl (fun _ => 0)))) (h13 : F (N0 + 153) = some (.inl (cI, 20, .inl (fun _ => 0)))) (h14 : F (N0 + 15) = some (.inl (cI, 20, .inl (fun _ => 0)))) (h15 : F (N0 + 230) = some (.inl (cD, 1, .inr (.inr (.inr (.inl (fun _ => 0))))))) (h16 : F (N0 + 164) = some (.inr (12, [.ref (N0 + 165), .int 0, .ref (N0 + 181), .int 0, .int 0, .int 0, .int (-1), .ref (ql 24), .ref (N0 + 182), .ref (N0 + 187), .ref (N0 + 208), .ref (N0 + 209), .ref (N0 + 210), .ref (N0 + 211), .ref (N0 + 212), .int 0, .ref (N0 + 213), .ref (N0 + 218), .ref (N0 + 223), .ref (N0 + 224), .ref (N0 + 225), .ref (N0 + 226), .ref (N0 + 227), .int 0, .int 0, .ref (N0 + 228), .null, .int (-1), .int 0, .int 0, .int 0]))) (h17 : F (N0 + 165) = some (.inl (cTm, 3, .inr (.inr (.inr (.inr (va_up (va_up (va_up (fun _ => none) 0 (some (N0 + 166))) 1 (some (N0 + 171))) 2 (some (N0 + 176))))))))) (h18 : F (N0 + 166) = some (.inr (11, [.ref (N0 + 167), .ref (N0 + 168), .ref (N0 + 169), .ref (N0 + 170), .int 1]))) (h19 : F (N0 + 171) = some (.inr (11, [.ref (N0 + 172), .ref (N0 + 173), .ref (N0 + 174), .ref (N0 + 175), .int 1]))) (h20 : F (N0 + 167) = some (.inl (cI, 20, .inl (upd (fun _ => 0) 0 97)))) (h21 : F (N0 + 172) = some (.inl (cI, 20, .inl (upd (fun _ => 0) 0 97)))) (h22 : F (N0 + 169) = some (.inl (cI, 20, .inl (upd (fun _ => 0) 0 0)))) (h23 : F (N0 + 174) = some (.inl (cI, 20, .inl (upd (fun _ => 0) 0 0)))) (h24 : F (N0 + 187) = some (.inl (cII, 20, .inr (.inr (.inr (.inr (fun j => if j < 20 then some ((N0 + 188) + j) else none))))))) (h25 : F (N0 + 188) = some (.inl (cI, 20, .inl (fun _ => 0)))) (hG : fG N0 D vwCl (fty cI cC cL cD cII cTr cTm cIt cB) (fen ql) s F n H locs) (hl : lv_has ls 9 [(0, .ref b), (1, .ref N0), (2, .ref (N0 + 164)), (3, .ref (N0 + 229)), (4, .ref (N0 + 230)), (5, .int 0)]) : W p l e { frames := 2048, cells := 600002, slots := 7302232, locals := 84000 } s m #[.ref b] below meth c H locs 231 4980 (lw_Z below #[.ref b] s) (F0 m 1929 ls []) := by
  have lt_h0 := hG.1.lt h0
  have lt_h1 := hG.1.lt h1
  have lt_h2 := hG.1.lt h2
  have lt_h3 := hG.1.lt h3
  have lt_h4 := hG.1.lt h4
  have lt_h5 := hG.1.lt h5
  have lt_h6 := hG.1.lt h6
  have lt_h7 := hG.1.lt h7
  have lt_h8 := hG.1.lt h8
  have lt_h9 := hG.1.lt h9
  have lt_h10 := hG.1.lt h10
  have lt_h11 := hG.1.lt h11
  have lt_h12 := hG.1.lt h12
  have lt_h13 := hG.1.lt h13
  have lt_h14 := hG.1.lt h14
  have lt_h15 := hG.1.lt h15
  have lt_h16 := hG.1.lt h16
  have lt_h17 := hG.1.lt h17
  have lt_h18 := hG.1.lt h18
  have lt_h19 := hG.1.lt h19
  have lt_h20 := hG.1.lt h20
  have lt_h21 := hG.1.lt h21
  have lt_h22 := hG.1.lt h22
  have lt_h23 := hG.1.lt h23
  have lt_h24 := hG.1.lt h24
  have lt_h25 := hG.1.lt h25
  refine lv_aload_n S.1 S.2.1 dL_law_1929 rfl (lv_at hl 1 rfl) ?_
  refine lv_aload_n S.1 S.2.1 dL_law_1930 rfl (lv_at hl 0 rfl) ?_
  refine lv_iload S.1 S.2.1 dL_law_1931 (lv_at hl 5 rfl) ?_
  refine lv_iconst (v := 1) S.1 S.2.1 dL_law_1933 (by decide) ?_
  refine lv_iadd S.1 S.2.1 dL_law_1934 ?_
  refine fx_topi (y := 1) (by decide) ?_
  refine gx_sld (v := 0) S hG hX hbl (fin_l (by decide)) hx1 dL_law_1935 ?_
  refine lv_aload_n S.1 S.2.1 dL_law_1936 rfl (lv_at hl 0 rfl) ?_
  refine lv_iload S.1 S.2.1 dL_law_1937 (lv_at hl 5 rfl) ?_
  refine lv_iconst (v := 2) S.1 S.2.1 dL_law_1939 (by decide) ?_
  refine lv_iadd S.1 S.2.1 dL_law_1940 ?_
  refine fx_topi (y := 2) (by decide) ?_
  refine gx_sld (v := 1) S hG hX hbl (fin_l (by decide)) hx2 dL_law_1941 ?_
  refine lv_aload S.1 S.2.1 dL_law_1942 (lv_at hl 4 rfl) ?_
  refine fx_cTi (As := [.ref N0, .int 0, .int 1, .ref (N0 + 230)]) (rest := []) S hG (k1381_L_similarity (by omega) h0 h1 h2 h3 h4 h5 h6 h7 h8 h9 h10 h11 h12 h13 h14 h15) (vx_cwSW 4 S.2.2.2.2 gL_law_L_similarity rfl rfl rfl (by decide +kernel) ⟨Nat.le_of_ble_eq_true rfl, Nat.le_of_ble_eq_true rfl⟩) rfl hl.1 rfl (Nat.le_of_ble_eq_true rfl) dL_law_1944 ⟨Nat.le_of_ble_eq_true rfl, Nat.le_of_ble_eq_true rfl⟩ (fun rv_1 _ H locs hp hG => ?_)
  subst rv_1
  refine lv_istore (lv' := [(6, .int 0), (0, .ref b), (1, .ref N0), (2, .ref (N0 + 164)), (3, .ref (N0 + 229)), (4, .ref (N0 + 230)), (5, .int 0)]) S.1 S.2.1 dL_law_1947 hl (by decide) rfl (fun ls hl => ?_)
  refine lv_aload_n S.1 S.2.1 dL_law_1949 rfl (lv_at hl 3 rfl) ?_
  refine lv_aload_n S.1 S.2.1 dL_law_1950 rfl (lv_at hl 1 rfl) ?_
  refine lv_iload S.1 S.2.1 dL_law_1951 (lv_at hl 6 rfl) ?_
  refine lv_iconst (v := 1) S.1 S.2.1 dL_law_1953 (by decide) ?_
  refine lv_iadd S.1 S.2.1 dL_law_1954 ?_
  refine fx_topi (y := 1) (by decide) ?_
  refine gx_sld (v := 0) S hG hX hbl (fin_l (by decide)) hx1 dL_law_1955 ?_
  refine lv_aload_n S.1 S.2.1 dL_law_1956 rfl (lv_at hl 1 rfl) ?_
  refine lv_iload S.1 S.2.1 dL_law_1957 (lv_at hl 6 rfl) ?_
  refine lv_iconst (v := 2) S.1 S.2.1 dL_law_1959 (by decide) ?_
  refine lv_iadd S.1 S.2.1 dL_law_1960 ?_
  refine fx_topi (y := 2) (by decide) ?_
  refine gx_sld (v := 1) S hG hX hbl (fin_l (by decide)) hx2 dL_law_1961 ?_
  refine fx_cVd (As := [.int 0, .int 1]) (rest := []) S hG (k1382_X10_similarity (by omega) (fu_at (by omega) (fu_at (by omega) (fu_at (by omega) (fu_at (by omega) (fu_at (by omega) (fu_at (by omega) h16)))))) (fu_at (by omega) (fu_at (by omega) (fu_at (by omega) (fu_at (by omega) (fu_at (by omega) (fu_at (by omega) h17)))))) (fu_at (by omega) (fu_at (by omega) (fu_at (by omega) (fu_at (by omega) (fu_at (by omega) (fu_at (by omega) h18)))))) (fu_at (by omega) (fu_at (by omega) (fu_at (by omega) (fu_at (by omega) (fu_at (by omega) (fu_at (by omega) h19)))))) (fu_at (by omega) (fu_at (by omega) (fu_at (by omega) (fu_at (by omega) (fu_at (by omega) (fu_at (by omega) h20)))))) (fu_at (by omega) (fu_at (by omega) (fu_at (by omega) (fu_at (by omega) (fu_at (by omega) (fu_at (by omega) h21)))))) (fu_at (by omega) (fu_at (by omega) (fu_at (by omega) (fu_at (by omega) (fu_at (by omega) (fu_at (by omega) h22)))))) (fu_at (by omega) (fu_at (by omega) (fu_at (by omega) (fu_at (by omega) (fu_at (by omega) (fu_at (by omega) h23)))))) (fu_at (by omega) (fu_at (by omega) (fu_at (by omega) (fu_at (by omega) (fu_at (by omega) (fu_at (by omega) h24)))))) (fu_at (by omega) (fu_at (by omega) (fu_at (by omega) (fu_at (by omega) (fu_at (by omega) (fu_at (by omega) h25))))))) (fu_at (by omega) (fu_at (by omega) (fu_at (by omega) (fu_at (by omega) (fu_at (by omega) (fu_at (by omega) h16)))))) rfl (cwV 2 S.2.2.2.2 gL_law_X10_similarity rfl rfl rfl (by decide +kernel) ⟨Nat.le_of_ble_eq_true rfl, Nat.le_of_ble_eq_true rfl⟩) rfl hl.1 rfl (Nat.le_of_ble_eq_true rfl) dL_law_1962 ⟨Nat.le_of_ble_eq_true rfl, Nat.le_of_ble_eq_true rfl⟩ (fun rv_2 _ H locs hp hG => ?_)
  subst rv_2
  refine W.widen (k := 235) (n := 4982) (by decide) (by decide) ?_
  refine lv_dstore (lv' := [(7, .double 4607182418800017408), (6, .int 0), (0, .ref b), (1, .ref N0), (2, .ref (N0 + 164)), (3, .ref (N0 + 229)), (4, .ref (N0 + 230)), (5, .int 0)]) S.1 S.2.1 dL_law_1965 hl (by decide) rfl (fun ls hl => ?_)
  refine lv_aload_n S.1 S.2.1 dL_law_1967 rfl (lv_at hl 4 rfl) ?_
  refine fx_cVi (As := []) (rest := []) S hG (k117_X10_thrown (by omega) (fblk_sk 4 rfl (by omega) (fu_at (by omega) fu_s))) (fblk_sk 4 rfl (by omega) (fu_at (by omega) fu_s)) rfl (cwV 0 S.2.2.2.2 gL_law_X10_thrown rfl rfl rfl (by decide +kernel) ⟨Nat.le_of_ble_eq_true rfl, Nat.le_of_ble_eq_true rfl⟩) rfl hl.1 rfl (Nat.le_of_ble_eq_true rfl) dL_law_1968 ⟨Nat.le_of_ble_eq_true rfl, Nat.le_of_ble_eq_true rfl⟩ (fun rv_3 _ H locs hp hG => ?_)
  subst rv_3
  refine lv_iload S.1 S.2.1 dL_law_1971 (lv_at hl 1 rfl) ?_
  refine lv_icmp_eq (tgt := 1978) S.1 S.2.1 dL_law_1973 (by decide) (fun _ => ?_) (fun c => absurd (by decide) c)
  refine lv_iload S.1 S.2.1 dL_law_1978 (lv_at hl 1 rfl) ?_
  refine lv_if_ne (tgt := 2015) S.1 S.2.1 dL_law_1980 (by decide) (fun c => absurd (by decide) c) (fun _ => ?_)
  refine lv_aload S.1 S.2.1 dL_law_1983 (lv_at hl 6 rfl) ?_
  refine lv_iconst (v := 0) S.1 S.2.1 dL_law_1985 (by decide) ?_
  refine gx_dald (v := 4607182418800017408) S hG 3 (fblk_sk 4 rfl (by omega) (fu_at (by omega) (fu_at (by omega) fu_s))) rfl (fin_l (by decide)) rfl dL_law_1986 ?_
  refine lv_dload S.1 S.2.1 dL_law_1987 (lv_at hl 0 rfl) ?_
  refine gx_dcmp (v := 0) S (by decide +kernel) dL_law_1989 ?_
  refine lv_if_eq (tgt := 2015) S.1 S.2.1 dL_law_1990 (by decide) (fun _ => ?_) (fun c => absurd (by decide) c)
  refine lv_goto (tgt := 2650) S.1 S.2.1 dL_law_2015 (by decide) ?_
  refine lv_iinc (v := 5) (lv' := [(5, .int 5), (7, .double 4607182418800017408), (6, .int 0), (0, .ref b), (1, .ref N0), (2, .ref (N0 + 164)), (3, .ref (N0 + 229)), (4, .ref (N0 + 230))]) S.1 S.2.1 dL_law_2650 hl (k := 7) rfl (by decide) (by decide) rfl (fun ls hl => ?_)
  refine lv_goto (tgt := 28) S.1 S.2.1 dL_law_2653 (by decide) ?_
  refine lv_iload S.1 S.2.1 dL_law_28 (lv_at hl 0 rfl) ?_
  refine lv_aload_n S.1 S.2.1 dL_law_30 rfl (lv_at hl 3 rfl) ?_
  refine gx_slen (v := 5) S hG hX hbl rfl dL_law_31 ?_
  refine lv_iconst (v := 5) S.1 S.2.1 dL_law_32 (by decide) ?_
  refine lv_isub S.1 S.2.1 dL_law_33 ?_
  refine fx_topi (y := 0) (by decide) ?_
  refine lv_icmp_gt (tgt := 2656) S.1 S.2.1 dL_law_34 (by decide) (fun _ => ?_) (fun c => absurd (by decide) c)
  refine lv_iconst (v := 1) S.1 S.2.1 dL_law_2656 (by decide) ?_
  refine va_forget (fun q hq => by rw [hN]; exact hG.2.1.2.2 q hq) ?_
  refine W.widen (k := 600002) (n := 7302232) (by decide) (by decide) ?_
  exact lw_ret (d0 := s.drawn) (Drawn.sameBut.refl _ _) S.1 S.2.1 hr hlocks dL_law_2657
theorem l25_4 {p : Program} {e : Env} {s : State} {m : MethodId} {below : List Frame} {meth : Method} {c : Code} {b : Nat} {xs : Nat → Int32} {H : Heap} {locs : List Loc} {ls : Array Slot} {n : Nat} {a3 a4 : Int32} (S : CallFix p m c cL_law 9 s #[.ref b] wsL_law "TreeDifferLaw") (hr : meth.sig.returnType = ret) (hlocks : meth.locks = false) (hst : l.stackTraces = false) (hX : va_X b 5 xs s s.heap) (hbl : b < s.heap.size ∧ b < N0) (hN : s.heap.size = N0) (hn : N0 + 231 ≤ n) (hx1 : xs 1 = 0) (hx2 : xs 2 = 2) (hx3 : xs 3 = a3) (hx4 : xs 4 = a4) (h0 : F N0 = some (.inr (9, [.ref (N0 + 1), .ref (N0 + 2), .ref (N0 + 11), .ref (N0 + 13), .ref (N0 + 63), .ref (N0 + 65), .ref (N0 + 85), .int (-1), .int (-1), .int 32]))) (h1 : F (N0 + 1) = some (.inl (cTr, 3, .inr (.inr (.inr (.inr (va_up (va_up (va_up (fun _ => none) 0 (some (N0 + 143))) 1 (some (N0 + 150))) 2 (some (N0 + 157))))))))) (h2 : F (N0 + 13) = some (.inr (3, [.ref (N0 + 14), .ref (N0 + 35), .ref (N0 + 57), .ref (N0 + 58), .ref (N0 + 59), .ref (N0 + 60), .int 0, .int 0, .ref (N0 + 61), .ref (N0 + 62)]))) (h3 : F (N0 + 143) = some (.inr (7, [.ref (N0 + 144), .ref (N0 + 145), .ref (N0 + 146), .ref (N0 + 147), .ref (N0 + 148), .ref (N0 + 149), .int 1]))) (h4 : F (N0 + 57) = some (.inl (cI, 20, .inl (fun _ => 0)))) (h5 : F (N0 + 157) = some (.inr (7, [.ref (N0 + 158), .ref (N0 + 159), .ref (N0 + 160), .ref (N0 + 161), .ref (N0 + 162), .ref (N0 + 163), .int 1]))) (h6 : F (N0 + 58) = some (.inl (cI, 20, .inl (fun _ => 0)))) (h7 : F (N0 + 35) = some (.inl (cII, 21, .inr (.inr (.inr (.inr (fun j => if j < 21 then some ((N0 + 36) + j) else none))))))) (h8 : F (N0 + 36) = some (.inl (cI, 21, .inl (fun _ => 0)))) (h9 : F (N0 + 14) = some (.inl (cII, 20, .inr (.inr (.inr (.inr (fun j => if j < 20 then some ((N0 + 15) + j) else none))))))) (h10 : F (N0 + 144) = some (.inl (cC, 20, .inl (upd (fun _ => 0) 0 97)))) (h11 : F (N0 + 158) = some (.inl (cC, 20, .inl (upd (fun _ => 0) 0 97)))) (h12 : F (N0 + 146) = some (.inl (cI, 20, .inl (fun _ => 0)))) (h13 : F (N0 + 160) = some (.inl (cI, 20, .inl (fun _ => 0)))) (h14 : F (N0 + 15) = some (.inl (cI, 20, .inl (fun _ => 0)))) (h15 : F (N0 + 230) = some (.inl (cD, 1, .inr (.inr (.inr (.inl (fun _ => 0))))))) (h16 : F (N0 + 164) = some (.inr (12, [.ref (N0 + 165), .int 0, .ref (N0 + 181), .int 0, .int 0, .int 0, .int (-1), .ref (ql 24), .ref (N0 + 182), .ref (N0 + 187), .ref (N0 + 208), .ref (N0 + 209), .ref (N0 + 210), .ref (N0 + 211), .ref (N0 + 212), .int 0, .ref (N0 + 213), .ref (N0 + 218), .ref (N0 + 223), .ref (N0 + 224), .ref (N0 + 225), .ref (N0 + 226), .ref (N0 + 227), .int 0, .int 0, .ref (N0 + 228), .null, .int (-1), .int 0, .int 0, .int 0]))) (h17 : F (N0 + 165) = some (.inl (cTm, 3, .inr (.inr (.inr (.inr (va_up (va_up (va_up (fun _ => none) 0 (some (N0 + 166))) 1 (some (N0 + 171))) 2 (some (N0 + 176))))))))) (h18 : F (N0 + 166) = some (.inr (11, [.ref (N0 + 167), .ref (N0 + 168), .ref (N0 + 169), .ref (N0 + 170), .int 1]))) (h19 : F (N0 + 176) = some (.inr (11, [.ref (N0 + 177), .ref (N0 + 178), .ref (N0 + 179), .ref (N0 + 180), .int 1]))) (h20 : F (N0 + 167) = some (.inl (cI, 20, .inl (upd (fun _ => 0) 0 97)))) (h21 : F (N0 + 177) = some (.inl (cI, 20, .inl (upd (fun _ => 0) 0 97)))) (h22 : F (N0 + 169) = some (.inl (cI, 20, .inl (upd (fun _ => 0) 0 0)))) (h23 : F (N0 + 179) = some (.inl (cI, 20, .inl (upd (fun _ => 0) 0 0)))) (h24 : F (N0 + 187) = some (.inl (cII, 20, .inr (.inr (.inr (.inr (fun j => if j < 20 then some ((N0 + 188) + j) else none))))))) (h25 : F (N0 + 188) = some (.inl (cI, 20, .inl (fun _ => 0)))) (hG : fG N0 D vwCl (fty cI cC cL cD cII cTr cTm cIt cB) (fen ql) s F n H locs) (hl : lv_has ls 9 [(0, .ref b), (1, .ref N0), (2, .ref (N0 + 164)), (3, .ref (N0 + 229)), (4, .ref (N0 + 230)), (5, .int 0)]) : W p l e { frames := 2048, cells := 600002, slots := 7302232, locals := 84000 } s m #[.ref b] below meth c H locs 231 4980 (lw_Z below #[.ref b] s) (F0 m 1929 ls []) := by
  have lt_h0 := hG.1.lt h0
  have lt_h1 := hG.1.lt h1
  have lt_h2 := hG.1.lt h2
  have lt_h3 := hG.1.lt h3
  have lt_h4 := hG.1.lt h4
  have lt_h5 := hG.1.lt h5
  have lt_h6 := hG.1.lt h6
  have lt_h7 := hG.1.lt h7
  have lt_h8 := hG.1.lt h8
  have lt_h9 := hG.1.lt h9
  have lt_h10 := hG.1.lt h10
  have lt_h11 := hG.1.lt h11
  have lt_h12 := hG.1.lt h12
  have lt_h13 := hG.1.lt h13
  have lt_h14 := hG.1.lt h14
  have lt_h15 := hG.1.lt h15
  have lt_h16 := hG.1.lt h16
  have lt_h17 := hG.1.lt h17
  have lt_h18 := hG.1.lt h18
  have lt_h19 := hG.1.lt h19
  have lt_h20 := hG.1.lt h20
  have lt_h21 := hG.1.lt h21
  have lt_h22 := hG.1.lt h22
  have lt_h23 := hG.1.lt h23
  have lt_h24 := hG.1.lt h24
  have lt_h25 := hG.1.lt h25
  refine lv_aload_n S.1 S.2.1 dL_law_1929 rfl (lv_at hl 1 rfl) ?_
  refine lv_aload_n S.1 S.2.1 dL_law_1930 rfl (lv_at hl 0 rfl) ?_
  refine lv_iload S.1 S.2.1 dL_law_1931 (lv_at hl 5 rfl) ?_
  refine lv_iconst (v := 1) S.1 S.2.1 dL_law_1933 (by decide) ?_
  refine lv_iadd S.1 S.2.1 dL_law_1934 ?_
  refine fx_topi (y := 1) (by decide) ?_
  refine gx_sld (v := 0) S hG hX hbl (fin_l (by decide)) hx1 dL_law_1935 ?_
  refine lv_aload_n S.1 S.2.1 dL_law_1936 rfl (lv_at hl 0 rfl) ?_
  refine lv_iload S.1 S.2.1 dL_law_1937 (lv_at hl 5 rfl) ?_
  refine lv_iconst (v := 2) S.1 S.2.1 dL_law_1939 (by decide) ?_
  refine lv_iadd S.1 S.2.1 dL_law_1940 ?_
  refine fx_topi (y := 2) (by decide) ?_
  refine gx_sld (v := 2) S hG hX hbl (fin_l (by decide)) hx2 dL_law_1941 ?_
  refine lv_aload S.1 S.2.1 dL_law_1942 (lv_at hl 4 rfl) ?_
  refine fx_cTi (As := [.ref N0, .int 0, .int 2, .ref (N0 + 230)]) (rest := []) S hG (k1384_L_similarity (by omega) h0 h1 h2 h3 h4 h5 h6 h7 h8 h9 h10 h11 h12 h13 h14 h15) (vx_cwSW 4 S.2.2.2.2 gL_law_L_similarity rfl rfl rfl (by decide +kernel) ⟨Nat.le_of_ble_eq_true rfl, Nat.le_of_ble_eq_true rfl⟩) rfl hl.1 rfl (Nat.le_of_ble_eq_true rfl) dL_law_1944 ⟨Nat.le_of_ble_eq_true rfl, Nat.le_of_ble_eq_true rfl⟩ (fun rv_1 _ H locs hp hG => ?_)
  subst rv_1
  refine lv_istore (lv' := [(6, .int 0), (0, .ref b), (1, .ref N0), (2, .ref (N0 + 164)), (3, .ref (N0 + 229)), (4, .ref (N0 + 230)), (5, .int 0)]) S.1 S.2.1 dL_law_1947 hl (by decide) rfl (fun ls hl => ?_)
  refine lv_aload_n S.1 S.2.1 dL_law_1949 rfl (lv_at hl 3 rfl) ?_
  refine lv_aload_n S.1 S.2.1 dL_law_1950 rfl (lv_at hl 1 rfl) ?_
  refine lv_iload S.1 S.2.1 dL_law_1951 (lv_at hl 6 rfl) ?_
  refine lv_iconst (v := 1) S.1 S.2.1 dL_law_1953 (by decide) ?_
  refine lv_iadd S.1 S.2.1 dL_law_1954 ?_
  refine fx_topi (y := 1) (by decide) ?_
  refine gx_sld (v := 0) S hG hX hbl (fin_l (by decide)) hx1 dL_law_1955 ?_
  refine lv_aload_n S.1 S.2.1 dL_law_1956 rfl (lv_at hl 1 rfl) ?_
  refine lv_iload S.1 S.2.1 dL_law_1957 (lv_at hl 6 rfl) ?_
  refine lv_iconst (v := 2) S.1 S.2.1 dL_law_1959 (by decide) ?_
  refine lv_iadd S.1 S.2.1 dL_law_1960 ?_
  refine fx_topi (y := 2) (by decide) ?_
  refine gx_sld (v := 2) S hG hX hbl (fin_l (by decide)) hx2 dL_law_1961 ?_
  refine fx_cVd (As := [.int 0, .int 2]) (rest := []) S hG (k1385_X10_similarity (by omega) (fu_at (by omega) (fu_at (by omega) (fu_at (by omega) (fu_at (by omega) (fu_at (by omega) (fu_at (by omega) h16)))))) (fu_at (by omega) (fu_at (by omega) (fu_at (by omega) (fu_at (by omega) (fu_at (by omega) (fu_at (by omega) h17)))))) (fu_at (by omega) (fu_at (by omega) (fu_at (by omega) (fu_at (by omega) (fu_at (by omega) (fu_at (by omega) h18)))))) (fu_at (by omega) (fu_at (by omega) (fu_at (by omega) (fu_at (by omega) (fu_at (by omega) (fu_at (by omega) h19)))))) (fu_at (by omega) (fu_at (by omega) (fu_at (by omega) (fu_at (by omega) (fu_at (by omega) (fu_at (by omega) h20)))))) (fu_at (by omega) (fu_at (by omega) (fu_at (by omega) (fu_at (by omega) (fu_at (by omega) (fu_at (by omega) h21)))))) (fu_at (by omega) (fu_at (by omega) (fu_at (by omega) (fu_at (by omega) (fu_at (by omega) (fu_at (by omega) h22)))))) (fu_at (by omega) (fu_at (by omega) (fu_at (by omega) (fu_at (by omega) (fu_at (by omega) (fu_at (by omega) h23)))))) (fu_at (by omega) (fu_at (by omega) (fu_at (by omega) (fu_at (by omega) (fu_at (by omega) (fu_at (by omega) h24)))))) (fu_at (by omega) (fu_at (by omega) (fu_at (by omega) (fu_at (by omega) (fu_at (by omega) (fu_at (by omega) h25))))))) (fu_at (by omega) (fu_at (by omega) (fu_at (by omega) (fu_at (by omega) (fu_at (by omega) (fu_at (by omega) h16)))))) rfl (cwV 2 S.2.2.2.2 gL_law_X10_similarity rfl rfl rfl (by decide +kernel) ⟨Nat.le_of_ble_eq_true rfl, Nat.le_of_ble_eq_true rfl⟩) rfl hl.1 rfl (Nat.le_of_ble_eq_true rfl) dL_law_1962 ⟨Nat.le_of_ble_eq_true rfl, Nat.le_of_ble_eq_true rfl⟩ (fun rv_2 _ H locs hp hG => ?_)
  subst rv_2
  refine W.widen (k := 235) (n := 4982) (by decide) (by decide) ?_
  refine lv_dstore (lv' := [(7, .double 4607182418800017408), (6, .int 0), (0, .ref b), (1, .ref N0), (2, .ref (N0 + 164)), (3, .ref (N0 + 229)), (4, .ref (N0 + 230)), (5, .int 0)]) S.1 S.2.1 dL_law_1965 hl (by decide) rfl (fun ls hl => ?_)
  refine lv_aload_n S.1 S.2.1 dL_law_1967 rfl (lv_at hl 4 rfl) ?_
  refine fx_cVi (As := []) (rest := []) S hG (k117_X10_thrown (by omega) (fblk_sk 4 rfl (by omega) (fu_at (by omega) fu_s))) (fblk_sk 4 rfl (by omega) (fu_at (by omega) fu_s)) rfl (cwV 0 S.2.2.2.2 gL_law_X10_thrown rfl rfl rfl (by decide +kernel) ⟨Nat.le_of_ble_eq_true rfl, Nat.le_of_ble_eq_true rfl⟩) rfl hl.1 rfl (Nat.le_of_ble_eq_true rfl) dL_law_1968 ⟨Nat.le_of_ble_eq_true rfl, Nat.le_of_ble_eq_true rfl⟩ (fun rv_3 _ H locs hp hG => ?_)
  subst rv_3
  refine lv_iload S.1 S.2.1 dL_law_1971 (lv_at hl 1 rfl) ?_
  refine lv_icmp_eq (tgt := 1978) S.1 S.2.1 dL_law_1973 (by decide) (fun _ => ?_) (fun c => absurd (by decide) c)
  refine lv_iload S.1 S.2.1 dL_law_1978 (lv_at hl 1 rfl) ?_
  refine lv_if_ne (tgt := 2015) S.1 S.2.1 dL_law_1980 (by decide) (fun c => absurd (by decide) c) (fun _ => ?_)
  refine lv_aload S.1 S.2.1 dL_law_1983 (lv_at hl 6 rfl) ?_
  refine lv_iconst (v := 0) S.1 S.2.1 dL_law_1985 (by decide) ?_
  refine gx_dald (v := 4607182418800017408) S hG 3 (fblk_sk 4 rfl (by omega) (fu_at (by omega) (fu_at (by omega) fu_s))) rfl (fin_l (by decide)) rfl dL_law_1986 ?_
  refine lv_dload S.1 S.2.1 dL_law_1987 (lv_at hl 0 rfl) ?_
  refine gx_dcmp (v := 0) S (by decide +kernel) dL_law_1989 ?_
  refine lv_if_eq (tgt := 2015) S.1 S.2.1 dL_law_1990 (by decide) (fun _ => ?_) (fun c => absurd (by decide) c)
  refine lv_goto (tgt := 2650) S.1 S.2.1 dL_law_2015 (by decide) ?_
  refine lv_iinc (v := 5) (lv' := [(5, .int 5), (7, .double 4607182418800017408), (6, .int 0), (0, .ref b), (1, .ref N0), (2, .ref (N0 + 164)), (3, .ref (N0 + 229)), (4, .ref (N0 + 230))]) S.1 S.2.1 dL_law_2650 hl (k := 7) rfl (by decide) (by decide) rfl (fun ls hl => ?_)
  refine lv_goto (tgt := 28) S.1 S.2.1 dL_law_2653 (by decide) ?_
  refine lv_iload S.1 S.2.1 dL_law_28 (lv_at hl 0 rfl) ?_
  refine lv_aload_n S.1 S.2.1 dL_law_30 rfl (lv_at hl 3 rfl) ?_
  refine gx_slen (v := 5) S hG hX hbl rfl dL_law_31 ?_
  refine lv_iconst (v := 5) S.1 S.2.1 dL_law_32 (by decide) ?_
  refine lv_isub S.1 S.2.1 dL_law_33 ?_
  refine fx_topi (y := 0) (by decide) ?_
  refine lv_icmp_gt (tgt := 2656) S.1 S.2.1 dL_law_34 (by decide) (fun _ => ?_) (fun c => absurd (by decide) c)
  refine lv_iconst (v := 1) S.1 S.2.1 dL_law_2656 (by decide) ?_
  refine va_forget (fun q hq => by rw [hN]; exact hG.2.1.2.2 q hq) ?_
  refine W.widen (k := 600002) (n := 7302232) (by decide) (by decide) ?_
  exact lw_ret (d0 := s.drawn) (Drawn.sameBut.refl _ _) S.1 S.2.1 hr hlocks dL_law_2657
theorem l25_5 {p : Program} {e : Env} {s : State} {m : MethodId} {below : List Frame} {meth : Method} {c : Code} {b : Nat} {xs : Nat → Int32} {H : Heap} {locs : List Loc} {ls : Array Slot} {n : Nat} {a2 a3 a4 : Int32} (g_a2_ge_3 : 3 ≤ a2) (S : CallFix p m c cL_law 9 s #[.ref b] wsL_law "TreeDifferLaw") (hr : meth.sig.returnType = ret) (hlocks : meth.locks = false) (hst : l.stackTraces = false) (hX : va_X b 5 xs s s.heap) (hbl : b < s.heap.size ∧ b < N0) (hN : s.heap.size = N0) (hn : N0 + 231 ≤ n) (hx1 : xs 1 = 0) (hx2 : xs 2 = a2) (hx3 : xs 3 = a3) (hx4 : xs 4 = a4) (h0 : F N0 = some (.inr (9, [.ref (N0 + 1), .ref (N0 + 2), .ref (N0 + 11), .ref (N0 + 13), .ref (N0 + 63), .ref (N0 + 65), .ref (N0 + 85), .int (-1), .int (-1), .int 32]))) (h1 : F (N0 + 1) = some (.inl (cTr, 3, .inr (.inr (.inr (.inr (va_up (va_up (va_up (fun _ => none) 0 (some (N0 + 143))) 1 (some (N0 + 150))) 2 (some (N0 + 157))))))))) (h2 : F (N0 + 164) = some (.inr (12, [.ref (N0 + 165), .int 0, .ref (N0 + 181), .int 0, .int 0, .int 0, .int (-1), .ref (ql 24), .ref (N0 + 182), .ref (N0 + 187), .ref (N0 + 208), .ref (N0 + 209), .ref (N0 + 210), .ref (N0 + 211), .ref (N0 + 212), .int 0, .ref (N0 + 213), .ref (N0 + 218), .ref (N0 + 223), .ref (N0 + 224), .ref (N0 + 225), .ref (N0 + 226), .ref (N0 + 227), .int 0, .int 0, .ref (N0 + 228), .null, .int (-1), .int 0, .int 0, .int 0]))) (hG : fG N0 D vwCl (fty cI cC cL cD cII cTr cTm cIt cB) (fen ql) s F n H locs) (hl : lv_has ls 9 [(0, .ref b), (1, .ref N0), (2, .ref (N0 + 164)), (3, .ref (N0 + 229)), (4, .ref (N0 + 230)), (5, .int 0)]) : W p l e { frames := 2048, cells := 600002, slots := 7302232, locals := 84000 } s m #[.ref b] below meth c H locs 231 4980 (lw_Z below #[.ref b] s) (F0 m 1929 ls []) := by
  have lt_h0 := hG.1.lt h0
  have lt_h1 := hG.1.lt h1
  have lt_h2 := hG.1.lt h2
  refine lv_aload_n S.1 S.2.1 dL_law_1929 rfl (lv_at hl 1 rfl) ?_
  refine lv_aload_n S.1 S.2.1 dL_law_1930 rfl (lv_at hl 0 rfl) ?_
  refine lv_iload S.1 S.2.1 dL_law_1931 (lv_at hl 5 rfl) ?_
  refine lv_iconst (v := 1) S.1 S.2.1 dL_law_1933 (by decide) ?_
  refine lv_iadd S.1 S.2.1 dL_law_1934 ?_
  refine fx_topi (y := 1) (by decide) ?_
  refine gx_sld (v := 0) S hG hX hbl (fin_l (by decide)) hx1 dL_law_1935 ?_
  refine lv_aload_n S.1 S.2.1 dL_law_1936 rfl (lv_at hl 0 rfl) ?_
  refine lv_iload S.1 S.2.1 dL_law_1937 (lv_at hl 5 rfl) ?_
  refine lv_iconst (v := 2) S.1 S.2.1 dL_law_1939 (by decide) ?_
  refine lv_iadd S.1 S.2.1 dL_law_1940 ?_
  refine fx_topi (y := 2) (by decide) ?_
  refine gx_sld (v := a2) S hG hX hbl (fin_l (by decide)) hx2 dL_law_1941 ?_
  refine lv_aload S.1 S.2.1 dL_law_1942 (lv_at hl 4 rfl) ?_
  refine fx_cTi (As := [.ref N0, .int 0, .int a2, .ref (N0 + 230)]) (rest := []) S hG (k1387_L_similarity g_a2_ge_3 hst (by omega) h0 h1) (vx_cwSW 4 S.2.2.2.2 gL_law_L_similarity rfl rfl rfl (by decide +kernel) ⟨Nat.le_of_ble_eq_true rfl, Nat.le_of_ble_eq_true rfl⟩) rfl hl.1 rfl (Nat.le_of_ble_eq_true rfl) dL_law_1944 ⟨Nat.le_of_ble_eq_true rfl, Nat.le_of_ble_eq_true rfl⟩ (fun rv_u_1 u_1 H locs hp hG => ?_)
  obtain ⟨rfl, hu_1⟩ := hp
  refine W.widen (k := 232) (n := 4986) (by decide) (by decide) ?_
  refine lv_istore (lv' := [(6, .int 1), (0, .ref b), (1, .ref N0), (2, .ref (N0 + 164)), (3, .ref (N0 + 229)), (4, .ref (N0 + 230)), (5, .int 0)]) S.1 S.2.1 dL_law_1947 hl (by decide) rfl (fun ls hl => ?_)
  refine lv_aload_n S.1 S.2.1 dL_law_1949 rfl (lv_at hl 3 rfl) ?_
  refine lv_aload_n S.1 S.2.1 dL_law_1950 rfl (lv_at hl 1 rfl) ?_
  refine lv_iload S.1 S.2.1 dL_law_1951 (lv_at hl 6 rfl) ?_
  refine lv_iconst (v := 1) S.1 S.2.1 dL_law_1953 (by decide) ?_
  refine lv_iadd S.1 S.2.1 dL_law_1954 ?_
  refine fx_topi (y := 1) (by decide) ?_
  refine gx_sld (v := 0) S hG hX hbl (fin_l (by decide)) hx1 dL_law_1955 ?_
  refine lv_aload_n S.1 S.2.1 dL_law_1956 rfl (lv_at hl 1 rfl) ?_
  refine lv_iload S.1 S.2.1 dL_law_1957 (lv_at hl 6 rfl) ?_
  refine lv_iconst (v := 2) S.1 S.2.1 dL_law_1959 (by decide) ?_
  refine lv_iadd S.1 S.2.1 dL_law_1960 ?_
  refine fx_topi (y := 2) (by decide) ?_
  refine gx_sld (v := a2) S hG hX hbl (fin_l (by decide)) hx2 dL_law_1961 ?_
  refine fx_cVd (As := [.int 0, .int a2]) (rest := []) S hG (k1388_X10_similarity g_a2_ge_3 (by omega) h2) h2 rfl (cwV 2 S.2.2.2.2 gL_law_X10_similarity rfl rfl rfl (by decide +kernel) ⟨Nat.le_of_ble_eq_true rfl, Nat.le_of_ble_eq_true rfl⟩) rfl hl.1 rfl (Nat.le_of_ble_eq_true rfl) dL_law_1962 ⟨Nat.le_of_ble_eq_true rfl, Nat.le_of_ble_eq_true rfl⟩ (fun rv_2 _ H locs hp hG => ?_)
  subst rv_2
  refine lv_dstore (lv' := [(7, .double 0), (6, .int 1), (0, .ref b), (1, .ref N0), (2, .ref (N0 + 164)), (3, .ref (N0 + 229)), (4, .ref (N0 + 230)), (5, .int 0)]) S.1 S.2.1 dL_law_1965 hl (by decide) rfl (fun ls hl => ?_)
  refine lv_aload_n S.1 S.2.1 dL_law_1967 rfl (lv_at hl 4 rfl) ?_
  refine fx_cVi (As := []) (rest := []) S hG (k25_X10_thrown (by omega) fu_s) fu_s rfl (cwV 0 S.2.2.2.2 gL_law_X10_thrown rfl rfl rfl (by decide +kernel) ⟨Nat.le_of_ble_eq_true rfl, Nat.le_of_ble_eq_true rfl⟩) rfl hl.1 rfl (Nat.le_of_ble_eq_true rfl) dL_law_1968 ⟨Nat.le_of_ble_eq_true rfl, Nat.le_of_ble_eq_true rfl⟩ (fun rv_3 _ H locs hp hG => ?_)
  subst rv_3
  refine lv_iload S.1 S.2.1 dL_law_1971 (lv_at hl 1 rfl) ?_
  refine lv_icmp_eq (tgt := 1978) S.1 S.2.1 dL_law_1973 (by decide) (fun _ => ?_) (fun c => absurd (by decide) c)
  refine lv_iload S.1 S.2.1 dL_law_1978 (lv_at hl 1 rfl) ?_
  refine lv_if_ne (tgt := 2015) S.1 S.2.1 dL_law_1980 (by decide) (fun _ => ?_) (fun c => absurd c (by decide))
  refine lv_goto (tgt := 2650) S.1 S.2.1 dL_law_2015 (by decide) ?_
  refine lv_iinc (v := 5) (lv' := [(5, .int 5), (7, .double 0), (6, .int 1), (0, .ref b), (1, .ref N0), (2, .ref (N0 + 164)), (3, .ref (N0 + 229)), (4, .ref (N0 + 230))]) S.1 S.2.1 dL_law_2650 hl (k := 7) rfl (by decide) (by decide) rfl (fun ls hl => ?_)
  refine lv_goto (tgt := 28) S.1 S.2.1 dL_law_2653 (by decide) ?_
  refine lv_iload S.1 S.2.1 dL_law_28 (lv_at hl 0 rfl) ?_
  refine lv_aload_n S.1 S.2.1 dL_law_30 rfl (lv_at hl 3 rfl) ?_
  refine gx_slen (v := 5) S hG hX hbl rfl dL_law_31 ?_
  refine lv_iconst (v := 5) S.1 S.2.1 dL_law_32 (by decide) ?_
  refine lv_isub S.1 S.2.1 dL_law_33 ?_
  refine fx_topi (y := 0) (by decide) ?_
  refine lv_icmp_gt (tgt := 2656) S.1 S.2.1 dL_law_34 (by decide) (fun _ => ?_) (fun c => absurd (by decide) c)
  refine lv_iconst (v := 1) S.1 S.2.1 dL_law_2656 (by decide) ?_
  refine va_forget (fun q hq => by rw [hN]; exact hG.2.1.2.2 q hq) ?_
  refine W.widen (k := 600002) (n := 7302232) (by decide) (by decide) ?_
  exact lw_ret (d0 := s.drawn) (Drawn.sameBut.refl _ _) S.1 S.2.1 hr hlocks dL_law_2657
theorem l25_6 {p : Program} {e : Env} {s : State} {m : MethodId} {below : List Frame} {meth : Method} {c : Code} {b : Nat} {xs : Nat → Int32} {H : Heap} {locs : List Loc} {ls : Array Slot} {n : Nat} {a2 a3 a4 : Int32} (g_a2_le_m1 : a2 ≤ (-1)) (S : CallFix p m c cL_law 9 s #[.ref b] wsL_law "TreeDifferLaw") (hr : meth.sig.returnType = ret) (hlocks : meth.locks = false) (hst : l.stackTraces = false) (hX : va_X b 5 xs s s.heap) (hbl : b < s.heap.size ∧ b < N0) (hN : s.heap.size = N0) (hn : N0 + 231 ≤ n) (hx1 : xs 1 = 1) (hx2 : xs 2 = a2) (hx3 : xs 3 = a3) (hx4 : xs 4 = a4) (h0 : F N0 = some (.inr (9, [.ref (N0 + 1), .ref (N0 + 2), .ref (N0 + 11), .ref (N0 + 13), .ref (N0 + 63), .ref (N0 + 65), .ref (N0 + 85), .int (-1), .int (-1), .int 32]))) (h1 : F (N0 + 1) = some (.inl (cTr, 3, .inr (.inr (.inr (.inr (va_up (va_up (va_up (fun _ => none) 0 (some (N0 + 143))) 1 (some (N0 + 150))) 2 (some (N0 + 157))))))))) (h2 : F (N0 + 164) = some (.inr (12, [.ref (N0 + 165), .int 0, .ref (N0 + 181), .int 0, .int 0, .int 0, .int (-1), .ref (ql 24), .ref (N0 + 182), .ref (N0 + 187), .ref (N0 + 208), .ref (N0 + 209), .ref (N0 + 210), .ref (N0 + 211), .ref (N0 + 212), .int 0, .ref (N0 + 213), .ref (N0 + 218), .ref (N0 + 223), .ref (N0 + 224), .ref (N0 + 225), .ref (N0 + 226), .ref (N0 + 227), .int 0, .int 0, .ref (N0 + 228), .null, .int (-1), .int 0, .int 0, .int 0]))) (hG : fG N0 D vwCl (fty cI cC cL cD cII cTr cTm cIt cB) (fen ql) s F n H locs) (hl : lv_has ls 9 [(0, .ref b), (1, .ref N0), (2, .ref (N0 + 164)), (3, .ref (N0 + 229)), (4, .ref (N0 + 230)), (5, .int 0)]) : W p l e { frames := 2048, cells := 600002, slots := 7302232, locals := 84000 } s m #[.ref b] below meth c H locs 231 4980 (lw_Z below #[.ref b] s) (F0 m 1929 ls []) := by
  have lt_h0 := hG.1.lt h0
  have lt_h1 := hG.1.lt h1
  have lt_h2 := hG.1.lt h2
  refine lv_aload_n S.1 S.2.1 dL_law_1929 rfl (lv_at hl 1 rfl) ?_
  refine lv_aload_n S.1 S.2.1 dL_law_1930 rfl (lv_at hl 0 rfl) ?_
  refine lv_iload S.1 S.2.1 dL_law_1931 (lv_at hl 5 rfl) ?_
  refine lv_iconst (v := 1) S.1 S.2.1 dL_law_1933 (by decide) ?_
  refine lv_iadd S.1 S.2.1 dL_law_1934 ?_
  refine fx_topi (y := 1) (by decide) ?_
  refine gx_sld (v := 1) S hG hX hbl (fin_l (by decide)) hx1 dL_law_1935 ?_
  refine lv_aload_n S.1 S.2.1 dL_law_1936 rfl (lv_at hl 0 rfl) ?_
  refine lv_iload S.1 S.2.1 dL_law_1937 (lv_at hl 5 rfl) ?_
  refine lv_iconst (v := 2) S.1 S.2.1 dL_law_1939 (by decide) ?_
  refine lv_iadd S.1 S.2.1 dL_law_1940 ?_
  refine fx_topi (y := 2) (by decide) ?_
  refine gx_sld (v := a2) S hG hX hbl (fin_l (by decide)) hx2 dL_law_1941 ?_
  refine lv_aload S.1 S.2.1 dL_law_1942 (lv_at hl 4 rfl) ?_
  refine fx_cTi (As := [.ref N0, .int 1, .int a2, .ref (N0 + 230)]) (rest := []) S hG (k1390_L_similarity g_a2_le_m1 hst (by omega) h0 h1) (vx_cwSW 4 S.2.2.2.2 gL_law_L_similarity rfl rfl rfl (by decide +kernel) ⟨Nat.le_of_ble_eq_true rfl, Nat.le_of_ble_eq_true rfl⟩) rfl hl.1 rfl (Nat.le_of_ble_eq_true rfl) dL_law_1944 ⟨Nat.le_of_ble_eq_true rfl, Nat.le_of_ble_eq_true rfl⟩ (fun rv_u_1 u_1 H locs hp hG => ?_)
  obtain ⟨rfl, hu_1⟩ := hp
  refine W.widen (k := 232) (n := 4986) (by decide) (by decide) ?_
  refine lv_istore (lv' := [(6, .int 1), (0, .ref b), (1, .ref N0), (2, .ref (N0 + 164)), (3, .ref (N0 + 229)), (4, .ref (N0 + 230)), (5, .int 0)]) S.1 S.2.1 dL_law_1947 hl (by decide) rfl (fun ls hl => ?_)
  refine lv_aload_n S.1 S.2.1 dL_law_1949 rfl (lv_at hl 3 rfl) ?_
  refine lv_aload_n S.1 S.2.1 dL_law_1950 rfl (lv_at hl 1 rfl) ?_
  refine lv_iload S.1 S.2.1 dL_law_1951 (lv_at hl 6 rfl) ?_
  refine lv_iconst (v := 1) S.1 S.2.1 dL_law_1953 (by decide) ?_
  refine lv_iadd S.1 S.2.1 dL_law_1954 ?_
  refine fx_topi (y := 1) (by decide) ?_
  refine gx_sld (v := 1) S hG hX hbl (fin_l (by decide)) hx1 dL_law_1955 ?_
  refine lv_aload_n S.1 S.2.1 dL_law_1956 rfl (lv_at hl 1 rfl) ?_
  refine lv_iload S.1 S.2.1 dL_law_1957 (lv_at hl 6 rfl) ?_
  refine lv_iconst (v := 2) S.1 S.2.1 dL_law_1959 (by decide) ?_
  refine lv_iadd S.1 S.2.1 dL_law_1960 ?_
  refine fx_topi (y := 2) (by decide) ?_
  refine gx_sld (v := a2) S hG hX hbl (fin_l (by decide)) hx2 dL_law_1961 ?_
  refine fx_cVd (As := [.int 1, .int a2]) (rest := []) S hG (k1391_X10_similarity g_a2_le_m1 (by omega) h2) h2 rfl (cwV 2 S.2.2.2.2 gL_law_X10_similarity rfl rfl rfl (by decide +kernel) ⟨Nat.le_of_ble_eq_true rfl, Nat.le_of_ble_eq_true rfl⟩) rfl hl.1 rfl (Nat.le_of_ble_eq_true rfl) dL_law_1962 ⟨Nat.le_of_ble_eq_true rfl, Nat.le_of_ble_eq_true rfl⟩ (fun rv_2 _ H locs hp hG => ?_)
  subst rv_2
  refine lv_dstore (lv' := [(7, .double 0), (6, .int 1), (0, .ref b), (1, .ref N0), (2, .ref (N0 + 164)), (3, .ref (N0 + 229)), (4, .ref (N0 + 230)), (5, .int 0)]) S.1 S.2.1 dL_law_1965 hl (by decide) rfl (fun ls hl => ?_)
  refine lv_aload_n S.1 S.2.1 dL_law_1967 rfl (lv_at hl 4 rfl) ?_
  refine fx_cVi (As := []) (rest := []) S hG (k25_X10_thrown (by omega) fu_s) fu_s rfl (cwV 0 S.2.2.2.2 gL_law_X10_thrown rfl rfl rfl (by decide +kernel) ⟨Nat.le_of_ble_eq_true rfl, Nat.le_of_ble_eq_true rfl⟩) rfl hl.1 rfl (Nat.le_of_ble_eq_true rfl) dL_law_1968 ⟨Nat.le_of_ble_eq_true rfl, Nat.le_of_ble_eq_true rfl⟩ (fun rv_3 _ H locs hp hG => ?_)
  subst rv_3
  refine lv_iload S.1 S.2.1 dL_law_1971 (lv_at hl 1 rfl) ?_
  refine lv_icmp_eq (tgt := 1978) S.1 S.2.1 dL_law_1973 (by decide) (fun _ => ?_) (fun c => absurd (by decide) c)
  refine lv_iload S.1 S.2.1 dL_law_1978 (lv_at hl 1 rfl) ?_
  refine lv_if_ne (tgt := 2015) S.1 S.2.1 dL_law_1980 (by decide) (fun _ => ?_) (fun c => absurd c (by decide))
  refine lv_goto (tgt := 2650) S.1 S.2.1 dL_law_2015 (by decide) ?_
  refine lv_iinc (v := 5) (lv' := [(5, .int 5), (7, .double 0), (6, .int 1), (0, .ref b), (1, .ref N0), (2, .ref (N0 + 164)), (3, .ref (N0 + 229)), (4, .ref (N0 + 230))]) S.1 S.2.1 dL_law_2650 hl (k := 7) rfl (by decide) (by decide) rfl (fun ls hl => ?_)
  refine lv_goto (tgt := 28) S.1 S.2.1 dL_law_2653 (by decide) ?_
  refine lv_iload S.1 S.2.1 dL_law_28 (lv_at hl 0 rfl) ?_
  refine lv_aload_n S.1 S.2.1 dL_law_30 rfl (lv_at hl 3 rfl) ?_
  refine gx_slen (v := 5) S hG hX hbl rfl dL_law_31 ?_
  refine lv_iconst (v := 5) S.1 S.2.1 dL_law_32 (by decide) ?_
  refine lv_isub S.1 S.2.1 dL_law_33 ?_
  refine fx_topi (y := 0) (by decide) ?_
  refine lv_icmp_gt (tgt := 2656) S.1 S.2.1 dL_law_34 (by decide) (fun _ => ?_) (fun c => absurd (by decide) c)
  refine lv_iconst (v := 1) S.1 S.2.1 dL_law_2656 (by decide) ?_
  refine va_forget (fun q hq => by rw [hN]; exact hG.2.1.2.2 q hq) ?_
  refine W.widen (k := 600002) (n := 7302232) (by decide) (by decide) ?_
  exact lw_ret (d0 := s.drawn) (Drawn.sameBut.refl _ _) S.1 S.2.1 hr hlocks dL_law_2657
theorem l25_7 {p : Program} {e : Env} {s : State} {m : MethodId} {below : List Frame} {meth : Method} {c : Code} {b : Nat} {xs : Nat → Int32} {H : Heap} {locs : List Loc} {ls : Array Slot} {n : Nat} {a3 a4 : Int32} (S : CallFix p m c cL_law 9 s #[.ref b] wsL_law "TreeDifferLaw") (hr : meth.sig.returnType = ret) (hlocks : meth.locks = false) (hst : l.stackTraces = false) (hX : va_X b 5 xs s s.heap) (hbl : b < s.heap.size ∧ b < N0) (hN : s.heap.size = N0) (hn : N0 + 231 ≤ n) (hx1 : xs 1 = 1) (hx2 : xs 2 = 0) (hx3 : xs 3 = a3) (hx4 : xs 4 = a4) (h0 : F N0 = some (.inr (9, [.ref (N0 + 1), .ref (N0 + 2), .ref (N0 + 11), .ref (N0 + 13), .ref (N0 + 63), .ref (N0 + 65), .ref (N0 + 85), .int (-1), .int (-1), .int 32]))) (h1 : F (N0 + 1) = some (.inl (cTr, 3, .inr (.inr (.inr (.inr (va_up (va_up (va_up (fun _ => none) 0 (some (N0 + 143))) 1 (some (N0 + 150))) 2 (some (N0 + 157))))))))) (h2 : F (N0 + 13) = some (.inr (3, [.ref (N0 + 14), .ref (N0 + 35), .ref (N0 + 57), .ref (N0 + 58), .ref (N0 + 59), .ref (N0 + 60), .int 0, .int 0, .ref (N0 + 61), .ref (N0 + 62)]))) (h3 : F (N0 + 150) = some (.inr (7, [.ref (N0 + 151), .ref (N0 + 152), .ref (N0 + 153), .ref (N0 + 154), .ref (N0 + 155), .ref (N0 + 156), .int 1]))) (h4 : F (N0 + 57) = some (.inl (cI, 20, .inl (fun _ => 0)))) (h5 : F (N0 + 143) = some (.inr (7, [.ref (N0 + 144), .ref (N0 + 145), .ref (N0 + 146), .ref (N0 + 147), .ref (N0 + 148), .ref (N0 + 149), .int 1]))) (h6 : F (N0 + 58) = some (.inl (cI, 20, .inl (fun _ => 0)))) (h7 : F (N0 + 35) = some (.inl (cII, 21, .inr (.inr (.inr (.inr (fun j => if j < 21 then some ((N0 + 36) + j) else none))))))) (h8 : F (N0 + 36) = some (.inl (cI, 21, .inl (fun _ => 0)))) (h9 : F (N0 + 14) = some (.inl (cII, 20, .inr (.inr (.inr (.inr (fun j => if j < 20 then some ((N0 + 15) + j) else none))))))) (h10 : F (N0 + 151) = some (.inl (cC, 20, .inl (upd (fun _ => 0) 0 97)))) (h11 : F (N0 + 144) = some (.inl (cC, 20, .inl (upd (fun _ => 0) 0 97)))) (h12 : F (N0 + 153) = some (.inl (cI, 20, .inl (fun _ => 0)))) (h13 : F (N0 + 146) = some (.inl (cI, 20, .inl (fun _ => 0)))) (h14 : F (N0 + 15) = some (.inl (cI, 20, .inl (fun _ => 0)))) (h15 : F (N0 + 230) = some (.inl (cD, 1, .inr (.inr (.inr (.inl (fun _ => 0))))))) (h16 : F (N0 + 164) = some (.inr (12, [.ref (N0 + 165), .int 0, .ref (N0 + 181), .int 0, .int 0, .int 0, .int (-1), .ref (ql 24), .ref (N0 + 182), .ref (N0 + 187), .ref (N0 + 208), .ref (N0 + 209), .ref (N0 + 210), .ref (N0 + 211), .ref (N0 + 212), .int 0, .ref (N0 + 213), .ref (N0 + 218), .ref (N0 + 223), .ref (N0 + 224), .ref (N0 + 225), .ref (N0 + 226), .ref (N0 + 227), .int 0, .int 0, .ref (N0 + 228), .null, .int (-1), .int 0, .int 0, .int 0]))) (h17 : F (N0 + 165) = some (.inl (cTm, 3, .inr (.inr (.inr (.inr (va_up (va_up (va_up (fun _ => none) 0 (some (N0 + 166))) 1 (some (N0 + 171))) 2 (some (N0 + 176))))))))) (h18 : F (N0 + 171) = some (.inr (11, [.ref (N0 + 172), .ref (N0 + 173), .ref (N0 + 174), .ref (N0 + 175), .int 1]))) (h19 : F (N0 + 166) = some (.inr (11, [.ref (N0 + 167), .ref (N0 + 168), .ref (N0 + 169), .ref (N0 + 170), .int 1]))) (h20 : F (N0 + 172) = some (.inl (cI, 20, .inl (upd (fun _ => 0) 0 97)))) (h21 : F (N0 + 167) = some (.inl (cI, 20, .inl (upd (fun _ => 0) 0 97)))) (h22 : F (N0 + 174) = some (.inl (cI, 20, .inl (upd (fun _ => 0) 0 0)))) (h23 : F (N0 + 169) = some (.inl (cI, 20, .inl (upd (fun _ => 0) 0 0)))) (h24 : F (N0 + 187) = some (.inl (cII, 20, .inr (.inr (.inr (.inr (fun j => if j < 20 then some ((N0 + 188) + j) else none))))))) (h25 : F (N0 + 188) = some (.inl (cI, 20, .inl (fun _ => 0)))) (hG : fG N0 D vwCl (fty cI cC cL cD cII cTr cTm cIt cB) (fen ql) s F n H locs) (hl : lv_has ls 9 [(0, .ref b), (1, .ref N0), (2, .ref (N0 + 164)), (3, .ref (N0 + 229)), (4, .ref (N0 + 230)), (5, .int 0)]) : W p l e { frames := 2048, cells := 600002, slots := 7302232, locals := 84000 } s m #[.ref b] below meth c H locs 231 4980 (lw_Z below #[.ref b] s) (F0 m 1929 ls []) := by
  have lt_h0 := hG.1.lt h0
  have lt_h1 := hG.1.lt h1
  have lt_h2 := hG.1.lt h2
  have lt_h3 := hG.1.lt h3
  have lt_h4 := hG.1.lt h4
  have lt_h5 := hG.1.lt h5
  have lt_h6 := hG.1.lt h6
  have lt_h7 := hG.1.lt h7
  have lt_h8 := hG.1.lt h8
  have lt_h9 := hG.1.lt h9
  have lt_h10 := hG.1.lt h10
  have lt_h11 := hG.1.lt h11
  have lt_h12 := hG.1.lt h12
  have lt_h13 := hG.1.lt h13
  have lt_h14 := hG.1.lt h14
  have lt_h15 := hG.1.lt h15
  have lt_h16 := hG.1.lt h16
  have lt_h17 := hG.1.lt h17
  have lt_h18 := hG.1.lt h18
  have lt_h19 := hG.1.lt h19
  have lt_h20 := hG.1.lt h20
  have lt_h21 := hG.1.lt h21
  have lt_h22 := hG.1.lt h22
  have lt_h23 := hG.1.lt h23
  have lt_h24 := hG.1.lt h24
  have lt_h25 := hG.1.lt h25
  refine lv_aload_n S.1 S.2.1 dL_law_1929 rfl (lv_at hl 1 rfl) ?_
  refine lv_aload_n S.1 S.2.1 dL_law_1930 rfl (lv_at hl 0 rfl) ?_
  refine lv_iload S.1 S.2.1 dL_law_1931 (lv_at hl 5 rfl) ?_
  refine lv_iconst (v := 1) S.1 S.2.1 dL_law_1933 (by decide) ?_
  refine lv_iadd S.1 S.2.1 dL_law_1934 ?_
  refine fx_topi (y := 1) (by decide) ?_
  refine gx_sld (v := 1) S hG hX hbl (fin_l (by decide)) hx1 dL_law_1935 ?_
  refine lv_aload_n S.1 S.2.1 dL_law_1936 rfl (lv_at hl 0 rfl) ?_
  refine lv_iload S.1 S.2.1 dL_law_1937 (lv_at hl 5 rfl) ?_
  refine lv_iconst (v := 2) S.1 S.2.1 dL_law_1939 (by decide) ?_
  refine lv_iadd S.1 S.2.1 dL_law_1940 ?_
  refine fx_topi (y := 2) (by decide) ?_
  refine gx_sld (v := 0) S hG hX hbl (fin_l (by decide)) hx2 dL_law_1941 ?_
  refine lv_aload S.1 S.2.1 dL_law_1942 (lv_at hl 4 rfl) ?_
  refine fx_cTi (As := [.ref N0, .int 1, .int 0, .ref (N0 + 230)]) (rest := []) S hG (k1393_L_similarity (by omega) h0 h1 h2 h3 h4 h5 h6 h7 h8 h9 h10 h11 h12 h13 h14 h15) (vx_cwSW 4 S.2.2.2.2 gL_law_L_similarity rfl rfl rfl (by decide +kernel) ⟨Nat.le_of_ble_eq_true rfl, Nat.le_of_ble_eq_true rfl⟩) rfl hl.1 rfl (Nat.le_of_ble_eq_true rfl) dL_law_1944 ⟨Nat.le_of_ble_eq_true rfl, Nat.le_of_ble_eq_true rfl⟩ (fun rv_1 _ H locs hp hG => ?_)
  subst rv_1
  refine lv_istore (lv' := [(6, .int 0), (0, .ref b), (1, .ref N0), (2, .ref (N0 + 164)), (3, .ref (N0 + 229)), (4, .ref (N0 + 230)), (5, .int 0)]) S.1 S.2.1 dL_law_1947 hl (by decide) rfl (fun ls hl => ?_)
  refine lv_aload_n S.1 S.2.1 dL_law_1949 rfl (lv_at hl 3 rfl) ?_
  refine lv_aload_n S.1 S.2.1 dL_law_1950 rfl (lv_at hl 1 rfl) ?_
  refine lv_iload S.1 S.2.1 dL_law_1951 (lv_at hl 6 rfl) ?_
  refine lv_iconst (v := 1) S.1 S.2.1 dL_law_1953 (by decide) ?_
  refine lv_iadd S.1 S.2.1 dL_law_1954 ?_
  refine fx_topi (y := 1) (by decide) ?_
  refine gx_sld (v := 1) S hG hX hbl (fin_l (by decide)) hx1 dL_law_1955 ?_
  refine lv_aload_n S.1 S.2.1 dL_law_1956 rfl (lv_at hl 1 rfl) ?_
  refine lv_iload S.1 S.2.1 dL_law_1957 (lv_at hl 6 rfl) ?_
  refine lv_iconst (v := 2) S.1 S.2.1 dL_law_1959 (by decide) ?_
  refine lv_iadd S.1 S.2.1 dL_law_1960 ?_
  refine fx_topi (y := 2) (by decide) ?_
  refine gx_sld (v := 0) S hG hX hbl (fin_l (by decide)) hx2 dL_law_1961 ?_
  refine fx_cVd (As := [.int 1, .int 0]) (rest := []) S hG (k1394_X10_similarity (by omega) (fu_at (by omega) (fu_at (by omega) (fu_at (by omega) (fu_at (by omega) (fu_at (by omega) (fu_at (by omega) h16)))))) (fu_at (by omega) (fu_at (by omega) (fu_at (by omega) (fu_at (by omega) (fu_at (by omega) (fu_at (by omega) h17)))))) (fu_at (by omega) (fu_at (by omega) (fu_at (by omega) (fu_at (by omega) (fu_at (by omega) (fu_at (by omega) h18)))))) (fu_at (by omega) (fu_at (by omega) (fu_at (by omega) (fu_at (by omega) (fu_at (by omega) (fu_at (by omega) h19)))))) (fu_at (by omega) (fu_at (by omega) (fu_at (by omega) (fu_at (by omega) (fu_at (by omega) (fu_at (by omega) h20)))))) (fu_at (by omega) (fu_at (by omega) (fu_at (by omega) (fu_at (by omega) (fu_at (by omega) (fu_at (by omega) h21)))))) (fu_at (by omega) (fu_at (by omega) (fu_at (by omega) (fu_at (by omega) (fu_at (by omega) (fu_at (by omega) h22)))))) (fu_at (by omega) (fu_at (by omega) (fu_at (by omega) (fu_at (by omega) (fu_at (by omega) (fu_at (by omega) h23)))))) (fu_at (by omega) (fu_at (by omega) (fu_at (by omega) (fu_at (by omega) (fu_at (by omega) (fu_at (by omega) h24)))))) (fu_at (by omega) (fu_at (by omega) (fu_at (by omega) (fu_at (by omega) (fu_at (by omega) (fu_at (by omega) h25))))))) (fu_at (by omega) (fu_at (by omega) (fu_at (by omega) (fu_at (by omega) (fu_at (by omega) (fu_at (by omega) h16)))))) rfl (cwV 2 S.2.2.2.2 gL_law_X10_similarity rfl rfl rfl (by decide +kernel) ⟨Nat.le_of_ble_eq_true rfl, Nat.le_of_ble_eq_true rfl⟩) rfl hl.1 rfl (Nat.le_of_ble_eq_true rfl) dL_law_1962 ⟨Nat.le_of_ble_eq_true rfl, Nat.le_of_ble_eq_true rfl⟩ (fun rv_2 _ H locs hp hG => ?_)
  subst rv_2
  refine W.widen (k := 235) (n := 4982) (by decide) (by decide) ?_
  refine lv_dstore (lv' := [(7, .double 4607182418800017408), (6, .int 0), (0, .ref b), (1, .ref N0), (2, .ref (N0 + 164)), (3, .ref (N0 + 229)), (4, .ref (N0 + 230)), (5, .int 0)]) S.1 S.2.1 dL_law_1965 hl (by decide) rfl (fun ls hl => ?_)
  refine lv_aload_n S.1 S.2.1 dL_law_1967 rfl (lv_at hl 4 rfl) ?_
  refine fx_cVi (As := []) (rest := []) S hG (k117_X10_thrown (by omega) (fblk_sk 4 rfl (by omega) (fu_at (by omega) fu_s))) (fblk_sk 4 rfl (by omega) (fu_at (by omega) fu_s)) rfl (cwV 0 S.2.2.2.2 gL_law_X10_thrown rfl rfl rfl (by decide +kernel) ⟨Nat.le_of_ble_eq_true rfl, Nat.le_of_ble_eq_true rfl⟩) rfl hl.1 rfl (Nat.le_of_ble_eq_true rfl) dL_law_1968 ⟨Nat.le_of_ble_eq_true rfl, Nat.le_of_ble_eq_true rfl⟩ (fun rv_3 _ H locs hp hG => ?_)
  subst rv_3
  refine lv_iload S.1 S.2.1 dL_law_1971 (lv_at hl 1 rfl) ?_
  refine lv_icmp_eq (tgt := 1978) S.1 S.2.1 dL_law_1973 (by decide) (fun _ => ?_) (fun c => absurd (by decide) c)
  refine lv_iload S.1 S.2.1 dL_law_1978 (lv_at hl 1 rfl) ?_
  refine lv_if_ne (tgt := 2015) S.1 S.2.1 dL_law_1980 (by decide) (fun c => absurd (by decide) c) (fun _ => ?_)
  refine lv_aload S.1 S.2.1 dL_law_1983 (lv_at hl 6 rfl) ?_
  refine lv_iconst (v := 0) S.1 S.2.1 dL_law_1985 (by decide) ?_
  refine gx_dald (v := 4607182418800017408) S hG 3 (fblk_sk 4 rfl (by omega) (fu_at (by omega) (fu_at (by omega) fu_s))) rfl (fin_l (by decide)) rfl dL_law_1986 ?_
  refine lv_dload S.1 S.2.1 dL_law_1987 (lv_at hl 0 rfl) ?_
  refine gx_dcmp (v := 0) S (by decide +kernel) dL_law_1989 ?_
  refine lv_if_eq (tgt := 2015) S.1 S.2.1 dL_law_1990 (by decide) (fun _ => ?_) (fun c => absurd (by decide) c)
  refine lv_goto (tgt := 2650) S.1 S.2.1 dL_law_2015 (by decide) ?_
  refine lv_iinc (v := 5) (lv' := [(5, .int 5), (7, .double 4607182418800017408), (6, .int 0), (0, .ref b), (1, .ref N0), (2, .ref (N0 + 164)), (3, .ref (N0 + 229)), (4, .ref (N0 + 230))]) S.1 S.2.1 dL_law_2650 hl (k := 7) rfl (by decide) (by decide) rfl (fun ls hl => ?_)
  refine lv_goto (tgt := 28) S.1 S.2.1 dL_law_2653 (by decide) ?_
  refine lv_iload S.1 S.2.1 dL_law_28 (lv_at hl 0 rfl) ?_
  refine lv_aload_n S.1 S.2.1 dL_law_30 rfl (lv_at hl 3 rfl) ?_
  refine gx_slen (v := 5) S hG hX hbl rfl dL_law_31 ?_
  refine lv_iconst (v := 5) S.1 S.2.1 dL_law_32 (by decide) ?_
  refine lv_isub S.1 S.2.1 dL_law_33 ?_
  refine fx_topi (y := 0) (by decide) ?_
  refine lv_icmp_gt (tgt := 2656) S.1 S.2.1 dL_law_34 (by decide) (fun _ => ?_) (fun c => absurd (by decide) c)
  refine lv_iconst (v := 1) S.1 S.2.1 dL_law_2656 (by decide) ?_
  refine va_forget (fun q hq => by rw [hN]; exact hG.2.1.2.2 q hq) ?_
  refine W.widen (k := 600002) (n := 7302232) (by decide) (by decide) ?_
  exact lw_ret (d0 := s.drawn) (Drawn.sameBut.refl _ _) S.1 S.2.1 hr hlocks dL_law_2657
theorem l25_8 {p : Program} {e : Env} {s : State} {m : MethodId} {below : List Frame} {meth : Method} {c : Code} {b : Nat} {xs : Nat → Int32} {H : Heap} {locs : List Loc} {ls : Array Slot} {n : Nat} {a3 a4 : Int32} (S : CallFix p m c cL_law 9 s #[.ref b] wsL_law "TreeDifferLaw") (hr : meth.sig.returnType = ret) (hlocks : meth.locks = false) (hst : l.stackTraces = false) (hX : va_X b 5 xs s s.heap) (hbl : b < s.heap.size ∧ b < N0) (hN : s.heap.size = N0) (hn : N0 + 231 ≤ n) (hx1 : xs 1 = 1) (hx2 : xs 2 = 1) (hx3 : xs 3 = a3) (hx4 : xs 4 = a4) (h0 : F N0 = some (.inr (9, [.ref (N0 + 1), .ref (N0 + 2), .ref (N0 + 11), .ref (N0 + 13), .ref (N0 + 63), .ref (N0 + 65), .ref (N0 + 85), .int (-1), .int (-1), .int 32]))) (h1 : F (N0 + 1) = some (.inl (cTr, 3, .inr (.inr (.inr (.inr (va_up (va_up (va_up (fun _ => none) 0 (some (N0 + 143))) 1 (some (N0 + 150))) 2 (some (N0 + 157))))))))) (h2 : F (N0 + 13) = some (.inr (3, [.ref (N0 + 14), .ref (N0 + 35), .ref (N0 + 57), .ref (N0 + 58), .ref (N0 + 59), .ref (N0 + 60), .int 0, .int 0, .ref (N0 + 61), .ref (N0 + 62)]))) (h3 : F (N0 + 150) = some (.inr (7, [.ref (N0 + 151), .ref (N0 + 152), .ref (N0 + 153), .ref (N0 + 154), .ref (N0 + 155), .ref (N0 + 156), .int 1]))) (h4 : F (N0 + 57) = some (.inl (cI, 20, .inl (fun _ => 0)))) (h5 : F (N0 + 58) = some (.inl (cI, 20, .inl (fun _ => 0)))) (h6 : F (N0 + 35) = some (.inl (cII, 21, .inr (.inr (.inr (.inr (fun j => if j < 21 then some ((N0 + 36) + j) else none))))))) (h7 : F (N0 + 36) = some (.inl (cI, 21, .inl (fun _ => 0)))) (h8 : F (N0 + 14) = some (.inl (cII, 20, .inr (.inr (.inr (.inr (fun j => if j < 20 then some ((N0 + 15) + j) else none))))))) (h9 : F (N0 + 151) = some (.inl (cC, 20, .inl (upd (fun _ => 0) 0 97)))) (h10 : F (N0 + 153) = some (.inl (cI, 20, .inl (fun _ => 0)))) (h11 : F (N0 + 15) = some (.inl (cI, 20, .inl (fun _ => 0)))) (h12 : F (N0 + 230) = some (.inl (cD, 1, .inr (.inr (.inr (.inl (fun _ => 0))))))) (h13 : F (N0 + 164) = some (.inr (12, [.ref (N0 + 165), .int 0, .ref (N0 + 181), .int 0, .int 0, .int 0, .int (-1), .ref (ql 24), .ref (N0 + 182), .ref (N0 + 187), .ref (N0 + 208), .ref (N0 + 209), .ref (N0 + 210), .ref (N0 + 211), .ref (N0 + 212), .int 0, .ref (N0 + 213), .ref (N0 + 218), .ref (N0 + 223), .ref (N0 + 224), .ref (N0 + 225), .ref (N0 + 226), .ref (N0 + 227), .int 0, .int 0, .ref (N0 + 228), .null, .int (-1), .int 0, .int 0, .int 0]))) (h14 : F (N0 + 165) = some (.inl (cTm, 3, .inr (.inr (.inr (.inr (va_up (va_up (va_up (fun _ => none) 0 (some (N0 + 166))) 1 (some (N0 + 171))) 2 (some (N0 + 176))))))))) (h15 : F (N0 + 171) = some (.inr (11, [.ref (N0 + 172), .ref (N0 + 173), .ref (N0 + 174), .ref (N0 + 175), .int 1]))) (h16 : F (N0 + 172) = some (.inl (cI, 20, .inl (upd (fun _ => 0) 0 97)))) (h17 : F (N0 + 174) = some (.inl (cI, 20, .inl (upd (fun _ => 0) 0 0)))) (h18 : F (N0 + 187) = some (.inl (cII, 20, .inr (.inr (.inr (.inr (fun j => if j < 20 then some ((N0 + 188) + j) else none))))))) (h19 : F (N0 + 188) = some (.inl (cI, 20, .inl (fun _ => 0)))) (hG : fG N0 D vwCl (fty cI cC cL cD cII cTr cTm cIt cB) (fen ql) s F n H locs) (hl : lv_has ls 9 [(0, .ref b), (1, .ref N0), (2, .ref (N0 + 164)), (3, .ref (N0 + 229)), (4, .ref (N0 + 230)), (5, .int 0)]) : W p l e { frames := 2048, cells := 600002, slots := 7302232, locals := 84000 } s m #[.ref b] below meth c H locs 231 4980 (lw_Z below #[.ref b] s) (F0 m 1929 ls []) := by
  have lt_h0 := hG.1.lt h0
  have lt_h1 := hG.1.lt h1
  have lt_h2 := hG.1.lt h2
  have lt_h3 := hG.1.lt h3
  have lt_h4 := hG.1.lt h4
  have lt_h5 := hG.1.lt h5
  have lt_h6 := hG.1.lt h6
  have lt_h7 := hG.1.lt h7
  have lt_h8 := hG.1.lt h8
  have lt_h9 := hG.1.lt h9
  have lt_h10 := hG.1.lt h10
  have lt_h11 := hG.1.lt h11
  have lt_h12 := hG.1.lt h12
  have lt_h13 := hG.1.lt h13
  have lt_h14 := hG.1.lt h14
  have lt_h15 := hG.1.lt h15
  have lt_h16 := hG.1.lt h16
  have lt_h17 := hG.1.lt h17
  have lt_h18 := hG.1.lt h18
  have lt_h19 := hG.1.lt h19
  refine lv_aload_n S.1 S.2.1 dL_law_1929 rfl (lv_at hl 1 rfl) ?_
  refine lv_aload_n S.1 S.2.1 dL_law_1930 rfl (lv_at hl 0 rfl) ?_
  refine lv_iload S.1 S.2.1 dL_law_1931 (lv_at hl 5 rfl) ?_
  refine lv_iconst (v := 1) S.1 S.2.1 dL_law_1933 (by decide) ?_
  refine lv_iadd S.1 S.2.1 dL_law_1934 ?_
  refine fx_topi (y := 1) (by decide) ?_
  refine gx_sld (v := 1) S hG hX hbl (fin_l (by decide)) hx1 dL_law_1935 ?_
  refine lv_aload_n S.1 S.2.1 dL_law_1936 rfl (lv_at hl 0 rfl) ?_
  refine lv_iload S.1 S.2.1 dL_law_1937 (lv_at hl 5 rfl) ?_
  refine lv_iconst (v := 2) S.1 S.2.1 dL_law_1939 (by decide) ?_
  refine lv_iadd S.1 S.2.1 dL_law_1940 ?_
  refine fx_topi (y := 2) (by decide) ?_
  refine gx_sld (v := 1) S hG hX hbl (fin_l (by decide)) hx2 dL_law_1941 ?_
  refine lv_aload S.1 S.2.1 dL_law_1942 (lv_at hl 4 rfl) ?_
  refine fx_cTi (As := [.ref N0, .int 1, .int 1, .ref (N0 + 230)]) (rest := []) S hG (k1396_L_similarity (by omega) h0 h1 h2 h3 h4 h5 h6 h7 h8 h9 h10 h11 h12) (vx_cwSW 4 S.2.2.2.2 gL_law_L_similarity rfl rfl rfl (by decide +kernel) ⟨Nat.le_of_ble_eq_true rfl, Nat.le_of_ble_eq_true rfl⟩) rfl hl.1 rfl (Nat.le_of_ble_eq_true rfl) dL_law_1944 ⟨Nat.le_of_ble_eq_true rfl, Nat.le_of_ble_eq_true rfl⟩ (fun rv_1 _ H locs hp hG => ?_)
  subst rv_1
  refine lv_istore (lv' := [(6, .int 0), (0, .ref b), (1, .ref N0), (2, .ref (N0 + 164)), (3, .ref (N0 + 229)), (4, .ref (N0 + 230)), (5, .int 0)]) S.1 S.2.1 dL_law_1947 hl (by decide) rfl (fun ls hl => ?_)
  refine lv_aload_n S.1 S.2.1 dL_law_1949 rfl (lv_at hl 3 rfl) ?_
  refine lv_aload_n S.1 S.2.1 dL_law_1950 rfl (lv_at hl 1 rfl) ?_
  refine lv_iload S.1 S.2.1 dL_law_1951 (lv_at hl 6 rfl) ?_
  refine lv_iconst (v := 1) S.1 S.2.1 dL_law_1953 (by decide) ?_
  refine lv_iadd S.1 S.2.1 dL_law_1954 ?_
  refine fx_topi (y := 1) (by decide) ?_
  refine gx_sld (v := 1) S hG hX hbl (fin_l (by decide)) hx1 dL_law_1955 ?_
  refine lv_aload_n S.1 S.2.1 dL_law_1956 rfl (lv_at hl 1 rfl) ?_
  refine lv_iload S.1 S.2.1 dL_law_1957 (lv_at hl 6 rfl) ?_
  refine lv_iconst (v := 2) S.1 S.2.1 dL_law_1959 (by decide) ?_
  refine lv_iadd S.1 S.2.1 dL_law_1960 ?_
  refine fx_topi (y := 2) (by decide) ?_
  refine gx_sld (v := 1) S hG hX hbl (fin_l (by decide)) hx2 dL_law_1961 ?_
  refine fx_cVd (As := [.int 1, .int 1]) (rest := []) S hG (k1397_X10_similarity (by omega) (fu_at (by omega) (fu_at (by omega) (fu_at (by omega) (fu_at (by omega) (fu_at (by omega) (fu_at (by omega) h13)))))) (fu_at (by omega) (fu_at (by omega) (fu_at (by omega) (fu_at (by omega) (fu_at (by omega) (fu_at (by omega) h14)))))) (fu_at (by omega) (fu_at (by omega) (fu_at (by omega) (fu_at (by omega) (fu_at (by omega) (fu_at (by omega) h15)))))) (fu_at (by omega) (fu_at (by omega) (fu_at (by omega) (fu_at (by omega) (fu_at (by omega) (fu_at (by omega) h16)))))) (fu_at (by omega) (fu_at (by omega) (fu_at (by omega) (fu_at (by omega) (fu_at (by omega) (fu_at (by omega) h17)))))) (fu_at (by omega) (fu_at (by omega) (fu_at (by omega) (fu_at (by omega) (fu_at (by omega) (fu_at (by omega) h18)))))) (fu_at (by omega) (fu_at (by omega) (fu_at (by omega) (fu_at (by omega) (fu_at (by omega) (fu_at (by omega) h19))))))) (fu_at (by omega) (fu_at (by omega) (fu_at (by omega) (fu_at (by omega) (fu_at (by omega) (fu_at (by omega) h13)))))) rfl (cwV 2 S.2.2.2.2 gL_law_X10_similarity rfl rfl rfl (by decide +kernel) ⟨Nat.le_of_ble_eq_true rfl, Nat.le_of_ble_eq_true rfl⟩) rfl hl.1 rfl (Nat.le_of_ble_eq_true rfl) dL_law_1962 ⟨Nat.le_of_ble_eq_true rfl, Nat.le_of_ble_eq_true rfl⟩ (fun rv_2 _ H locs hp hG => ?_)
  subst rv_2
  refine W.widen (k := 235) (n := 4982) (by decide) (by decide) ?_
  refine lv_dstore (lv' := [(7, .double 4607182418800017408), (6, .int 0), (0, .ref b), (1, .ref N0), (2, .ref (N0 + 164)), (3, .ref (N0 + 229)), (4, .ref (N0 + 230)), (5, .int 0)]) S.1 S.2.1 dL_law_1965 hl (by decide) rfl (fun ls hl => ?_)
  refine lv_aload_n S.1 S.2.1 dL_law_1967 rfl (lv_at hl 4 rfl) ?_
  refine fx_cVi (As := []) (rest := []) S hG (k117_X10_thrown (by omega) (fblk_sk 4 rfl (by omega) (fu_at (by omega) fu_s))) (fblk_sk 4 rfl (by omega) (fu_at (by omega) fu_s)) rfl (cwV 0 S.2.2.2.2 gL_law_X10_thrown rfl rfl rfl (by decide +kernel) ⟨Nat.le_of_ble_eq_true rfl, Nat.le_of_ble_eq_true rfl⟩) rfl hl.1 rfl (Nat.le_of_ble_eq_true rfl) dL_law_1968 ⟨Nat.le_of_ble_eq_true rfl, Nat.le_of_ble_eq_true rfl⟩ (fun rv_3 _ H locs hp hG => ?_)
  subst rv_3
  refine lv_iload S.1 S.2.1 dL_law_1971 (lv_at hl 1 rfl) ?_
  refine lv_icmp_eq (tgt := 1978) S.1 S.2.1 dL_law_1973 (by decide) (fun _ => ?_) (fun c => absurd (by decide) c)
  refine lv_iload S.1 S.2.1 dL_law_1978 (lv_at hl 1 rfl) ?_
  refine lv_if_ne (tgt := 2015) S.1 S.2.1 dL_law_1980 (by decide) (fun c => absurd (by decide) c) (fun _ => ?_)
  refine lv_aload S.1 S.2.1 dL_law_1983 (lv_at hl 6 rfl) ?_
  refine lv_iconst (v := 0) S.1 S.2.1 dL_law_1985 (by decide) ?_
  refine gx_dald (v := 4607182418800017408) S hG 3 (fblk_sk 4 rfl (by omega) (fu_at (by omega) (fu_at (by omega) fu_s))) rfl (fin_l (by decide)) rfl dL_law_1986 ?_
  refine lv_dload S.1 S.2.1 dL_law_1987 (lv_at hl 0 rfl) ?_
  refine gx_dcmp (v := 0) S (by decide +kernel) dL_law_1989 ?_
  refine lv_if_eq (tgt := 2015) S.1 S.2.1 dL_law_1990 (by decide) (fun _ => ?_) (fun c => absurd (by decide) c)
  refine lv_goto (tgt := 2650) S.1 S.2.1 dL_law_2015 (by decide) ?_
  refine lv_iinc (v := 5) (lv' := [(5, .int 5), (7, .double 4607182418800017408), (6, .int 0), (0, .ref b), (1, .ref N0), (2, .ref (N0 + 164)), (3, .ref (N0 + 229)), (4, .ref (N0 + 230))]) S.1 S.2.1 dL_law_2650 hl (k := 7) rfl (by decide) (by decide) rfl (fun ls hl => ?_)
  refine lv_goto (tgt := 28) S.1 S.2.1 dL_law_2653 (by decide) ?_
  refine lv_iload S.1 S.2.1 dL_law_28 (lv_at hl 0 rfl) ?_
  refine lv_aload_n S.1 S.2.1 dL_law_30 rfl (lv_at hl 3 rfl) ?_
  refine gx_slen (v := 5) S hG hX hbl rfl dL_law_31 ?_
  refine lv_iconst (v := 5) S.1 S.2.1 dL_law_32 (by decide) ?_
  refine lv_isub S.1 S.2.1 dL_law_33 ?_
  refine fx_topi (y := 0) (by decide) ?_
  refine lv_icmp_gt (tgt := 2656) S.1 S.2.1 dL_law_34 (by decide) (fun _ => ?_) (fun c => absurd (by decide) c)
  refine lv_iconst (v := 1) S.1 S.2.1 dL_law_2656 (by decide) ?_
  refine va_forget (fun q hq => by rw [hN]; exact hG.2.1.2.2 q hq) ?_
  refine W.widen (k := 600002) (n := 7302232) (by decide) (by decide) ?_
  exact lw_ret (d0 := s.drawn) (Drawn.sameBut.refl _ _) S.1 S.2.1 hr hlocks dL_law_2657
theorem l25_9 {p : Program} {e : Env} {s : State} {m : MethodId} {below : List Frame} {meth : Method} {c : Code} {b : Nat} {xs : Nat → Int32} {H : Heap} {locs : List Loc} {ls : Array Slot} {n : Nat} {a3 a4 : Int32} (S : CallFix p m c cL_law 9 s #[.ref b] wsL_law "TreeDifferLaw") (hr : meth.sig.returnType = ret) (hlocks : meth.locks = false) (hst : l.stackTraces = false) (hX : va_X b 5 xs s s.heap) (hbl : b < s.heap.size ∧ b < N0) (hN : s.heap.size = N0) (hn : N0 + 231 ≤ n) (hx1 : xs 1 = 1) (hx2 : xs 2 = 2) (hx3 : xs 3 = a3) (hx4 : xs 4 = a4) (h0 : F N0 = some (.inr (9, [.ref (N0 + 1), .ref (N0 + 2), .ref (N0 + 11), .ref (N0 + 13), .ref (N0 + 63), .ref (N0 + 65), .ref (N0 + 85), .int (-1), .int (-1), .int 32]))) (h1 : F (N0 + 1) = some (.inl (cTr, 3, .inr (.inr (.inr (.inr (va_up (va_up (va_up (fun _ => none) 0 (some (N0 + 143))) 1 (some (N0 + 150))) 2 (some (N0 + 157))))))))) (h2 : F (N0 + 13) = some (.inr (3, [.ref (N0 + 14), .ref (N0 + 35), .ref (N0 + 57), .ref (N0 + 58), .ref (N0 + 59), .ref (N0 + 60), .int 0, .int 0, .ref (N0 + 61), .ref (N0 + 62)]))) (h3 : F (N0 + 150) = some (.inr (7, [.ref (N0 + 151), .ref (N0 + 152), .ref (N0 + 153), .ref (N0 + 154), .ref (N0 + 155), .ref (N0 + 156), .int 1]))) (h4 : F (N0 + 57) = some (.inl (cI, 20, .inl (fun _ => 0)))) (h5 : F (N0 + 157) = some (.inr (7, [.ref (N0 + 158), .ref (N0 + 159), .ref (N0 + 160), .ref (N0 + 161), .ref (N0 + 162), .ref (N0 + 163), .int 1]))) (h6 : F (N0 + 58) = some (.inl (cI, 20, .inl (fun _ => 0)))) (h7 : F (N0 + 35) = some (.inl (cII, 21, .inr (.inr (.inr (.inr (fun j => if j < 21 then some ((N0 + 36) + j) else none))))))) (h8 : F (N0 + 36) = some (.inl (cI, 21, .inl (fun _ => 0)))) (h9 : F (N0 + 14) = some (.inl (cII, 20, .inr (.inr (.inr (.inr (fun j => if j < 20 then some ((N0 + 15) + j) else none))))))) (h10 : F (N0 + 151) = some (.inl (cC, 20, .inl (upd (fun _ => 0) 0 97)))) (h11 : F (N0 + 158) = some (.inl (cC, 20, .inl (upd (fun _ => 0) 0 97)))) (h12 : F (N0 + 153) = some (.inl (cI, 20, .inl (fun _ => 0)))) (h13 : F (N0 + 160) = some (.inl (cI, 20, .inl (fun _ => 0)))) (h14 : F (N0 + 15) = some (.inl (cI, 20, .inl (fun _ => 0)))) (h15 : F (N0 + 230) = some (.inl (cD, 1, .inr (.inr (.inr (.inl (fun _ => 0))))))) (h16 : F (N0 + 164) = some (.inr (12, [.ref (N0 + 165), .int 0, .ref (N0 + 181), .int 0, .int 0, .int 0, .int (-1), .ref (ql 24), .ref (N0 + 182), .ref (N0 + 187), .ref (N0 + 208), .ref (N0 + 209), .ref (N0 + 210), .ref (N0 + 211), .ref (N0 + 212), .int 0, .ref (N0 + 213), .ref (N0 + 218), .ref (N0 + 223), .ref (N0 + 224), .ref (N0 + 225), .ref (N0 + 226), .ref (N0 + 227), .int 0, .int 0, .ref (N0 + 228), .null, .int (-1), .int 0, .int 0, .int 0]))) (h17 : F (N0 + 165) = some (.inl (cTm, 3, .inr (.inr (.inr (.inr (va_up (va_up (va_up (fun _ => none) 0 (some (N0 + 166))) 1 (some (N0 + 171))) 2 (some (N0 + 176))))))))) (h18 : F (N0 + 171) = some (.inr (11, [.ref (N0 + 172), .ref (N0 + 173), .ref (N0 + 174), .ref (N0 + 175), .int 1]))) (h19 : F (N0 + 176) = some (.inr (11, [.ref (N0 + 177), .ref (N0 + 178), .ref (N0 + 179), .ref (N0 + 180), .int 1]))) (h20 : F (N0 + 172) = some (.inl (cI, 20, .inl (upd (fun _ => 0) 0 97)))) (h21 : F (N0 + 177) = some (.inl (cI, 20, .inl (upd (fun _ => 0) 0 97)))) (h22 : F (N0 + 174) = some (.inl (cI, 20, .inl (upd (fun _ => 0) 0 0)))) (h23 : F (N0 + 179) = some (.inl (cI, 20, .inl (upd (fun _ => 0) 0 0)))) (h24 : F (N0 + 187) = some (.inl (cII, 20, .inr (.inr (.inr (.inr (fun j => if j < 20 then some ((N0 + 188) + j) else none))))))) (h25 : F (N0 + 188) = some (.inl (cI, 20, .inl (fun _ => 0)))) (hG : fG N0 D vwCl (fty cI cC cL cD cII cTr cTm cIt cB) (fen ql) s F n H locs) (hl : lv_has ls 9 [(0, .ref b), (1, .ref N0), (2, .ref (N0 + 164)), (3, .ref (N0 + 229)), (4, .ref (N0 + 230)), (5, .int 0)]) : W p l e { frames := 2048, cells := 600002, slots := 7302232, locals := 84000 } s m #[.ref b] below meth c H locs 231 4980 (lw_Z below #[.ref b] s) (F0 m 1929 ls []) := by
  have lt_h0 := hG.1.lt h0
  have lt_h1 := hG.1.lt h1
  have lt_h2 := hG.1.lt h2
  have lt_h3 := hG.1.lt h3
  have lt_h4 := hG.1.lt h4
  have lt_h5 := hG.1.lt h5
  have lt_h6 := hG.1.lt h6
  have lt_h7 := hG.1.lt h7
  have lt_h8 := hG.1.lt h8
  have lt_h9 := hG.1.lt h9
  have lt_h10 := hG.1.lt h10
  have lt_h11 := hG.1.lt h11
  have lt_h12 := hG.1.lt h12
  have lt_h13 := hG.1.lt h13
  have lt_h14 := hG.1.lt h14
  have lt_h15 := hG.1.lt h15
  have lt_h16 := hG.1.lt h16
  have lt_h17 := hG.1.lt h17
  have lt_h18 := hG.1.lt h18
  have lt_h19 := hG.1.lt h19
  have lt_h20 := hG.1.lt h20
  have lt_h21 := hG.1.lt h21
  have lt_h22 := hG.1.lt h22
  have lt_h23 := hG.1.lt h23
  have lt_h24 := hG.1.lt h24
  have lt_h25 := hG.1.lt h25
  refine lv_aload_n S.1 S.2.1 dL_law_1929 rfl (lv_at hl 1 rfl) ?_
  refine lv_aload_n S.1 S.2.1 dL_law_1930 rfl (lv_at hl 0 rfl) ?_
  refine lv_iload S.1 S.2.1 dL_law_1931 (lv_at hl 5 rfl) ?_
  refine lv_iconst (v := 1) S.1 S.2.1 dL_law_1933 (by decide) ?_
  refine lv_iadd S.1 S.2.1 dL_law_1934 ?_
  refine fx_topi (y := 1) (by decide) ?_
  refine gx_sld (v := 1) S hG hX hbl (fin_l (by decide)) hx1 dL_law_1935 ?_
  refine lv_aload_n S.1 S.2.1 dL_law_1936 rfl (lv_at hl 0 rfl) ?_
  refine lv_iload S.1 S.2.1 dL_law_1937 (lv_at hl 5 rfl) ?_
  refine lv_iconst (v := 2) S.1 S.2.1 dL_law_1939 (by decide) ?_
  refine lv_iadd S.1 S.2.1 dL_law_1940 ?_
  refine fx_topi (y := 2) (by decide) ?_
  refine gx_sld (v := 2) S hG hX hbl (fin_l (by decide)) hx2 dL_law_1941 ?_
  refine lv_aload S.1 S.2.1 dL_law_1942 (lv_at hl 4 rfl) ?_
  refine fx_cTi (As := [.ref N0, .int 1, .int 2, .ref (N0 + 230)]) (rest := []) S hG (k1399_L_similarity (by omega) h0 h1 h2 h3 h4 h5 h6 h7 h8 h9 h10 h11 h12 h13 h14 h15) (vx_cwSW 4 S.2.2.2.2 gL_law_L_similarity rfl rfl rfl (by decide +kernel) ⟨Nat.le_of_ble_eq_true rfl, Nat.le_of_ble_eq_true rfl⟩) rfl hl.1 rfl (Nat.le_of_ble_eq_true rfl) dL_law_1944 ⟨Nat.le_of_ble_eq_true rfl, Nat.le_of_ble_eq_true rfl⟩ (fun rv_1 _ H locs hp hG => ?_)
  subst rv_1
  refine lv_istore (lv' := [(6, .int 0), (0, .ref b), (1, .ref N0), (2, .ref (N0 + 164)), (3, .ref (N0 + 229)), (4, .ref (N0 + 230)), (5, .int 0)]) S.1 S.2.1 dL_law_1947 hl (by decide) rfl (fun ls hl => ?_)
  refine lv_aload_n S.1 S.2.1 dL_law_1949 rfl (lv_at hl 3 rfl) ?_
  refine lv_aload_n S.1 S.2.1 dL_law_1950 rfl (lv_at hl 1 rfl) ?_
  refine lv_iload S.1 S.2.1 dL_law_1951 (lv_at hl 6 rfl) ?_
  refine lv_iconst (v := 1) S.1 S.2.1 dL_law_1953 (by decide) ?_
  refine lv_iadd S.1 S.2.1 dL_law_1954 ?_
  refine fx_topi (y := 1) (by decide) ?_
  refine gx_sld (v := 1) S hG hX hbl (fin_l (by decide)) hx1 dL_law_1955 ?_
  refine lv_aload_n S.1 S.2.1 dL_law_1956 rfl (lv_at hl 1 rfl) ?_
  refine lv_iload S.1 S.2.1 dL_law_1957 (lv_at hl 6 rfl) ?_
  refine lv_iconst (v := 2) S.1 S.2.1 dL_law_1959 (by decide) ?_
  refine lv_iadd S.1 S.2.1 dL_law_1960 ?_
  refine fx_topi (y := 2) (by decide) ?_
  refine gx_sld (v := 2) S hG hX hbl (fin_l (by decide)) hx2 dL_law_1961 ?_
  refine fx_cVd (As := [.int 1, .int 2]) (rest := []) S hG (k1400_X10_similarity (by omega) (fu_at (by omega) (fu_at (by omega) (fu_at (by omega) (fu_at (by omega) (fu_at (by omega) (fu_at (by omega) h16)))))) (fu_at (by omega) (fu_at (by omega) (fu_at (by omega) (fu_at (by omega) (fu_at (by omega) (fu_at (by omega) h17)))))) (fu_at (by omega) (fu_at (by omega) (fu_at (by omega) (fu_at (by omega) (fu_at (by omega) (fu_at (by omega) h18)))))) (fu_at (by omega) (fu_at (by omega) (fu_at (by omega) (fu_at (by omega) (fu_at (by omega) (fu_at (by omega) h19)))))) (fu_at (by omega) (fu_at (by omega) (fu_at (by omega) (fu_at (by omega) (fu_at (by omega) (fu_at (by omega) h20)))))) (fu_at (by omega) (fu_at (by omega) (fu_at (by omega) (fu_at (by omega) (fu_at (by omega) (fu_at (by omega) h21)))))) (fu_at (by omega) (fu_at (by omega) (fu_at (by omega) (fu_at (by omega) (fu_at (by omega) (fu_at (by omega) h22)))))) (fu_at (by omega) (fu_at (by omega) (fu_at (by omega) (fu_at (by omega) (fu_at (by omega) (fu_at (by omega) h23)))))) (fu_at (by omega) (fu_at (by omega) (fu_at (by omega) (fu_at (by omega) (fu_at (by omega) (fu_at (by omega) h24)))))) (fu_at (by omega) (fu_at (by omega) (fu_at (by omega) (fu_at (by omega) (fu_at (by omega) (fu_at (by omega) h25))))))) (fu_at (by omega) (fu_at (by omega) (fu_at (by omega) (fu_at (by omega) (fu_at (by omega) (fu_at (by omega) h16)))))) rfl (cwV 2 S.2.2.2.2 gL_law_X10_similarity rfl rfl rfl (by decide +kernel) ⟨Nat.le_of_ble_eq_true rfl, Nat.le_of_ble_eq_true rfl⟩) rfl hl.1 rfl (Nat.le_of_ble_eq_true rfl) dL_law_1962 ⟨Nat.le_of_ble_eq_true rfl, Nat.le_of_ble_eq_true rfl⟩ (fun rv_2 _ H locs hp hG => ?_)
  subst rv_2
  refine W.widen (k := 235) (n := 4982) (by decide) (by decide) ?_
  refine lv_dstore (lv' := [(7, .double 4607182418800017408), (6, .int 0), (0, .ref b), (1, .ref N0), (2, .ref (N0 + 164)), (3, .ref (N0 + 229)), (4, .ref (N0 + 230)), (5, .int 0)]) S.1 S.2.1 dL_law_1965 hl (by decide) rfl (fun ls hl => ?_)
  refine lv_aload_n S.1 S.2.1 dL_law_1967 rfl (lv_at hl 4 rfl) ?_
  refine fx_cVi (As := []) (rest := []) S hG (k117_X10_thrown (by omega) (fblk_sk 4 rfl (by omega) (fu_at (by omega) fu_s))) (fblk_sk 4 rfl (by omega) (fu_at (by omega) fu_s)) rfl (cwV 0 S.2.2.2.2 gL_law_X10_thrown rfl rfl rfl (by decide +kernel) ⟨Nat.le_of_ble_eq_true rfl, Nat.le_of_ble_eq_true rfl⟩) rfl hl.1 rfl (Nat.le_of_ble_eq_true rfl) dL_law_1968 ⟨Nat.le_of_ble_eq_true rfl, Nat.le_of_ble_eq_true rfl⟩ (fun rv_3 _ H locs hp hG => ?_)
  subst rv_3
  refine lv_iload S.1 S.2.1 dL_law_1971 (lv_at hl 1 rfl) ?_
  refine lv_icmp_eq (tgt := 1978) S.1 S.2.1 dL_law_1973 (by decide) (fun _ => ?_) (fun c => absurd (by decide) c)
  refine lv_iload S.1 S.2.1 dL_law_1978 (lv_at hl 1 rfl) ?_
  refine lv_if_ne (tgt := 2015) S.1 S.2.1 dL_law_1980 (by decide) (fun c => absurd (by decide) c) (fun _ => ?_)
  refine lv_aload S.1 S.2.1 dL_law_1983 (lv_at hl 6 rfl) ?_
  refine lv_iconst (v := 0) S.1 S.2.1 dL_law_1985 (by decide) ?_
  refine gx_dald (v := 4607182418800017408) S hG 3 (fblk_sk 4 rfl (by omega) (fu_at (by omega) (fu_at (by omega) fu_s))) rfl (fin_l (by decide)) rfl dL_law_1986 ?_
  refine lv_dload S.1 S.2.1 dL_law_1987 (lv_at hl 0 rfl) ?_
  refine gx_dcmp (v := 0) S (by decide +kernel) dL_law_1989 ?_
  refine lv_if_eq (tgt := 2015) S.1 S.2.1 dL_law_1990 (by decide) (fun _ => ?_) (fun c => absurd (by decide) c)
  refine lv_goto (tgt := 2650) S.1 S.2.1 dL_law_2015 (by decide) ?_
  refine lv_iinc (v := 5) (lv' := [(5, .int 5), (7, .double 4607182418800017408), (6, .int 0), (0, .ref b), (1, .ref N0), (2, .ref (N0 + 164)), (3, .ref (N0 + 229)), (4, .ref (N0 + 230))]) S.1 S.2.1 dL_law_2650 hl (k := 7) rfl (by decide) (by decide) rfl (fun ls hl => ?_)
  refine lv_goto (tgt := 28) S.1 S.2.1 dL_law_2653 (by decide) ?_
  refine lv_iload S.1 S.2.1 dL_law_28 (lv_at hl 0 rfl) ?_
  refine lv_aload_n S.1 S.2.1 dL_law_30 rfl (lv_at hl 3 rfl) ?_
  refine gx_slen (v := 5) S hG hX hbl rfl dL_law_31 ?_
  refine lv_iconst (v := 5) S.1 S.2.1 dL_law_32 (by decide) ?_
  refine lv_isub S.1 S.2.1 dL_law_33 ?_
  refine fx_topi (y := 0) (by decide) ?_
  refine lv_icmp_gt (tgt := 2656) S.1 S.2.1 dL_law_34 (by decide) (fun _ => ?_) (fun c => absurd (by decide) c)
  refine lv_iconst (v := 1) S.1 S.2.1 dL_law_2656 (by decide) ?_
  refine va_forget (fun q hq => by rw [hN]; exact hG.2.1.2.2 q hq) ?_
  refine W.widen (k := 600002) (n := 7302232) (by decide) (by decide) ?_
  exact lw_ret (d0 := s.drawn) (Drawn.sameBut.refl _ _) S.1 S.2.1 hr hlocks dL_law_2657
theorem l25_10 {p : Program} {e : Env} {s : State} {m : MethodId} {below : List Frame} {meth : Method} {c : Code} {b : Nat} {xs : Nat → Int32} {H : Heap} {locs : List Loc} {ls : Array Slot} {n : Nat} {a2 a3 a4 : Int32} (g_a2_ge_3 : 3 ≤ a2) (S : CallFix p m c cL_law 9 s #[.ref b] wsL_law "TreeDifferLaw") (hr : meth.sig.returnType = ret) (hlocks : meth.locks = false) (hst : l.stackTraces = false) (hX : va_X b 5 xs s s.heap) (hbl : b < s.heap.size ∧ b < N0) (hN : s.heap.size = N0) (hn : N0 + 231 ≤ n) (hx1 : xs 1 = 1) (hx2 : xs 2 = a2) (hx3 : xs 3 = a3) (hx4 : xs 4 = a4) (h0 : F N0 = some (.inr (9, [.ref (N0 + 1), .ref (N0 + 2), .ref (N0 + 11), .ref (N0 + 13), .ref (N0 + 63), .ref (N0 + 65), .ref (N0 + 85), .int (-1), .int (-1), .int 32]))) (h1 : F (N0 + 1) = some (.inl (cTr, 3, .inr (.inr (.inr (.inr (va_up (va_up (va_up (fun _ => none) 0 (some (N0 + 143))) 1 (some (N0 + 150))) 2 (some (N0 + 157))))))))) (h2 : F (N0 + 164) = some (.inr (12, [.ref (N0 + 165), .int 0, .ref (N0 + 181), .int 0, .int 0, .int 0, .int (-1), .ref (ql 24), .ref (N0 + 182), .ref (N0 + 187), .ref (N0 + 208), .ref (N0 + 209), .ref (N0 + 210), .ref (N0 + 211), .ref (N0 + 212), .int 0, .ref (N0 + 213), .ref (N0 + 218), .ref (N0 + 223), .ref (N0 + 224), .ref (N0 + 225), .ref (N0 + 226), .ref (N0 + 227), .int 0, .int 0, .ref (N0 + 228), .null, .int (-1), .int 0, .int 0, .int 0]))) (hG : fG N0 D vwCl (fty cI cC cL cD cII cTr cTm cIt cB) (fen ql) s F n H locs) (hl : lv_has ls 9 [(0, .ref b), (1, .ref N0), (2, .ref (N0 + 164)), (3, .ref (N0 + 229)), (4, .ref (N0 + 230)), (5, .int 0)]) : W p l e { frames := 2048, cells := 600002, slots := 7302232, locals := 84000 } s m #[.ref b] below meth c H locs 231 4980 (lw_Z below #[.ref b] s) (F0 m 1929 ls []) := by
  have lt_h0 := hG.1.lt h0
  have lt_h1 := hG.1.lt h1
  have lt_h2 := hG.1.lt h2
  refine lv_aload_n S.1 S.2.1 dL_law_1929 rfl (lv_at hl 1 rfl) ?_
  refine lv_aload_n S.1 S.2.1 dL_law_1930 rfl (lv_at hl 0 rfl) ?_
  refine lv_iload S.1 S.2.1 dL_law_1931 (lv_at hl 5 rfl) ?_
  refine lv_iconst (v := 1) S.1 S.2.1 dL_law_1933 (by decide) ?_
  refine lv_iadd S.1 S.2.1 dL_law_1934 ?_
  refine fx_topi (y := 1) (by decide) ?_
  refine gx_sld (v := 1) S hG hX hbl (fin_l (by decide)) hx1 dL_law_1935 ?_
  refine lv_aload_n S.1 S.2.1 dL_law_1936 rfl (lv_at hl 0 rfl) ?_
  refine lv_iload S.1 S.2.1 dL_law_1937 (lv_at hl 5 rfl) ?_
  refine lv_iconst (v := 2) S.1 S.2.1 dL_law_1939 (by decide) ?_
  refine lv_iadd S.1 S.2.1 dL_law_1940 ?_
  refine fx_topi (y := 2) (by decide) ?_
  refine gx_sld (v := a2) S hG hX hbl (fin_l (by decide)) hx2 dL_law_1941 ?_
  refine lv_aload S.1 S.2.1 dL_law_1942 (lv_at hl 4 rfl) ?_
  refine fx_cTi (As := [.ref N0, .int 1, .int a2, .ref (N0 + 230)]) (rest := []) S hG (k1402_L_similarity g_a2_ge_3 hst (by omega) h0 h1) (vx_cwSW 4 S.2.2.2.2 gL_law_L_similarity rfl rfl rfl (by decide +kernel) ⟨Nat.le_of_ble_eq_true rfl, Nat.le_of_ble_eq_true rfl⟩) rfl hl.1 rfl (Nat.le_of_ble_eq_true rfl) dL_law_1944 ⟨Nat.le_of_ble_eq_true rfl, Nat.le_of_ble_eq_true rfl⟩ (fun rv_u_1 u_1 H locs hp hG => ?_)
  obtain ⟨rfl, hu_1⟩ := hp
  refine W.widen (k := 232) (n := 4986) (by decide) (by decide) ?_
  refine lv_istore (lv' := [(6, .int 1), (0, .ref b), (1, .ref N0), (2, .ref (N0 + 164)), (3, .ref (N0 + 229)), (4, .ref (N0 + 230)), (5, .int 0)]) S.1 S.2.1 dL_law_1947 hl (by decide) rfl (fun ls hl => ?_)
  refine lv_aload_n S.1 S.2.1 dL_law_1949 rfl (lv_at hl 3 rfl) ?_
  refine lv_aload_n S.1 S.2.1 dL_law_1950 rfl (lv_at hl 1 rfl) ?_
  refine lv_iload S.1 S.2.1 dL_law_1951 (lv_at hl 6 rfl) ?_
  refine lv_iconst (v := 1) S.1 S.2.1 dL_law_1953 (by decide) ?_
  refine lv_iadd S.1 S.2.1 dL_law_1954 ?_
  refine fx_topi (y := 1) (by decide) ?_
  refine gx_sld (v := 1) S hG hX hbl (fin_l (by decide)) hx1 dL_law_1955 ?_
  refine lv_aload_n S.1 S.2.1 dL_law_1956 rfl (lv_at hl 1 rfl) ?_
  refine lv_iload S.1 S.2.1 dL_law_1957 (lv_at hl 6 rfl) ?_
  refine lv_iconst (v := 2) S.1 S.2.1 dL_law_1959 (by decide) ?_
  refine lv_iadd S.1 S.2.1 dL_law_1960 ?_
  refine fx_topi (y := 2) (by decide) ?_
  refine gx_sld (v := a2) S hG hX hbl (fin_l (by decide)) hx2 dL_law_1961 ?_
  refine fx_cVd (As := [.int 1, .int a2]) (rest := []) S hG (k1403_X10_similarity g_a2_ge_3 (by omega) h2) h2 rfl (cwV 2 S.2.2.2.2 gL_law_X10_similarity rfl rfl rfl (by decide +kernel) ⟨Nat.le_of_ble_eq_true rfl, Nat.le_of_ble_eq_true rfl⟩) rfl hl.1 rfl (Nat.le_of_ble_eq_true rfl) dL_law_1962 ⟨Nat.le_of_ble_eq_true rfl, Nat.le_of_ble_eq_true rfl⟩ (fun rv_2 _ H locs hp hG => ?_)
  subst rv_2
  refine lv_dstore (lv' := [(7, .double 0), (6, .int 1), (0, .ref b), (1, .ref N0), (2, .ref (N0 + 164)), (3, .ref (N0 + 229)), (4, .ref (N0 + 230)), (5, .int 0)]) S.1 S.2.1 dL_law_1965 hl (by decide) rfl (fun ls hl => ?_)
  refine lv_aload_n S.1 S.2.1 dL_law_1967 rfl (lv_at hl 4 rfl) ?_
  refine fx_cVi (As := []) (rest := []) S hG (k25_X10_thrown (by omega) fu_s) fu_s rfl (cwV 0 S.2.2.2.2 gL_law_X10_thrown rfl rfl rfl (by decide +kernel) ⟨Nat.le_of_ble_eq_true rfl, Nat.le_of_ble_eq_true rfl⟩) rfl hl.1 rfl (Nat.le_of_ble_eq_true rfl) dL_law_1968 ⟨Nat.le_of_ble_eq_true rfl, Nat.le_of_ble_eq_true rfl⟩ (fun rv_3 _ H locs hp hG => ?_)
  subst rv_3
  refine lv_iload S.1 S.2.1 dL_law_1971 (lv_at hl 1 rfl) ?_
  refine lv_icmp_eq (tgt := 1978) S.1 S.2.1 dL_law_1973 (by decide) (fun _ => ?_) (fun c => absurd (by decide) c)
  refine lv_iload S.1 S.2.1 dL_law_1978 (lv_at hl 1 rfl) ?_
  refine lv_if_ne (tgt := 2015) S.1 S.2.1 dL_law_1980 (by decide) (fun _ => ?_) (fun c => absurd c (by decide))
  refine lv_goto (tgt := 2650) S.1 S.2.1 dL_law_2015 (by decide) ?_
  refine lv_iinc (v := 5) (lv' := [(5, .int 5), (7, .double 0), (6, .int 1), (0, .ref b), (1, .ref N0), (2, .ref (N0 + 164)), (3, .ref (N0 + 229)), (4, .ref (N0 + 230))]) S.1 S.2.1 dL_law_2650 hl (k := 7) rfl (by decide) (by decide) rfl (fun ls hl => ?_)
  refine lv_goto (tgt := 28) S.1 S.2.1 dL_law_2653 (by decide) ?_
  refine lv_iload S.1 S.2.1 dL_law_28 (lv_at hl 0 rfl) ?_
  refine lv_aload_n S.1 S.2.1 dL_law_30 rfl (lv_at hl 3 rfl) ?_
  refine gx_slen (v := 5) S hG hX hbl rfl dL_law_31 ?_
  refine lv_iconst (v := 5) S.1 S.2.1 dL_law_32 (by decide) ?_
  refine lv_isub S.1 S.2.1 dL_law_33 ?_
  refine fx_topi (y := 0) (by decide) ?_
  refine lv_icmp_gt (tgt := 2656) S.1 S.2.1 dL_law_34 (by decide) (fun _ => ?_) (fun c => absurd (by decide) c)
  refine lv_iconst (v := 1) S.1 S.2.1 dL_law_2656 (by decide) ?_
  refine va_forget (fun q hq => by rw [hN]; exact hG.2.1.2.2 q hq) ?_
  refine W.widen (k := 600002) (n := 7302232) (by decide) (by decide) ?_
  exact lw_ret (d0 := s.drawn) (Drawn.sameBut.refl _ _) S.1 S.2.1 hr hlocks dL_law_2657
theorem l25_11 {p : Program} {e : Env} {s : State} {m : MethodId} {below : List Frame} {meth : Method} {c : Code} {b : Nat} {xs : Nat → Int32} {H : Heap} {locs : List Loc} {ls : Array Slot} {n : Nat} {a2 a3 a4 : Int32} (g_a2_le_m1 : a2 ≤ (-1)) (S : CallFix p m c cL_law 9 s #[.ref b] wsL_law "TreeDifferLaw") (hr : meth.sig.returnType = ret) (hlocks : meth.locks = false) (hst : l.stackTraces = false) (hX : va_X b 5 xs s s.heap) (hbl : b < s.heap.size ∧ b < N0) (hN : s.heap.size = N0) (hn : N0 + 231 ≤ n) (hx1 : xs 1 = 2) (hx2 : xs 2 = a2) (hx3 : xs 3 = a3) (hx4 : xs 4 = a4) (h0 : F N0 = some (.inr (9, [.ref (N0 + 1), .ref (N0 + 2), .ref (N0 + 11), .ref (N0 + 13), .ref (N0 + 63), .ref (N0 + 65), .ref (N0 + 85), .int (-1), .int (-1), .int 32]))) (h1 : F (N0 + 1) = some (.inl (cTr, 3, .inr (.inr (.inr (.inr (va_up (va_up (va_up (fun _ => none) 0 (some (N0 + 143))) 1 (some (N0 + 150))) 2 (some (N0 + 157))))))))) (h2 : F (N0 + 164) = some (.inr (12, [.ref (N0 + 165), .int 0, .ref (N0 + 181), .int 0, .int 0, .int 0, .int (-1), .ref (ql 24), .ref (N0 + 182), .ref (N0 + 187), .ref (N0 + 208), .ref (N0 + 209), .ref (N0 + 210), .ref (N0 + 211), .ref (N0 + 212), .int 0, .ref (N0 + 213), .ref (N0 + 218), .ref (N0 + 223), .ref (N0 + 224), .ref (N0 + 225), .ref (N0 + 226), .ref (N0 + 227), .int 0, .int 0, .ref (N0 + 228), .null, .int (-1), .int 0, .int 0, .int 0]))) (hG : fG N0 D vwCl (fty cI cC cL cD cII cTr cTm cIt cB) (fen ql) s F n H locs) (hl : lv_has ls 9 [(0, .ref b), (1, .ref N0), (2, .ref (N0 + 164)), (3, .ref (N0 + 229)), (4, .ref (N0 + 230)), (5, .int 0)]) : W p l e { frames := 2048, cells := 600002, slots := 7302232, locals := 84000 } s m #[.ref b] below meth c H locs 231 4980 (lw_Z below #[.ref b] s) (F0 m 1929 ls []) := by
  have lt_h0 := hG.1.lt h0
  have lt_h1 := hG.1.lt h1
  have lt_h2 := hG.1.lt h2
  refine lv_aload_n S.1 S.2.1 dL_law_1929 rfl (lv_at hl 1 rfl) ?_
  refine lv_aload_n S.1 S.2.1 dL_law_1930 rfl (lv_at hl 0 rfl) ?_
  refine lv_iload S.1 S.2.1 dL_law_1931 (lv_at hl 5 rfl) ?_
  refine lv_iconst (v := 1) S.1 S.2.1 dL_law_1933 (by decide) ?_
  refine lv_iadd S.1 S.2.1 dL_law_1934 ?_
  refine fx_topi (y := 1) (by decide) ?_
  refine gx_sld (v := 2) S hG hX hbl (fin_l (by decide)) hx1 dL_law_1935 ?_
  refine lv_aload_n S.1 S.2.1 dL_law_1936 rfl (lv_at hl 0 rfl) ?_
  refine lv_iload S.1 S.2.1 dL_law_1937 (lv_at hl 5 rfl) ?_
  refine lv_iconst (v := 2) S.1 S.2.1 dL_law_1939 (by decide) ?_
  refine lv_iadd S.1 S.2.1 dL_law_1940 ?_
  refine fx_topi (y := 2) (by decide) ?_
  refine gx_sld (v := a2) S hG hX hbl (fin_l (by decide)) hx2 dL_law_1941 ?_
  refine lv_aload S.1 S.2.1 dL_law_1942 (lv_at hl 4 rfl) ?_
  refine fx_cTi (As := [.ref N0, .int 2, .int a2, .ref (N0 + 230)]) (rest := []) S hG (k1405_L_similarity g_a2_le_m1 hst (by omega) h0 h1) (vx_cwSW 4 S.2.2.2.2 gL_law_L_similarity rfl rfl rfl (by decide +kernel) ⟨Nat.le_of_ble_eq_true rfl, Nat.le_of_ble_eq_true rfl⟩) rfl hl.1 rfl (Nat.le_of_ble_eq_true rfl) dL_law_1944 ⟨Nat.le_of_ble_eq_true rfl, Nat.le_of_ble_eq_true rfl⟩ (fun rv_u_1 u_1 H locs hp hG => ?_)
  obtain ⟨rfl, hu_1⟩ := hp
  refine W.widen (k := 232) (n := 4986) (by decide) (by decide) ?_
  refine lv_istore (lv' := [(6, .int 1), (0, .ref b), (1, .ref N0), (2, .ref (N0 + 164)), (3, .ref (N0 + 229)), (4, .ref (N0 + 230)), (5, .int 0)]) S.1 S.2.1 dL_law_1947 hl (by decide) rfl (fun ls hl => ?_)
  refine lv_aload_n S.1 S.2.1 dL_law_1949 rfl (lv_at hl 3 rfl) ?_
  refine lv_aload_n S.1 S.2.1 dL_law_1950 rfl (lv_at hl 1 rfl) ?_
  refine lv_iload S.1 S.2.1 dL_law_1951 (lv_at hl 6 rfl) ?_
  refine lv_iconst (v := 1) S.1 S.2.1 dL_law_1953 (by decide) ?_
  refine lv_iadd S.1 S.2.1 dL_law_1954 ?_
  refine fx_topi (y := 1) (by decide) ?_
  refine gx_sld (v := 2) S hG hX hbl (fin_l (by decide)) hx1 dL_law_1955 ?_
  refine lv_aload_n S.1 S.2.1 dL_law_1956 rfl (lv_at hl 1 rfl) ?_
  refine lv_iload S.1 S.2.1 dL_law_1957 (lv_at hl 6 rfl) ?_
  refine lv_iconst (v := 2) S.1 S.2.1 dL_law_1959 (by decide) ?_
  refine lv_iadd S.1 S.2.1 dL_law_1960 ?_
  refine fx_topi (y := 2) (by decide) ?_
  refine gx_sld (v := a2) S hG hX hbl (fin_l (by decide)) hx2 dL_law_1961 ?_
  refine fx_cVd (As := [.int 2, .int a2]) (rest := []) S hG (k1406_X10_similarity g_a2_le_m1 (by omega) h2) h2 rfl (cwV 2 S.2.2.2.2 gL_law_X10_similarity rfl rfl rfl (by decide +kernel) ⟨Nat.le_of_ble_eq_true rfl, Nat.le_of_ble_eq_true rfl⟩) rfl hl.1 rfl (Nat.le_of_ble_eq_true rfl) dL_law_1962 ⟨Nat.le_of_ble_eq_true rfl, Nat.le_of_ble_eq_true rfl⟩ (fun rv_2 _ H locs hp hG => ?_)
  subst rv_2
  refine lv_dstore (lv' := [(7, .double 0), (6, .int 1), (0, .ref b), (1, .ref N0), (2, .ref (N0 + 164)), (3, .ref (N0 + 229)), (4, .ref (N0 + 230)), (5, .int 0)]) S.1 S.2.1 dL_law_1965 hl (by decide) rfl (fun ls hl => ?_)
  refine lv_aload_n S.1 S.2.1 dL_law_1967 rfl (lv_at hl 4 rfl) ?_
  refine fx_cVi (As := []) (rest := []) S hG (k25_X10_thrown (by omega) fu_s) fu_s rfl (cwV 0 S.2.2.2.2 gL_law_X10_thrown rfl rfl rfl (by decide +kernel) ⟨Nat.le_of_ble_eq_true rfl, Nat.le_of_ble_eq_true rfl⟩) rfl hl.1 rfl (Nat.le_of_ble_eq_true rfl) dL_law_1968 ⟨Nat.le_of_ble_eq_true rfl, Nat.le_of_ble_eq_true rfl⟩ (fun rv_3 _ H locs hp hG => ?_)
  subst rv_3
  refine lv_iload S.1 S.2.1 dL_law_1971 (lv_at hl 1 rfl) ?_
  refine lv_icmp_eq (tgt := 1978) S.1 S.2.1 dL_law_1973 (by decide) (fun _ => ?_) (fun c => absurd (by decide) c)
  refine lv_iload S.1 S.2.1 dL_law_1978 (lv_at hl 1 rfl) ?_
  refine lv_if_ne (tgt := 2015) S.1 S.2.1 dL_law_1980 (by decide) (fun _ => ?_) (fun c => absurd c (by decide))
  refine lv_goto (tgt := 2650) S.1 S.2.1 dL_law_2015 (by decide) ?_
  refine lv_iinc (v := 5) (lv' := [(5, .int 5), (7, .double 0), (6, .int 1), (0, .ref b), (1, .ref N0), (2, .ref (N0 + 164)), (3, .ref (N0 + 229)), (4, .ref (N0 + 230))]) S.1 S.2.1 dL_law_2650 hl (k := 7) rfl (by decide) (by decide) rfl (fun ls hl => ?_)
  refine lv_goto (tgt := 28) S.1 S.2.1 dL_law_2653 (by decide) ?_
  refine lv_iload S.1 S.2.1 dL_law_28 (lv_at hl 0 rfl) ?_
  refine lv_aload_n S.1 S.2.1 dL_law_30 rfl (lv_at hl 3 rfl) ?_
  refine gx_slen (v := 5) S hG hX hbl rfl dL_law_31 ?_
  refine lv_iconst (v := 5) S.1 S.2.1 dL_law_32 (by decide) ?_
  refine lv_isub S.1 S.2.1 dL_law_33 ?_
  refine fx_topi (y := 0) (by decide) ?_
  refine lv_icmp_gt (tgt := 2656) S.1 S.2.1 dL_law_34 (by decide) (fun _ => ?_) (fun c => absurd (by decide) c)
  refine lv_iconst (v := 1) S.1 S.2.1 dL_law_2656 (by decide) ?_
  refine va_forget (fun q hq => by rw [hN]; exact hG.2.1.2.2 q hq) ?_
  refine W.widen (k := 600002) (n := 7302232) (by decide) (by decide) ?_
  exact lw_ret (d0 := s.drawn) (Drawn.sameBut.refl _ _) S.1 S.2.1 hr hlocks dL_law_2657
theorem l25_12 {p : Program} {e : Env} {s : State} {m : MethodId} {below : List Frame} {meth : Method} {c : Code} {b : Nat} {xs : Nat → Int32} {H : Heap} {locs : List Loc} {ls : Array Slot} {n : Nat} {a3 a4 : Int32} (S : CallFix p m c cL_law 9 s #[.ref b] wsL_law "TreeDifferLaw") (hr : meth.sig.returnType = ret) (hlocks : meth.locks = false) (hst : l.stackTraces = false) (hX : va_X b 5 xs s s.heap) (hbl : b < s.heap.size ∧ b < N0) (hN : s.heap.size = N0) (hn : N0 + 231 ≤ n) (hx1 : xs 1 = 2) (hx2 : xs 2 = 0) (hx3 : xs 3 = a3) (hx4 : xs 4 = a4) (h0 : F N0 = some (.inr (9, [.ref (N0 + 1), .ref (N0 + 2), .ref (N0 + 11), .ref (N0 + 13), .ref (N0 + 63), .ref (N0 + 65), .ref (N0 + 85), .int (-1), .int (-1), .int 32]))) (h1 : F (N0 + 1) = some (.inl (cTr, 3, .inr (.inr (.inr (.inr (va_up (va_up (va_up (fun _ => none) 0 (some (N0 + 143))) 1 (some (N0 + 150))) 2 (some (N0 + 157))))))))) (h2 : F (N0 + 13) = some (.inr (3, [.ref (N0 + 14), .ref (N0 + 35), .ref (N0 + 57), .ref (N0 + 58), .ref (N0 + 59), .ref (N0 + 60), .int 0, .int 0, .ref (N0 + 61), .ref (N0 + 62)]))) (h3 : F (N0 + 157) = some (.inr (7, [.ref (N0 + 158), .ref (N0 + 159), .ref (N0 + 160), .ref (N0 + 161), .ref (N0 + 162), .ref (N0 + 163), .int 1]))) (h4 : F (N0 + 57) = some (.inl (cI, 20, .inl (fun _ => 0)))) (h5 : F (N0 + 143) = some (.inr (7, [.ref (N0 + 144), .ref (N0 + 145), .ref (N0 + 146), .ref (N0 + 147), .ref (N0 + 148), .ref (N0 + 149), .int 1]))) (h6 : F (N0 + 58) = some (.inl (cI, 20, .inl (fun _ => 0)))) (h7 : F (N0 + 35) = some (.inl (cII, 21, .inr (.inr (.inr (.inr (fun j => if j < 21 then some ((N0 + 36) + j) else none))))))) (h8 : F (N0 + 36) = some (.inl (cI, 21, .inl (fun _ => 0)))) (h9 : F (N0 + 14) = some (.inl (cII, 20, .inr (.inr (.inr (.inr (fun j => if j < 20 then some ((N0 + 15) + j) else none))))))) (h10 : F (N0 + 158) = some (.inl (cC, 20, .inl (upd (fun _ => 0) 0 97)))) (h11 : F (N0 + 144) = some (.inl (cC, 20, .inl (upd (fun _ => 0) 0 97)))) (h12 : F (N0 + 160) = some (.inl (cI, 20, .inl (fun _ => 0)))) (h13 : F (N0 + 146) = some (.inl (cI, 20, .inl (fun _ => 0)))) (h14 : F (N0 + 15) = some (.inl (cI, 20, .inl (fun _ => 0)))) (h15 : F (N0 + 230) = some (.inl (cD, 1, .inr (.inr (.inr (.inl (fun _ => 0))))))) (h16 : F (N0 + 164) = some (.inr (12, [.ref (N0 + 165), .int 0, .ref (N0 + 181), .int 0, .int 0, .int 0, .int (-1), .ref (ql 24), .ref (N0 + 182), .ref (N0 + 187), .ref (N0 + 208), .ref (N0 + 209), .ref (N0 + 210), .ref (N0 + 211), .ref (N0 + 212), .int 0, .ref (N0 + 213), .ref (N0 + 218), .ref (N0 + 223), .ref (N0 + 224), .ref (N0 + 225), .ref (N0 + 226), .ref (N0 + 227), .int 0, .int 0, .ref (N0 + 228), .null, .int (-1), .int 0, .int 0, .int 0]))) (h17 : F (N0 + 165) = some (.inl (cTm, 3, .inr (.inr (.inr (.inr (va_up (va_up (va_up (fun _ => none) 0 (some (N0 + 166))) 1 (some (N0 + 171))) 2 (some (N0 + 176))))))))) (h18 : F (N0 + 176) = some (.inr (11, [.ref (N0 + 177), .ref (N0 + 178), .ref (N0 + 179), .ref (N0 + 180), .int 1]))) (h19 : F (N0 + 166) = some (.inr (11, [.ref (N0 + 167), .ref (N0 + 168), .ref (N0 + 169), .ref (N0 + 170), .int 1]))) (h20 : F (N0 + 177) = some (.inl (cI, 20, .inl (upd (fun _ => 0) 0 97)))) (h21 : F (N0 + 167) = some (.inl (cI, 20, .inl (upd (fun _ => 0) 0 97)))) (h22 : F (N0 + 179) = some (.inl (cI, 20, .inl (upd (fun _ => 0) 0 0)))) (h23 : F (N0 + 169) = some (.inl (cI, 20, .inl (upd (fun _ => 0) 0 0)))) (h24 : F (N0 + 187) = some (.inl (cII, 20, .inr (.inr (.inr (.inr (fun j => if j < 20 then some ((N0 + 188) + j) else none))))))) (h25 : F (N0 + 188) = some (.inl (cI, 20, .inl (fun _ => 0)))) (hG : fG N0 D vwCl (fty cI cC cL cD cII cTr cTm cIt cB) (fen ql) s F n H locs) (hl : lv_has ls 9 [(0, .ref b), (1, .ref N0), (2, .ref (N0 + 164)), (3, .ref (N0 + 229)), (4, .ref (N0 + 230)), (5, .int 0)]) : W p l e { frames := 2048, cells := 600002, slots := 7302232, locals := 84000 } s m #[.ref b] below meth c H locs 231 4980 (lw_Z below #[.ref b] s) (F0 m 1929 ls []) := by
  have lt_h0 := hG.1.lt h0
  have lt_h1 := hG.1.lt h1
  have lt_h2 := hG.1.lt h2
  have lt_h3 := hG.1.lt h3
  have lt_h4 := hG.1.lt h4
  have lt_h5 := hG.1.lt h5
  have lt_h6 := hG.1.lt h6
  have lt_h7 := hG.1.lt h7
  have lt_h8 := hG.1.lt h8
  have lt_h9 := hG.1.lt h9
  have lt_h10 := hG.1.lt h10
  have lt_h11 := hG.1.lt h11
  have lt_h12 := hG.1.lt h12
  have lt_h13 := hG.1.lt h13
  have lt_h14 := hG.1.lt h14
  have lt_h15 := hG.1.lt h15
  have lt_h16 := hG.1.lt h16
  have lt_h17 := hG.1.lt h17
  have lt_h18 := hG.1.lt h18
  have lt_h19 := hG.1.lt h19
  have lt_h20 := hG.1.lt h20
  have lt_h21 := hG.1.lt h21
  have lt_h22 := hG.1.lt h22
  have lt_h23 := hG.1.lt h23
  have lt_h24 := hG.1.lt h24
  have lt_h25 := hG.1.lt h25
  refine lv_aload_n S.1 S.2.1 dL_law_1929 rfl (lv_at hl 1 rfl) ?_
  refine lv_aload_n S.1 S.2.1 dL_law_1930 rfl (lv_at hl 0 rfl) ?_
  refine lv_iload S.1 S.2.1 dL_law_1931 (lv_at hl 5 rfl) ?_
  refine lv_iconst (v := 1) S.1 S.2.1 dL_law_1933 (by decide) ?_
  refine lv_iadd S.1 S.2.1 dL_law_1934 ?_
  refine fx_topi (y := 1) (by decide) ?_
  refine gx_sld (v := 2) S hG hX hbl (fin_l (by decide)) hx1 dL_law_1935 ?_
  refine lv_aload_n S.1 S.2.1 dL_law_1936 rfl (lv_at hl 0 rfl) ?_
  refine lv_iload S.1 S.2.1 dL_law_1937 (lv_at hl 5 rfl) ?_
  refine lv_iconst (v := 2) S.1 S.2.1 dL_law_1939 (by decide) ?_
  refine lv_iadd S.1 S.2.1 dL_law_1940 ?_
  refine fx_topi (y := 2) (by decide) ?_
  refine gx_sld (v := 0) S hG hX hbl (fin_l (by decide)) hx2 dL_law_1941 ?_
  refine lv_aload S.1 S.2.1 dL_law_1942 (lv_at hl 4 rfl) ?_
  refine fx_cTi (As := [.ref N0, .int 2, .int 0, .ref (N0 + 230)]) (rest := []) S hG (k1408_L_similarity (by omega) h0 h1 h2 h3 h4 h5 h6 h7 h8 h9 h10 h11 h12 h13 h14 h15) (vx_cwSW 4 S.2.2.2.2 gL_law_L_similarity rfl rfl rfl (by decide +kernel) ⟨Nat.le_of_ble_eq_true rfl, Nat.le_of_ble_eq_true rfl⟩) rfl hl.1 rfl (Nat.le_of_ble_eq_true rfl) dL_law_1944 ⟨Nat.le_of_ble_eq_true rfl, Nat.le_of_ble_eq_true rfl⟩ (fun rv_1 _ H locs hp hG => ?_)
  subst rv_1
  refine lv_istore (lv' := [(6, .int 0), (0, .ref b), (1, .ref N0), (2, .ref (N0 + 164)), (3, .ref (N0 + 229)), (4, .ref (N0 + 230)), (5, .int 0)]) S.1 S.2.1 dL_law_1947 hl (by decide) rfl (fun ls hl => ?_)
  refine lv_aload_n S.1 S.2.1 dL_law_1949 rfl (lv_at hl 3 rfl) ?_
  refine lv_aload_n S.1 S.2.1 dL_law_1950 rfl (lv_at hl 1 rfl) ?_
  refine lv_iload S.1 S.2.1 dL_law_1951 (lv_at hl 6 rfl) ?_
  refine lv_iconst (v := 1) S.1 S.2.1 dL_law_1953 (by decide) ?_
  refine lv_iadd S.1 S.2.1 dL_law_1954 ?_
  refine fx_topi (y := 1) (by decide) ?_
  refine gx_sld (v := 2) S hG hX hbl (fin_l (by decide)) hx1 dL_law_1955 ?_
  refine lv_aload_n S.1 S.2.1 dL_law_1956 rfl (lv_at hl 1 rfl) ?_
  refine lv_iload S.1 S.2.1 dL_law_1957 (lv_at hl 6 rfl) ?_
  refine lv_iconst (v := 2) S.1 S.2.1 dL_law_1959 (by decide) ?_
  refine lv_iadd S.1 S.2.1 dL_law_1960 ?_
  refine fx_topi (y := 2) (by decide) ?_
  refine gx_sld (v := 0) S hG hX hbl (fin_l (by decide)) hx2 dL_law_1961 ?_
  refine fx_cVd (As := [.int 2, .int 0]) (rest := []) S hG (k1409_X10_similarity (by omega) (fu_at (by omega) (fu_at (by omega) (fu_at (by omega) (fu_at (by omega) (fu_at (by omega) (fu_at (by omega) h16)))))) (fu_at (by omega) (fu_at (by omega) (fu_at (by omega) (fu_at (by omega) (fu_at (by omega) (fu_at (by omega) h17)))))) (fu_at (by omega) (fu_at (by omega) (fu_at (by omega) (fu_at (by omega) (fu_at (by omega) (fu_at (by omega) h18)))))) (fu_at (by omega) (fu_at (by omega) (fu_at (by omega) (fu_at (by omega) (fu_at (by omega) (fu_at (by omega) h19)))))) (fu_at (by omega) (fu_at (by omega) (fu_at (by omega) (fu_at (by omega) (fu_at (by omega) (fu_at (by omega) h20)))))) (fu_at (by omega) (fu_at (by omega) (fu_at (by omega) (fu_at (by omega) (fu_at (by omega) (fu_at (by omega) h21)))))) (fu_at (by omega) (fu_at (by omega) (fu_at (by omega) (fu_at (by omega) (fu_at (by omega) (fu_at (by omega) h22)))))) (fu_at (by omega) (fu_at (by omega) (fu_at (by omega) (fu_at (by omega) (fu_at (by omega) (fu_at (by omega) h23)))))) (fu_at (by omega) (fu_at (by omega) (fu_at (by omega) (fu_at (by omega) (fu_at (by omega) (fu_at (by omega) h24)))))) (fu_at (by omega) (fu_at (by omega) (fu_at (by omega) (fu_at (by omega) (fu_at (by omega) (fu_at (by omega) h25))))))) (fu_at (by omega) (fu_at (by omega) (fu_at (by omega) (fu_at (by omega) (fu_at (by omega) (fu_at (by omega) h16)))))) rfl (cwV 2 S.2.2.2.2 gL_law_X10_similarity rfl rfl rfl (by decide +kernel) ⟨Nat.le_of_ble_eq_true rfl, Nat.le_of_ble_eq_true rfl⟩) rfl hl.1 rfl (Nat.le_of_ble_eq_true rfl) dL_law_1962 ⟨Nat.le_of_ble_eq_true rfl, Nat.le_of_ble_eq_true rfl⟩ (fun rv_2 _ H locs hp hG => ?_)
  subst rv_2
  refine W.widen (k := 235) (n := 4982) (by decide) (by decide) ?_
  refine lv_dstore (lv' := [(7, .double 4607182418800017408), (6, .int 0), (0, .ref b), (1, .ref N0), (2, .ref (N0 + 164)), (3, .ref (N0 + 229)), (4, .ref (N0 + 230)), (5, .int 0)]) S.1 S.2.1 dL_law_1965 hl (by decide) rfl (fun ls hl => ?_)
  refine lv_aload_n S.1 S.2.1 dL_law_1967 rfl (lv_at hl 4 rfl) ?_
  refine fx_cVi (As := []) (rest := []) S hG (k117_X10_thrown (by omega) (fblk_sk 4 rfl (by omega) (fu_at (by omega) fu_s))) (fblk_sk 4 rfl (by omega) (fu_at (by omega) fu_s)) rfl (cwV 0 S.2.2.2.2 gL_law_X10_thrown rfl rfl rfl (by decide +kernel) ⟨Nat.le_of_ble_eq_true rfl, Nat.le_of_ble_eq_true rfl⟩) rfl hl.1 rfl (Nat.le_of_ble_eq_true rfl) dL_law_1968 ⟨Nat.le_of_ble_eq_true rfl, Nat.le_of_ble_eq_true rfl⟩ (fun rv_3 _ H locs hp hG => ?_)
  subst rv_3
  refine lv_iload S.1 S.2.1 dL_law_1971 (lv_at hl 1 rfl) ?_
  refine lv_icmp_eq (tgt := 1978) S.1 S.2.1 dL_law_1973 (by decide) (fun _ => ?_) (fun c => absurd (by decide) c)
  refine lv_iload S.1 S.2.1 dL_law_1978 (lv_at hl 1 rfl) ?_
  refine lv_if_ne (tgt := 2015) S.1 S.2.1 dL_law_1980 (by decide) (fun c => absurd (by decide) c) (fun _ => ?_)
  refine lv_aload S.1 S.2.1 dL_law_1983 (lv_at hl 6 rfl) ?_
  refine lv_iconst (v := 0) S.1 S.2.1 dL_law_1985 (by decide) ?_
  refine gx_dald (v := 4607182418800017408) S hG 3 (fblk_sk 4 rfl (by omega) (fu_at (by omega) (fu_at (by omega) fu_s))) rfl (fin_l (by decide)) rfl dL_law_1986 ?_
  refine lv_dload S.1 S.2.1 dL_law_1987 (lv_at hl 0 rfl) ?_
  refine gx_dcmp (v := 0) S (by decide +kernel) dL_law_1989 ?_
  refine lv_if_eq (tgt := 2015) S.1 S.2.1 dL_law_1990 (by decide) (fun _ => ?_) (fun c => absurd (by decide) c)
  refine lv_goto (tgt := 2650) S.1 S.2.1 dL_law_2015 (by decide) ?_
  refine lv_iinc (v := 5) (lv' := [(5, .int 5), (7, .double 4607182418800017408), (6, .int 0), (0, .ref b), (1, .ref N0), (2, .ref (N0 + 164)), (3, .ref (N0 + 229)), (4, .ref (N0 + 230))]) S.1 S.2.1 dL_law_2650 hl (k := 7) rfl (by decide) (by decide) rfl (fun ls hl => ?_)
  refine lv_goto (tgt := 28) S.1 S.2.1 dL_law_2653 (by decide) ?_
  refine lv_iload S.1 S.2.1 dL_law_28 (lv_at hl 0 rfl) ?_
  refine lv_aload_n S.1 S.2.1 dL_law_30 rfl (lv_at hl 3 rfl) ?_
  refine gx_slen (v := 5) S hG hX hbl rfl dL_law_31 ?_
  refine lv_iconst (v := 5) S.1 S.2.1 dL_law_32 (by decide) ?_
  refine lv_isub S.1 S.2.1 dL_law_33 ?_
  refine fx_topi (y := 0) (by decide) ?_
  refine lv_icmp_gt (tgt := 2656) S.1 S.2.1 dL_law_34 (by decide) (fun _ => ?_) (fun c => absurd (by decide) c)
  refine lv_iconst (v := 1) S.1 S.2.1 dL_law_2656 (by decide) ?_
  refine va_forget (fun q hq => by rw [hN]; exact hG.2.1.2.2 q hq) ?_
  refine W.widen (k := 600002) (n := 7302232) (by decide) (by decide) ?_
  exact lw_ret (d0 := s.drawn) (Drawn.sameBut.refl _ _) S.1 S.2.1 hr hlocks dL_law_2657
theorem l25_13 {p : Program} {e : Env} {s : State} {m : MethodId} {below : List Frame} {meth : Method} {c : Code} {b : Nat} {xs : Nat → Int32} {H : Heap} {locs : List Loc} {ls : Array Slot} {n : Nat} {a3 a4 : Int32} (S : CallFix p m c cL_law 9 s #[.ref b] wsL_law "TreeDifferLaw") (hr : meth.sig.returnType = ret) (hlocks : meth.locks = false) (hst : l.stackTraces = false) (hX : va_X b 5 xs s s.heap) (hbl : b < s.heap.size ∧ b < N0) (hN : s.heap.size = N0) (hn : N0 + 231 ≤ n) (hx1 : xs 1 = 2) (hx2 : xs 2 = 1) (hx3 : xs 3 = a3) (hx4 : xs 4 = a4) (h0 : F N0 = some (.inr (9, [.ref (N0 + 1), .ref (N0 + 2), .ref (N0 + 11), .ref (N0 + 13), .ref (N0 + 63), .ref (N0 + 65), .ref (N0 + 85), .int (-1), .int (-1), .int 32]))) (h1 : F (N0 + 1) = some (.inl (cTr, 3, .inr (.inr (.inr (.inr (va_up (va_up (va_up (fun _ => none) 0 (some (N0 + 143))) 1 (some (N0 + 150))) 2 (some (N0 + 157))))))))) (h2 : F (N0 + 13) = some (.inr (3, [.ref (N0 + 14), .ref (N0 + 35), .ref (N0 + 57), .ref (N0 + 58), .ref (N0 + 59), .ref (N0 + 60), .int 0, .int 0, .ref (N0 + 61), .ref (N0 + 62)]))) (h3 : F (N0 + 157) = some (.inr (7, [.ref (N0 + 158), .ref (N0 + 159), .ref (N0 + 160), .ref (N0 + 161), .ref (N0 + 162), .ref (N0 + 163), .int 1]))) (h4 : F (N0 + 57) = some (.inl (cI, 20, .inl (fun _ => 0)))) (h5 : F (N0 + 150) = some (.inr (7, [.ref (N0 + 151), .ref (N0 + 152), .ref (N0 + 153), .ref (N0 + 154), .ref (N0 + 155), .ref (N0 + 156), .int 1]))) (h6 : F (N0 + 58) = some (.inl (cI, 20, .inl (fun _ => 0)))) (h7 : F (N0 + 35) = some (.inl (cII, 21, .inr (.inr (.inr (.inr (fun j => if j < 21 then some ((N0 + 36) + j) else none))))))) (h8 : F (N0 + 36) = some (.inl (cI, 21, .inl (fun _ => 0)))) (h9 : F (N0 + 14) = some (.inl (cII, 20, .inr (.inr (.inr (.inr (fun j => if j < 20 then some ((N0 + 15) + j) else none))))))) (h10 : F (N0 + 158) = some (.inl (cC, 20, .inl (upd (fun _ => 0) 0 97)))) (h11 : F (N0 + 151) = some (.inl (cC, 20, .inl (upd (fun _ => 0) 0 97)))) (h12 : F (N0 + 160) = some (.inl (cI, 20, .inl (fun _ => 0)))) (h13 : F (N0 + 153) = some (.inl (cI, 20, .inl (fun _ => 0)))) (h14 : F (N0 + 15) = some (.inl (cI, 20, .inl (fun _ => 0)))) (h15 : F (N0 + 230) = some (.inl (cD, 1, .inr (.inr (.inr (.inl (fun _ => 0))))))) (h16 : F (N0 + 164) = some (.inr (12, [.ref (N0 + 165), .int 0, .ref (N0 + 181), .int 0, .int 0, .int 0, .int (-1), .ref (ql 24), .ref (N0 + 182), .ref (N0 + 187), .ref (N0 + 208), .ref (N0 + 209), .ref (N0 + 210), .ref (N0 + 211), .ref (N0 + 212), .int 0, .ref (N0 + 213), .ref (N0 + 218), .ref (N0 + 223), .ref (N0 + 224), .ref (N0 + 225), .ref (N0 + 226), .ref (N0 + 227), .int 0, .int 0, .ref (N0 + 228), .null, .int (-1), .int 0, .int 0, .int 0]))) (h17 : F (N0 + 165) = some (.inl (cTm, 3, .inr (.inr (.inr (.inr (va_up (va_up (va_up (fun _ => none) 0 (some (N0 + 166))) 1 (some (N0 + 171))) 2 (some (N0 + 176))))))))) (h18 : F (N0 + 176) = some (.inr (11, [.ref (N0 + 177), .ref (N0 + 178), .ref (N0 + 179), .ref (N0 + 180), .int 1]))) (h19 : F (N0 + 171) = some (.inr (11, [.ref (N0 + 172), .ref (N0 + 173), .ref (N0 + 174), .ref (N0 + 175), .int 1]))) (h20 : F (N0 + 177) = some (.inl (cI, 20, .inl (upd (fun _ => 0) 0 97)))) (h21 : F (N0 + 172) = some (.inl (cI, 20, .inl (upd (fun _ => 0) 0 97)))) (h22 : F (N0 + 179) = some (.inl (cI, 20, .inl (upd (fun _ => 0) 0 0)))) (h23 : F (N0 + 174) = some (.inl (cI, 20, .inl (upd (fun _ => 0) 0 0)))) (h24 : F (N0 + 187) = some (.inl (cII, 20, .inr (.inr (.inr (.inr (fun j => if j < 20 then some ((N0 + 188) + j) else none))))))) (h25 : F (N0 + 188) = some (.inl (cI, 20, .inl (fun _ => 0)))) (hG : fG N0 D vwCl (fty cI cC cL cD cII cTr cTm cIt cB) (fen ql) s F n H locs) (hl : lv_has ls 9 [(0, .ref b), (1, .ref N0), (2, .ref (N0 + 164)), (3, .ref (N0 + 229)), (4, .ref (N0 + 230)), (5, .int 0)]) : W p l e { frames := 2048, cells := 600002, slots := 7302232, locals := 84000 } s m #[.ref b] below meth c H locs 231 4980 (lw_Z below #[.ref b] s) (F0 m 1929 ls []) := by
  have lt_h0 := hG.1.lt h0
  have lt_h1 := hG.1.lt h1
  have lt_h2 := hG.1.lt h2
  have lt_h3 := hG.1.lt h3
  have lt_h4 := hG.1.lt h4
  have lt_h5 := hG.1.lt h5
  have lt_h6 := hG.1.lt h6
  have lt_h7 := hG.1.lt h7
  have lt_h8 := hG.1.lt h8
  have lt_h9 := hG.1.lt h9
  have lt_h10 := hG.1.lt h10
  have lt_h11 := hG.1.lt h11
  have lt_h12 := hG.1.lt h12
  have lt_h13 := hG.1.lt h13
  have lt_h14 := hG.1.lt h14
  have lt_h15 := hG.1.lt h15
  have lt_h16 := hG.1.lt h16
  have lt_h17 := hG.1.lt h17
  have lt_h18 := hG.1.lt h18
  have lt_h19 := hG.1.lt h19
  have lt_h20 := hG.1.lt h20
  have lt_h21 := hG.1.lt h21
  have lt_h22 := hG.1.lt h22
  have lt_h23 := hG.1.lt h23
  have lt_h24 := hG.1.lt h24
  have lt_h25 := hG.1.lt h25
  refine lv_aload_n S.1 S.2.1 dL_law_1929 rfl (lv_at hl 1 rfl) ?_
  refine lv_aload_n S.1 S.2.1 dL_law_1930 rfl (lv_at hl 0 rfl) ?_
  refine lv_iload S.1 S.2.1 dL_law_1931 (lv_at hl 5 rfl) ?_
  refine lv_iconst (v := 1) S.1 S.2.1 dL_law_1933 (by decide) ?_
  refine lv_iadd S.1 S.2.1 dL_law_1934 ?_
  refine fx_topi (y := 1) (by decide) ?_
  refine gx_sld (v := 2) S hG hX hbl (fin_l (by decide)) hx1 dL_law_1935 ?_
  refine lv_aload_n S.1 S.2.1 dL_law_1936 rfl (lv_at hl 0 rfl) ?_
  refine lv_iload S.1 S.2.1 dL_law_1937 (lv_at hl 5 rfl) ?_
  refine lv_iconst (v := 2) S.1 S.2.1 dL_law_1939 (by decide) ?_
  refine lv_iadd S.1 S.2.1 dL_law_1940 ?_
  refine fx_topi (y := 2) (by decide) ?_
  refine gx_sld (v := 1) S hG hX hbl (fin_l (by decide)) hx2 dL_law_1941 ?_
  refine lv_aload S.1 S.2.1 dL_law_1942 (lv_at hl 4 rfl) ?_
  refine fx_cTi (As := [.ref N0, .int 2, .int 1, .ref (N0 + 230)]) (rest := []) S hG (k1411_L_similarity (by omega) h0 h1 h2 h3 h4 h5 h6 h7 h8 h9 h10 h11 h12 h13 h14 h15) (vx_cwSW 4 S.2.2.2.2 gL_law_L_similarity rfl rfl rfl (by decide +kernel) ⟨Nat.le_of_ble_eq_true rfl, Nat.le_of_ble_eq_true rfl⟩) rfl hl.1 rfl (Nat.le_of_ble_eq_true rfl) dL_law_1944 ⟨Nat.le_of_ble_eq_true rfl, Nat.le_of_ble_eq_true rfl⟩ (fun rv_1 _ H locs hp hG => ?_)
  subst rv_1
  refine lv_istore (lv' := [(6, .int 0), (0, .ref b), (1, .ref N0), (2, .ref (N0 + 164)), (3, .ref (N0 + 229)), (4, .ref (N0 + 230)), (5, .int 0)]) S.1 S.2.1 dL_law_1947 hl (by decide) rfl (fun ls hl => ?_)
  refine lv_aload_n S.1 S.2.1 dL_law_1949 rfl (lv_at hl 3 rfl) ?_
  refine lv_aload_n S.1 S.2.1 dL_law_1950 rfl (lv_at hl 1 rfl) ?_
  refine lv_iload S.1 S.2.1 dL_law_1951 (lv_at hl 6 rfl) ?_
  refine lv_iconst (v := 1) S.1 S.2.1 dL_law_1953 (by decide) ?_
  refine lv_iadd S.1 S.2.1 dL_law_1954 ?_
  refine fx_topi (y := 1) (by decide) ?_
  refine gx_sld (v := 2) S hG hX hbl (fin_l (by decide)) hx1 dL_law_1955 ?_
  refine lv_aload_n S.1 S.2.1 dL_law_1956 rfl (lv_at hl 1 rfl) ?_
  refine lv_iload S.1 S.2.1 dL_law_1957 (lv_at hl 6 rfl) ?_
  refine lv_iconst (v := 2) S.1 S.2.1 dL_law_1959 (by decide) ?_
  refine lv_iadd S.1 S.2.1 dL_law_1960 ?_
  refine fx_topi (y := 2) (by decide) ?_
  refine gx_sld (v := 1) S hG hX hbl (fin_l (by decide)) hx2 dL_law_1961 ?_
  refine fx_cVd (As := [.int 2, .int 1]) (rest := []) S hG (k1412_X10_similarity (by omega) (fu_at (by omega) (fu_at (by omega) (fu_at (by omega) (fu_at (by omega) (fu_at (by omega) (fu_at (by omega) h16)))))) (fu_at (by omega) (fu_at (by omega) (fu_at (by omega) (fu_at (by omega) (fu_at (by omega) (fu_at (by omega) h17)))))) (fu_at (by omega) (fu_at (by omega) (fu_at (by omega) (fu_at (by omega) (fu_at (by omega) (fu_at (by omega) h18)))))) (fu_at (by omega) (fu_at (by omega) (fu_at (by omega) (fu_at (by omega) (fu_at (by omega) (fu_at (by omega) h19)))))) (fu_at (by omega) (fu_at (by omega) (fu_at (by omega) (fu_at (by omega) (fu_at (by omega) (fu_at (by omega) h20)))))) (fu_at (by omega) (fu_at (by omega) (fu_at (by omega) (fu_at (by omega) (fu_at (by omega) (fu_at (by omega) h21)))))) (fu_at (by omega) (fu_at (by omega) (fu_at (by omega) (fu_at (by omega) (fu_at (by omega) (fu_at (by omega) h22)))))) (fu_at (by omega) (fu_at (by omega) (fu_at (by omega) (fu_at (by omega) (fu_at (by omega) (fu_at (by omega) h23)))))) (fu_at (by omega) (fu_at (by omega) (fu_at (by omega) (fu_at (by omega) (fu_at (by omega) (fu_at (by omega) h24)))))) (fu_at (by omega) (fu_at (by omega) (fu_at (by omega) (fu_at (by omega) (fu_at (by omega) (fu_at (by omega) h25))))))) (fu_at (by omega) (fu_at (by omega) (fu_at (by omega) (fu_at (by omega) (fu_at (by omega) (fu_at (by omega) h16)))))) rfl (cwV 2 S.2.2.2.2 gL_law_X10_similarity rfl rfl rfl (by decide +kernel) ⟨Nat.le_of_ble_eq_true rfl, Nat.le_of_ble_eq_true rfl⟩) rfl hl.1 rfl (Nat.le_of_ble_eq_true rfl) dL_law_1962 ⟨Nat.le_of_ble_eq_true rfl, Nat.le_of_ble_eq_true rfl⟩ (fun rv_2 _ H locs hp hG => ?_)
  subst rv_2
  refine W.widen (k := 235) (n := 4982) (by decide) (by decide) ?_
  refine lv_dstore (lv' := [(7, .double 4607182418800017408), (6, .int 0), (0, .ref b), (1, .ref N0), (2, .ref (N0 + 164)), (3, .ref (N0 + 229)), (4, .ref (N0 + 230)), (5, .int 0)]) S.1 S.2.1 dL_law_1965 hl (by decide) rfl (fun ls hl => ?_)
  refine lv_aload_n S.1 S.2.1 dL_law_1967 rfl (lv_at hl 4 rfl) ?_
  refine fx_cVi (As := []) (rest := []) S hG (k117_X10_thrown (by omega) (fblk_sk 4 rfl (by omega) (fu_at (by omega) fu_s))) (fblk_sk 4 rfl (by omega) (fu_at (by omega) fu_s)) rfl (cwV 0 S.2.2.2.2 gL_law_X10_thrown rfl rfl rfl (by decide +kernel) ⟨Nat.le_of_ble_eq_true rfl, Nat.le_of_ble_eq_true rfl⟩) rfl hl.1 rfl (Nat.le_of_ble_eq_true rfl) dL_law_1968 ⟨Nat.le_of_ble_eq_true rfl, Nat.le_of_ble_eq_true rfl⟩ (fun rv_3 _ H locs hp hG => ?_)
  subst rv_3
  refine lv_iload S.1 S.2.1 dL_law_1971 (lv_at hl 1 rfl) ?_
  refine lv_icmp_eq (tgt := 1978) S.1 S.2.1 dL_law_1973 (by decide) (fun _ => ?_) (fun c => absurd (by decide) c)
  refine lv_iload S.1 S.2.1 dL_law_1978 (lv_at hl 1 rfl) ?_
  refine lv_if_ne (tgt := 2015) S.1 S.2.1 dL_law_1980 (by decide) (fun c => absurd (by decide) c) (fun _ => ?_)
  refine lv_aload S.1 S.2.1 dL_law_1983 (lv_at hl 6 rfl) ?_
  refine lv_iconst (v := 0) S.1 S.2.1 dL_law_1985 (by decide) ?_
  refine gx_dald (v := 4607182418800017408) S hG 3 (fblk_sk 4 rfl (by omega) (fu_at (by omega) (fu_at (by omega) fu_s))) rfl (fin_l (by decide)) rfl dL_law_1986 ?_
  refine lv_dload S.1 S.2.1 dL_law_1987 (lv_at hl 0 rfl) ?_
  refine gx_dcmp (v := 0) S (by decide +kernel) dL_law_1989 ?_
  refine lv_if_eq (tgt := 2015) S.1 S.2.1 dL_law_1990 (by decide) (fun _ => ?_) (fun c => absurd (by decide) c)
  refine lv_goto (tgt := 2650) S.1 S.2.1 dL_law_2015 (by decide) ?_
  refine lv_iinc (v := 5) (lv' := [(5, .int 5), (7, .double 4607182418800017408), (6, .int 0), (0, .ref b), (1, .ref N0), (2, .ref (N0 + 164)), (3, .ref (N0 + 229)), (4, .ref (N0 + 230))]) S.1 S.2.1 dL_law_2650 hl (k := 7) rfl (by decide) (by decide) rfl (fun ls hl => ?_)
  refine lv_goto (tgt := 28) S.1 S.2.1 dL_law_2653 (by decide) ?_
  refine lv_iload S.1 S.2.1 dL_law_28 (lv_at hl 0 rfl) ?_
  refine lv_aload_n S.1 S.2.1 dL_law_30 rfl (lv_at hl 3 rfl) ?_
  refine gx_slen (v := 5) S hG hX hbl rfl dL_law_31 ?_
  refine lv_iconst (v := 5) S.1 S.2.1 dL_law_32 (by decide) ?_
  refine lv_isub S.1 S.2.1 dL_law_33 ?_
  refine fx_topi (y := 0) (by decide) ?_
  refine lv_icmp_gt (tgt := 2656) S.1 S.2.1 dL_law_34 (by decide) (fun _ => ?_) (fun c => absurd (by decide) c)
  refine lv_iconst (v := 1) S.1 S.2.1 dL_law_2656 (by decide) ?_
  refine va_forget (fun q hq => by rw [hN]; exact hG.2.1.2.2 q hq) ?_
  refine W.widen (k := 600002) (n := 7302232) (by decide) (by decide) ?_
  exact lw_ret (d0 := s.drawn) (Drawn.sameBut.refl _ _) S.1 S.2.1 hr hlocks dL_law_2657
theorem l25_14 {p : Program} {e : Env} {s : State} {m : MethodId} {below : List Frame} {meth : Method} {c : Code} {b : Nat} {xs : Nat → Int32} {H : Heap} {locs : List Loc} {ls : Array Slot} {n : Nat} {a3 a4 : Int32} (S : CallFix p m c cL_law 9 s #[.ref b] wsL_law "TreeDifferLaw") (hr : meth.sig.returnType = ret) (hlocks : meth.locks = false) (hst : l.stackTraces = false) (hX : va_X b 5 xs s s.heap) (hbl : b < s.heap.size ∧ b < N0) (hN : s.heap.size = N0) (hn : N0 + 231 ≤ n) (hx1 : xs 1 = 2) (hx2 : xs 2 = 2) (hx3 : xs 3 = a3) (hx4 : xs 4 = a4) (h0 : F N0 = some (.inr (9, [.ref (N0 + 1), .ref (N0 + 2), .ref (N0 + 11), .ref (N0 + 13), .ref (N0 + 63), .ref (N0 + 65), .ref (N0 + 85), .int (-1), .int (-1), .int 32]))) (h1 : F (N0 + 1) = some (.inl (cTr, 3, .inr (.inr (.inr (.inr (va_up (va_up (va_up (fun _ => none) 0 (some (N0 + 143))) 1 (some (N0 + 150))) 2 (some (N0 + 157))))))))) (h2 : F (N0 + 13) = some (.inr (3, [.ref (N0 + 14), .ref (N0 + 35), .ref (N0 + 57), .ref (N0 + 58), .ref (N0 + 59), .ref (N0 + 60), .int 0, .int 0, .ref (N0 + 61), .ref (N0 + 62)]))) (h3 : F (N0 + 157) = some (.inr (7, [.ref (N0 + 158), .ref (N0 + 159), .ref (N0 + 160), .ref (N0 + 161), .ref (N0 + 162), .ref (N0 + 163), .int 1]))) (h4 : F (N0 + 57) = some (.inl (cI, 20, .inl (fun _ => 0)))) (h5 : F (N0 + 58) = some (.inl (cI, 20, .inl (fun _ => 0)))) (h6 : F (N0 + 35) = some (.inl (cII, 21, .inr (.inr (.inr (.inr (fun j => if j < 21 then some ((N0 + 36) + j) else none))))))) (h7 : F (N0 + 36) = some (.inl (cI, 21, .inl (fun _ => 0)))) (h8 : F (N0 + 14) = some (.inl (cII, 20, .inr (.inr (.inr (.inr (fun j => if j < 20 then some ((N0 + 15) + j) else none))))))) (h9 : F (N0 + 158) = some (.inl (cC, 20, .inl (upd (fun _ => 0) 0 97)))) (h10 : F (N0 + 160) = some (.inl (cI, 20, .inl (fun _ => 0)))) (h11 : F (N0 + 15) = some (.inl (cI, 20, .inl (fun _ => 0)))) (h12 : F (N0 + 230) = some (.inl (cD, 1, .inr (.inr (.inr (.inl (fun _ => 0))))))) (h13 : F (N0 + 164) = some (.inr (12, [.ref (N0 + 165), .int 0, .ref (N0 + 181), .int 0, .int 0, .int 0, .int (-1), .ref (ql 24), .ref (N0 + 182), .ref (N0 + 187), .ref (N0 + 208), .ref (N0 + 209), .ref (N0 + 210), .ref (N0 + 211), .ref (N0 + 212), .int 0, .ref (N0 + 213), .ref (N0 + 218), .ref (N0 + 223), .ref (N0 + 224), .ref (N0 + 225), .ref (N0 + 226), .ref (N0 + 227), .int 0, .int 0, .ref (N0 + 228), .null, .int (-1), .int 0, .int 0, .int 0]))) (h14 : F (N0 + 165) = some (.inl (cTm, 3, .inr (.inr (.inr (.inr (va_up (va_up (va_up (fun _ => none) 0 (some (N0 + 166))) 1 (some (N0 + 171))) 2 (some (N0 + 176))))))))) (h15 : F (N0 + 176) = some (.inr (11, [.ref (N0 + 177), .ref (N0 + 178), .ref (N0 + 179), .ref (N0 + 180), .int 1]))) (h16 : F (N0 + 177) = some (.inl (cI, 20, .inl (upd (fun _ => 0) 0 97)))) (h17 : F (N0 + 179) = some (.inl (cI, 20, .inl (upd (fun _ => 0) 0 0)))) (h18 : F (N0 + 187) = some (.inl (cII, 20, .inr (.inr (.inr (.inr (fun j => if j < 20 then some ((N0 + 188) + j) else none))))))) (h19 : F (N0 + 188) = some (.inl (cI, 20, .inl (fun _ => 0)))) (hG : fG N0 D vwCl (fty cI cC cL cD cII cTr cTm cIt cB) (fen ql) s F n H locs) (hl : lv_has ls 9 [(0, .ref b), (1, .ref N0), (2, .ref (N0 + 164)), (3, .ref (N0 + 229)), (4, .ref (N0 + 230)), (5, .int 0)]) : W p l e { frames := 2048, cells := 600002, slots := 7302232, locals := 84000 } s m #[.ref b] below meth c H locs 231 4980 (lw_Z below #[.ref b] s) (F0 m 1929 ls []) := by
  have lt_h0 := hG.1.lt h0
  have lt_h1 := hG.1.lt h1
  have lt_h2 := hG.1.lt h2
  have lt_h3 := hG.1.lt h3
  have lt_h4 := hG.1.lt h4
  have lt_h5 := hG.1.lt h5
  have lt_h6 := hG.1.lt h6
  have lt_h7 := hG.1.lt h7
  have lt_h8 := hG.1.lt h8
  have lt_h9 := hG.1.lt h9
  have lt_h10 := hG.1.lt h10
  have lt_h11 := hG.1.lt h11
  have lt_h12 := hG.1.lt h12
  have lt_h13 := hG.1.lt h13
  have lt_h14 := hG.1.lt h14
  have lt_h15 := hG.1.lt h15
  have lt_h16 := hG.1.lt h16
  have lt_h17 := hG.1.lt h17
  have lt_h18 := hG.1.lt h18
  have lt_h19 := hG.1.lt h19
  refine lv_aload_n S.1 S.2.1 dL_law_1929 rfl (lv_at hl 1 rfl) ?_
  refine lv_aload_n S.1 S.2.1 dL_law_1930 rfl (lv_at hl 0 rfl) ?_
  refine lv_iload S.1 S.2.1 dL_law_1931 (lv_at hl 5 rfl) ?_
  refine lv_iconst (v := 1) S.1 S.2.1 dL_law_1933 (by decide) ?_
  refine lv_iadd S.1 S.2.1 dL_law_1934 ?_
  refine fx_topi (y := 1) (by decide) ?_
  refine gx_sld (v := 2) S hG hX hbl (fin_l (by decide)) hx1 dL_law_1935 ?_
  refine lv_aload_n S.1 S.2.1 dL_law_1936 rfl (lv_at hl 0 rfl) ?_
  refine lv_iload S.1 S.2.1 dL_law_1937 (lv_at hl 5 rfl) ?_
  refine lv_iconst (v := 2) S.1 S.2.1 dL_law_1939 (by decide) ?_
  refine lv_iadd S.1 S.2.1 dL_law_1940 ?_
  refine fx_topi (y := 2) (by decide) ?_
  refine gx_sld (v := 2) S hG hX hbl (fin_l (by decide)) hx2 dL_law_1941 ?_
  refine lv_aload S.1 S.2.1 dL_law_1942 (lv_at hl 4 rfl) ?_
  refine fx_cTi (As := [.ref N0, .int 2, .int 2, .ref (N0 + 230)]) (rest := []) S hG (k1414_L_similarity (by omega) h0 h1 h2 h3 h4 h5 h6 h7 h8 h9 h10 h11 h12) (vx_cwSW 4 S.2.2.2.2 gL_law_L_similarity rfl rfl rfl (by decide +kernel) ⟨Nat.le_of_ble_eq_true rfl, Nat.le_of_ble_eq_true rfl⟩) rfl hl.1 rfl (Nat.le_of_ble_eq_true rfl) dL_law_1944 ⟨Nat.le_of_ble_eq_true rfl, Nat.le_of_ble_eq_true rfl⟩ (fun rv_1 _ H locs hp hG => ?_)
  subst rv_1
  refine lv_istore (lv' := [(6, .int 0), (0, .ref b), (1, .ref N0), (2, .ref (N0 + 164)), (3, .ref (N0 + 229)), (4, .ref (N0 + 230)), (5, .int 0)]) S.1 S.2.1 dL_law_1947 hl (by decide) rfl (fun ls hl => ?_)
  refine lv_aload_n S.1 S.2.1 dL_law_1949 rfl (lv_at hl 3 rfl) ?_
  refine lv_aload_n S.1 S.2.1 dL_law_1950 rfl (lv_at hl 1 rfl) ?_
  refine lv_iload S.1 S.2.1 dL_law_1951 (lv_at hl 6 rfl) ?_
  refine lv_iconst (v := 1) S.1 S.2.1 dL_law_1953 (by decide) ?_
  refine lv_iadd S.1 S.2.1 dL_law_1954 ?_
  refine fx_topi (y := 1) (by decide) ?_
  refine gx_sld (v := 2) S hG hX hbl (fin_l (by decide)) hx1 dL_law_1955 ?_
  refine lv_aload_n S.1 S.2.1 dL_law_1956 rfl (lv_at hl 1 rfl) ?_
  refine lv_iload S.1 S.2.1 dL_law_1957 (lv_at hl 6 rfl) ?_
  refine lv_iconst (v := 2) S.1 S.2.1 dL_law_1959 (by decide) ?_
  refine lv_iadd S.1 S.2.1 dL_law_1960 ?_
  refine fx_topi (y := 2) (by decide) ?_
  refine gx_sld (v := 2) S hG hX hbl (fin_l (by decide)) hx2 dL_law_1961 ?_
  refine fx_cVd (As := [.int 2, .int 2]) (rest := []) S hG (k1415_X10_similarity (by omega) (fu_at (by omega) (fu_at (by omega) (fu_at (by omega) (fu_at (by omega) (fu_at (by omega) (fu_at (by omega) h13)))))) (fu_at (by omega) (fu_at (by omega) (fu_at (by omega) (fu_at (by omega) (fu_at (by omega) (fu_at (by omega) h14)))))) (fu_at (by omega) (fu_at (by omega) (fu_at (by omega) (fu_at (by omega) (fu_at (by omega) (fu_at (by omega) h15)))))) (fu_at (by omega) (fu_at (by omega) (fu_at (by omega) (fu_at (by omega) (fu_at (by omega) (fu_at (by omega) h16)))))) (fu_at (by omega) (fu_at (by omega) (fu_at (by omega) (fu_at (by omega) (fu_at (by omega) (fu_at (by omega) h17)))))) (fu_at (by omega) (fu_at (by omega) (fu_at (by omega) (fu_at (by omega) (fu_at (by omega) (fu_at (by omega) h18)))))) (fu_at (by omega) (fu_at (by omega) (fu_at (by omega) (fu_at (by omega) (fu_at (by omega) (fu_at (by omega) h19))))))) (fu_at (by omega) (fu_at (by omega) (fu_at (by omega) (fu_at (by omega) (fu_at (by omega) (fu_at (by omega) h13)))))) rfl (cwV 2 S.2.2.2.2 gL_law_X10_similarity rfl rfl rfl (by decide +kernel) ⟨Nat.le_of_ble_eq_true rfl, Nat.le_of_ble_eq_true rfl⟩) rfl hl.1 rfl (Nat.le_of_ble_eq_true rfl) dL_law_1962 ⟨Nat.le_of_ble_eq_true rfl, Nat.le_of_ble_eq_true rfl⟩ (fun rv_2 _ H locs hp hG => ?_)
  subst rv_2
  refine W.widen (k := 235) (n := 4982) (by decide) (by decide) ?_
  refine lv_dstore (lv' := [(7, .double 4607182418800017408), (6, .int 0), (0, .ref b), (1, .ref N0), (2, .ref (N0 + 164)), (3, .ref (N0 + 229)), (4, .ref (N0 + 230)), (5, .int 0)]) S.1 S.2.1 dL_law_1965 hl (by decide) rfl (fun ls hl => ?_)
  refine lv_aload_n S.1 S.2.1 dL_law_1967 rfl (lv_at hl 4 rfl) ?_
  refine fx_cVi (As := []) (rest := []) S hG (k117_X10_thrown (by omega) (fblk_sk 4 rfl (by omega) (fu_at (by omega) fu_s))) (fblk_sk 4 rfl (by omega) (fu_at (by omega) fu_s)) rfl (cwV 0 S.2.2.2.2 gL_law_X10_thrown rfl rfl rfl (by decide +kernel) ⟨Nat.le_of_ble_eq_true rfl, Nat.le_of_ble_eq_true rfl⟩) rfl hl.1 rfl (Nat.le_of_ble_eq_true rfl) dL_law_1968 ⟨Nat.le_of_ble_eq_true rfl, Nat.le_of_ble_eq_true rfl⟩ (fun rv_3 _ H locs hp hG => ?_)
  subst rv_3
  refine lv_iload S.1 S.2.1 dL_law_1971 (lv_at hl 1 rfl) ?_
  refine lv_icmp_eq (tgt := 1978) S.1 S.2.1 dL_law_1973 (by decide) (fun _ => ?_) (fun c => absurd (by decide) c)
  refine lv_iload S.1 S.2.1 dL_law_1978 (lv_at hl 1 rfl) ?_
  refine lv_if_ne (tgt := 2015) S.1 S.2.1 dL_law_1980 (by decide) (fun c => absurd (by decide) c) (fun _ => ?_)
  refine lv_aload S.1 S.2.1 dL_law_1983 (lv_at hl 6 rfl) ?_
  refine lv_iconst (v := 0) S.1 S.2.1 dL_law_1985 (by decide) ?_
  refine gx_dald (v := 4607182418800017408) S hG 3 (fblk_sk 4 rfl (by omega) (fu_at (by omega) (fu_at (by omega) fu_s))) rfl (fin_l (by decide)) rfl dL_law_1986 ?_
  refine lv_dload S.1 S.2.1 dL_law_1987 (lv_at hl 0 rfl) ?_
  refine gx_dcmp (v := 0) S (by decide +kernel) dL_law_1989 ?_
  refine lv_if_eq (tgt := 2015) S.1 S.2.1 dL_law_1990 (by decide) (fun _ => ?_) (fun c => absurd (by decide) c)
  refine lv_goto (tgt := 2650) S.1 S.2.1 dL_law_2015 (by decide) ?_
  refine lv_iinc (v := 5) (lv' := [(5, .int 5), (7, .double 4607182418800017408), (6, .int 0), (0, .ref b), (1, .ref N0), (2, .ref (N0 + 164)), (3, .ref (N0 + 229)), (4, .ref (N0 + 230))]) S.1 S.2.1 dL_law_2650 hl (k := 7) rfl (by decide) (by decide) rfl (fun ls hl => ?_)
  refine lv_goto (tgt := 28) S.1 S.2.1 dL_law_2653 (by decide) ?_
  refine lv_iload S.1 S.2.1 dL_law_28 (lv_at hl 0 rfl) ?_
  refine lv_aload_n S.1 S.2.1 dL_law_30 rfl (lv_at hl 3 rfl) ?_
  refine gx_slen (v := 5) S hG hX hbl rfl dL_law_31 ?_
  refine lv_iconst (v := 5) S.1 S.2.1 dL_law_32 (by decide) ?_
  refine lv_isub S.1 S.2.1 dL_law_33 ?_
  refine fx_topi (y := 0) (by decide) ?_
  refine lv_icmp_gt (tgt := 2656) S.1 S.2.1 dL_law_34 (by decide) (fun _ => ?_) (fun c => absurd (by decide) c)
  refine lv_iconst (v := 1) S.1 S.2.1 dL_law_2656 (by decide) ?_
  refine va_forget (fun q hq => by rw [hN]; exact hG.2.1.2.2 q hq) ?_
  refine W.widen (k := 600002) (n := 7302232) (by decide) (by decide) ?_
  exact lw_ret (d0 := s.drawn) (Drawn.sameBut.refl _ _) S.1 S.2.1 hr hlocks dL_law_2657
theorem l25_15 {p : Program} {e : Env} {s : State} {m : MethodId} {below : List Frame} {meth : Method} {c : Code} {b : Nat} {xs : Nat → Int32} {H : Heap} {locs : List Loc} {ls : Array Slot} {n : Nat} {a2 a3 a4 : Int32} (g_a2_ge_3 : 3 ≤ a2) (S : CallFix p m c cL_law 9 s #[.ref b] wsL_law "TreeDifferLaw") (hr : meth.sig.returnType = ret) (hlocks : meth.locks = false) (hst : l.stackTraces = false) (hX : va_X b 5 xs s s.heap) (hbl : b < s.heap.size ∧ b < N0) (hN : s.heap.size = N0) (hn : N0 + 231 ≤ n) (hx1 : xs 1 = 2) (hx2 : xs 2 = a2) (hx3 : xs 3 = a3) (hx4 : xs 4 = a4) (h0 : F N0 = some (.inr (9, [.ref (N0 + 1), .ref (N0 + 2), .ref (N0 + 11), .ref (N0 + 13), .ref (N0 + 63), .ref (N0 + 65), .ref (N0 + 85), .int (-1), .int (-1), .int 32]))) (h1 : F (N0 + 1) = some (.inl (cTr, 3, .inr (.inr (.inr (.inr (va_up (va_up (va_up (fun _ => none) 0 (some (N0 + 143))) 1 (some (N0 + 150))) 2 (some (N0 + 157))))))))) (h2 : F (N0 + 164) = some (.inr (12, [.ref (N0 + 165), .int 0, .ref (N0 + 181), .int 0, .int 0, .int 0, .int (-1), .ref (ql 24), .ref (N0 + 182), .ref (N0 + 187), .ref (N0 + 208), .ref (N0 + 209), .ref (N0 + 210), .ref (N0 + 211), .ref (N0 + 212), .int 0, .ref (N0 + 213), .ref (N0 + 218), .ref (N0 + 223), .ref (N0 + 224), .ref (N0 + 225), .ref (N0 + 226), .ref (N0 + 227), .int 0, .int 0, .ref (N0 + 228), .null, .int (-1), .int 0, .int 0, .int 0]))) (hG : fG N0 D vwCl (fty cI cC cL cD cII cTr cTm cIt cB) (fen ql) s F n H locs) (hl : lv_has ls 9 [(0, .ref b), (1, .ref N0), (2, .ref (N0 + 164)), (3, .ref (N0 + 229)), (4, .ref (N0 + 230)), (5, .int 0)]) : W p l e { frames := 2048, cells := 600002, slots := 7302232, locals := 84000 } s m #[.ref b] below meth c H locs 231 4980 (lw_Z below #[.ref b] s) (F0 m 1929 ls []) := by
  have lt_h0 := hG.1.lt h0
  have lt_h1 := hG.1.lt h1
  have lt_h2 := hG.1.lt h2
  refine lv_aload_n S.1 S.2.1 dL_law_1929 rfl (lv_at hl 1 rfl) ?_
  refine lv_aload_n S.1 S.2.1 dL_law_1930 rfl (lv_at hl 0 rfl) ?_
  refine lv_iload S.1 S.2.1 dL_law_1931 (lv_at hl 5 rfl) ?_
  refine lv_iconst (v := 1) S.1 S.2.1 dL_law_1933 (by decide) ?_
  refine lv_iadd S.1 S.2.1 dL_law_1934 ?_
  refine fx_topi (y := 1) (by decide) ?_
  refine gx_sld (v := 2) S hG hX hbl (fin_l (by decide)) hx1 dL_law_1935 ?_
  refine lv_aload_n S.1 S.2.1 dL_law_1936 rfl (lv_at hl 0 rfl) ?_
  refine lv_iload S.1 S.2.1 dL_law_1937 (lv_at hl 5 rfl) ?_
  refine lv_iconst (v := 2) S.1 S.2.1 dL_law_1939 (by decide) ?_
  refine lv_iadd S.1 S.2.1 dL_law_1940 ?_
  refine fx_topi (y := 2) (by decide) ?_
  refine gx_sld (v := a2) S hG hX hbl (fin_l (by decide)) hx2 dL_law_1941 ?_
  refine lv_aload S.1 S.2.1 dL_law_1942 (lv_at hl 4 rfl) ?_
  refine fx_cTi (As := [.ref N0, .int 2, .int a2, .ref (N0 + 230)]) (rest := []) S hG (k1417_L_similarity g_a2_ge_3 hst (by omega) h0 h1) (vx_cwSW 4 S.2.2.2.2 gL_law_L_similarity rfl rfl rfl (by decide +kernel) ⟨Nat.le_of_ble_eq_true rfl, Nat.le_of_ble_eq_true rfl⟩) rfl hl.1 rfl (Nat.le_of_ble_eq_true rfl) dL_law_1944 ⟨Nat.le_of_ble_eq_true rfl, Nat.le_of_ble_eq_true rfl⟩ (fun rv_u_1 u_1 H locs hp hG => ?_)
  obtain ⟨rfl, hu_1⟩ := hp
  refine W.widen (k := 232) (n := 4986) (by decide) (by decide) ?_
  refine lv_istore (lv' := [(6, .int 1), (0, .ref b), (1, .ref N0), (2, .ref (N0 + 164)), (3, .ref (N0 + 229)), (4, .ref (N0 + 230)), (5, .int 0)]) S.1 S.2.1 dL_law_1947 hl (by decide) rfl (fun ls hl => ?_)
  refine lv_aload_n S.1 S.2.1 dL_law_1949 rfl (lv_at hl 3 rfl) ?_
  refine lv_aload_n S.1 S.2.1 dL_law_1950 rfl (lv_at hl 1 rfl) ?_
  refine lv_iload S.1 S.2.1 dL_law_1951 (lv_at hl 6 rfl) ?_
  refine lv_iconst (v := 1) S.1 S.2.1 dL_law_1953 (by decide) ?_
  refine lv_iadd S.1 S.2.1 dL_law_1954 ?_
  refine fx_topi (y := 1) (by decide) ?_
  refine gx_sld (v := 2) S hG hX hbl (fin_l (by decide)) hx1 dL_law_1955 ?_
  refine lv_aload_n S.1 S.2.1 dL_law_1956 rfl (lv_at hl 1 rfl) ?_
  refine lv_iload S.1 S.2.1 dL_law_1957 (lv_at hl 6 rfl) ?_
  refine lv_iconst (v := 2) S.1 S.2.1 dL_law_1959 (by decide) ?_
  refine lv_iadd S.1 S.2.1 dL_law_1960 ?_
  refine fx_topi (y := 2) (by decide) ?_
  refine gx_sld (v := a2) S hG hX hbl (fin_l (by decide)) hx2 dL_law_1961 ?_
  refine fx_cVd (As := [.int 2, .int a2]) (rest := []) S hG (k1418_X10_similarity g_a2_ge_3 (by omega) h2) h2 rfl (cwV 2 S.2.2.2.2 gL_law_X10_similarity rfl rfl rfl (by decide +kernel) ⟨Nat.le_of_ble_eq_true rfl, Nat.le_of_ble_eq_true rfl⟩) rfl hl.1 rfl (Nat.le_of_ble_eq_true rfl) dL_law_1962 ⟨Nat.le_of_ble_eq_true rfl, Nat.le_of_ble_eq_true rfl⟩ (fun rv_2 _ H locs hp hG => ?_)
  subst rv_2
  refine lv_dstore (lv' := [(7, .double 0), (6, .int 1), (0, .ref b), (1, .ref N0), (2, .ref (N0 + 164)), (3, .ref (N0 + 229)), (4, .ref (N0 + 230)), (5, .int 0)]) S.1 S.2.1 dL_law_1965 hl (by decide) rfl (fun ls hl => ?_)
  refine lv_aload_n S.1 S.2.1 dL_law_1967 rfl (lv_at hl 4 rfl) ?_
  refine fx_cVi (As := []) (rest := []) S hG (k25_X10_thrown (by omega) fu_s) fu_s rfl (cwV 0 S.2.2.2.2 gL_law_X10_thrown rfl rfl rfl (by decide +kernel) ⟨Nat.le_of_ble_eq_true rfl, Nat.le_of_ble_eq_true rfl⟩) rfl hl.1 rfl (Nat.le_of_ble_eq_true rfl) dL_law_1968 ⟨Nat.le_of_ble_eq_true rfl, Nat.le_of_ble_eq_true rfl⟩ (fun rv_3 _ H locs hp hG => ?_)
  subst rv_3
  refine lv_iload S.1 S.2.1 dL_law_1971 (lv_at hl 1 rfl) ?_
  refine lv_icmp_eq (tgt := 1978) S.1 S.2.1 dL_law_1973 (by decide) (fun _ => ?_) (fun c => absurd (by decide) c)
  refine lv_iload S.1 S.2.1 dL_law_1978 (lv_at hl 1 rfl) ?_
  refine lv_if_ne (tgt := 2015) S.1 S.2.1 dL_law_1980 (by decide) (fun _ => ?_) (fun c => absurd c (by decide))
  refine lv_goto (tgt := 2650) S.1 S.2.1 dL_law_2015 (by decide) ?_
  refine lv_iinc (v := 5) (lv' := [(5, .int 5), (7, .double 0), (6, .int 1), (0, .ref b), (1, .ref N0), (2, .ref (N0 + 164)), (3, .ref (N0 + 229)), (4, .ref (N0 + 230))]) S.1 S.2.1 dL_law_2650 hl (k := 7) rfl (by decide) (by decide) rfl (fun ls hl => ?_)
  refine lv_goto (tgt := 28) S.1 S.2.1 dL_law_2653 (by decide) ?_
  refine lv_iload S.1 S.2.1 dL_law_28 (lv_at hl 0 rfl) ?_
  refine lv_aload_n S.1 S.2.1 dL_law_30 rfl (lv_at hl 3 rfl) ?_
  refine gx_slen (v := 5) S hG hX hbl rfl dL_law_31 ?_
  refine lv_iconst (v := 5) S.1 S.2.1 dL_law_32 (by decide) ?_
  refine lv_isub S.1 S.2.1 dL_law_33 ?_
  refine fx_topi (y := 0) (by decide) ?_
  refine lv_icmp_gt (tgt := 2656) S.1 S.2.1 dL_law_34 (by decide) (fun _ => ?_) (fun c => absurd (by decide) c)
  refine lv_iconst (v := 1) S.1 S.2.1 dL_law_2656 (by decide) ?_
  refine va_forget (fun q hq => by rw [hN]; exact hG.2.1.2.2 q hq) ?_
  refine W.widen (k := 600002) (n := 7302232) (by decide) (by decide) ?_
  exact lw_ret (d0 := s.drawn) (Drawn.sameBut.refl _ _) S.1 S.2.1 hr hlocks dL_law_2657
theorem l25_16 {p : Program} {e : Env} {s : State} {m : MethodId} {below : List Frame} {meth : Method} {c : Code} {b : Nat} {xs : Nat → Int32} {H : Heap} {locs : List Loc} {ls : Array Slot} {n : Nat} {a1 a2 a3 a4 : Int32} (g_a1_ge_3 : 3 ≤ a1) (S : CallFix p m c cL_law 9 s #[.ref b] wsL_law "TreeDifferLaw") (hr : meth.sig.returnType = ret) (hlocks : meth.locks = false) (hst : l.stackTraces = false) (hX : va_X b 5 xs s s.heap) (hbl : b < s.heap.size ∧ b < N0) (hN : s.heap.size = N0) (hn : N0 + 231 ≤ n) (hx1 : xs 1 = a1) (hx2 : xs 2 = a2) (hx3 : xs 3 = a3) (hx4 : xs 4 = a4) (h0 : F N0 = some (.inr (9, [.ref (N0 + 1), .ref (N0 + 2), .ref (N0 + 11), .ref (N0 + 13), .ref (N0 + 63), .ref (N0 + 65), .ref (N0 + 85), .int (-1), .int (-1), .int 32]))) (h1 : F (N0 + 164) = some (.inr (12, [.ref (N0 + 165), .int 0, .ref (N0 + 181), .int 0, .int 0, .int 0, .int (-1), .ref (ql 24), .ref (N0 + 182), .ref (N0 + 187), .ref (N0 + 208), .ref (N0 + 209), .ref (N0 + 210), .ref (N0 + 211), .ref (N0 + 212), .int 0, .ref (N0 + 213), .ref (N0 + 218), .ref (N0 + 223), .ref (N0 + 224), .ref (N0 + 225), .ref (N0 + 226), .ref (N0 + 227), .int 0, .int 0, .ref (N0 + 228), .null, .int (-1), .int 0, .int 0, .int 0]))) (hG : fG N0 D vwCl (fty cI cC cL cD cII cTr cTm cIt cB) (fen ql) s F n H locs) (hl : lv_has ls 9 [(0, .ref b), (1, .ref N0), (2, .ref (N0 + 164)), (3, .ref (N0 + 229)), (4, .ref (N0 + 230)), (5, .int 0)]) : W p l e { frames := 2048, cells := 600002, slots := 7302232, locals := 84000 } s m #[.ref b] below meth c H locs 231 4980 (lw_Z below #[.ref b] s) (F0 m 1929 ls []) := by
  have lt_h0 := hG.1.lt h0
  have lt_h1 := hG.1.lt h1
  refine lv_aload_n S.1 S.2.1 dL_law_1929 rfl (lv_at hl 1 rfl) ?_
  refine lv_aload_n S.1 S.2.1 dL_law_1930 rfl (lv_at hl 0 rfl) ?_
  refine lv_iload S.1 S.2.1 dL_law_1931 (lv_at hl 5 rfl) ?_
  refine lv_iconst (v := 1) S.1 S.2.1 dL_law_1933 (by decide) ?_
  refine lv_iadd S.1 S.2.1 dL_law_1934 ?_
  refine fx_topi (y := 1) (by decide) ?_
  refine gx_sld (v := a1) S hG hX hbl (fin_l (by decide)) hx1 dL_law_1935 ?_
  refine lv_aload_n S.1 S.2.1 dL_law_1936 rfl (lv_at hl 0 rfl) ?_
  refine lv_iload S.1 S.2.1 dL_law_1937 (lv_at hl 5 rfl) ?_
  refine lv_iconst (v := 2) S.1 S.2.1 dL_law_1939 (by decide) ?_
  refine lv_iadd S.1 S.2.1 dL_law_1940 ?_
  refine fx_topi (y := 2) (by decide) ?_
  refine gx_sld (v := a2) S hG hX hbl (fin_l (by decide)) hx2 dL_law_1941 ?_
  refine lv_aload S.1 S.2.1 dL_law_1942 (lv_at hl 4 rfl) ?_
  refine fx_cTi (As := [.ref N0, .int a1, .int a2, .ref (N0 + 230)]) (rest := []) S hG (k1420_L_similarity g_a1_ge_3 hst (by omega) h0) (vx_cwSW 4 S.2.2.2.2 gL_law_L_similarity rfl rfl rfl (by decide +kernel) ⟨Nat.le_of_ble_eq_true rfl, Nat.le_of_ble_eq_true rfl⟩) rfl hl.1 rfl (Nat.le_of_ble_eq_true rfl) dL_law_1944 ⟨Nat.le_of_ble_eq_true rfl, Nat.le_of_ble_eq_true rfl⟩ (fun rv_u_1 u_1 H locs hp hG => ?_)
  obtain ⟨rfl, hu_1⟩ := hp
  refine W.widen (k := 232) (n := 4986) (by decide) (by decide) ?_
  refine lv_istore (lv' := [(6, .int 1), (0, .ref b), (1, .ref N0), (2, .ref (N0 + 164)), (3, .ref (N0 + 229)), (4, .ref (N0 + 230)), (5, .int 0)]) S.1 S.2.1 dL_law_1947 hl (by decide) rfl (fun ls hl => ?_)
  refine lv_aload_n S.1 S.2.1 dL_law_1949 rfl (lv_at hl 3 rfl) ?_
  refine lv_aload_n S.1 S.2.1 dL_law_1950 rfl (lv_at hl 1 rfl) ?_
  refine lv_iload S.1 S.2.1 dL_law_1951 (lv_at hl 6 rfl) ?_
  refine lv_iconst (v := 1) S.1 S.2.1 dL_law_1953 (by decide) ?_
  refine lv_iadd S.1 S.2.1 dL_law_1954 ?_
  refine fx_topi (y := 1) (by decide) ?_
  refine gx_sld (v := a1) S hG hX hbl (fin_l (by decide)) hx1 dL_law_1955 ?_
  refine lv_aload_n S.1 S.2.1 dL_law_1956 rfl (lv_at hl 1 rfl) ?_
  refine lv_iload S.1 S.2.1 dL_law_1957 (lv_at hl 6 rfl) ?_
  refine lv_iconst (v := 2) S.1 S.2.1 dL_law_1959 (by decide) ?_
  refine lv_iadd S.1 S.2.1 dL_law_1960 ?_
  refine fx_topi (y := 2) (by decide) ?_
  refine gx_sld (v := a2) S hG hX hbl (fin_l (by decide)) hx2 dL_law_1961 ?_
  refine fx_cVd (As := [.int a1, .int a2]) (rest := []) S hG (k1421_X10_similarity g_a1_ge_3 (by omega) h1) h1 rfl (cwV 2 S.2.2.2.2 gL_law_X10_similarity rfl rfl rfl (by decide +kernel) ⟨Nat.le_of_ble_eq_true rfl, Nat.le_of_ble_eq_true rfl⟩) rfl hl.1 rfl (Nat.le_of_ble_eq_true rfl) dL_law_1962 ⟨Nat.le_of_ble_eq_true rfl, Nat.le_of_ble_eq_true rfl⟩ (fun rv_2 _ H locs hp hG => ?_)
  subst rv_2
  refine lv_dstore (lv' := [(7, .double 0), (6, .int 1), (0, .ref b), (1, .ref N0), (2, .ref (N0 + 164)), (3, .ref (N0 + 229)), (4, .ref (N0 + 230)), (5, .int 0)]) S.1 S.2.1 dL_law_1965 hl (by decide) rfl (fun ls hl => ?_)
  refine lv_aload_n S.1 S.2.1 dL_law_1967 rfl (lv_at hl 4 rfl) ?_
  refine fx_cVi (As := []) (rest := []) S hG (k25_X10_thrown (by omega) fu_s) fu_s rfl (cwV 0 S.2.2.2.2 gL_law_X10_thrown rfl rfl rfl (by decide +kernel) ⟨Nat.le_of_ble_eq_true rfl, Nat.le_of_ble_eq_true rfl⟩) rfl hl.1 rfl (Nat.le_of_ble_eq_true rfl) dL_law_1968 ⟨Nat.le_of_ble_eq_true rfl, Nat.le_of_ble_eq_true rfl⟩ (fun rv_3 _ H locs hp hG => ?_)
  subst rv_3
  refine lv_iload S.1 S.2.1 dL_law_1971 (lv_at hl 1 rfl) ?_
  refine lv_icmp_eq (tgt := 1978) S.1 S.2.1 dL_law_1973 (by decide) (fun _ => ?_) (fun c => absurd (by decide) c)
  refine lv_iload S.1 S.2.1 dL_law_1978 (lv_at hl 1 rfl) ?_
  refine lv_if_ne (tgt := 2015) S.1 S.2.1 dL_law_1980 (by decide) (fun _ => ?_) (fun c => absurd c (by decide))
  refine lv_goto (tgt := 2650) S.1 S.2.1 dL_law_2015 (by decide) ?_
  refine lv_iinc (v := 5) (lv' := [(5, .int 5), (7, .double 0), (6, .int 1), (0, .ref b), (1, .ref N0), (2, .ref (N0 + 164)), (3, .ref (N0 + 229)), (4, .ref (N0 + 230))]) S.1 S.2.1 dL_law_2650 hl (k := 7) rfl (by decide) (by decide) rfl (fun ls hl => ?_)
  refine lv_goto (tgt := 28) S.1 S.2.1 dL_law_2653 (by decide) ?_
  refine lv_iload S.1 S.2.1 dL_law_28 (lv_at hl 0 rfl) ?_
  refine lv_aload_n S.1 S.2.1 dL_law_30 rfl (lv_at hl 3 rfl) ?_
  refine gx_slen (v := 5) S hG hX hbl rfl dL_law_31 ?_
  refine lv_iconst (v := 5) S.1 S.2.1 dL_law_32 (by decide) ?_
  refine lv_isub S.1 S.2.1 dL_law_33 ?_
  refine fx_topi (y := 0) (by decide) ?_
  refine lv_icmp_gt (tgt := 2656) S.1 S.2.1 dL_law_34 (by decide) (fun _ => ?_) (fun c => absurd (by decide) c)
  refine lv_iconst (v := 1) S.1 S.2.1 dL_law_2656 (by decide) ?_
  refine va_forget (fun q hq => by rw [hN]; exact hG.2.1.2.2 q hq) ?_
  refine W.widen (k := 600002) (n := 7302232) (by decide) (by decide) ?_
  exact lw_ret (d0 := s.drawn) (Drawn.sameBut.refl _ _) S.1 S.2.1 hr hlocks dL_law_2657
theorem case_25 {p : Program} {e : Env} {s : State} {m : MethodId} {below : List Frame} {meth : Method} {c : Code} {b : Nat} {xs : Nat → Int32} {H : Heap} {locs : List Loc} {ls : Array Slot} {n : Nat} {a1 a2 a3 a4 : Int32} (S : CallFix p m c cL_law 9 s #[.ref b] wsL_law "TreeDifferLaw") (hr : meth.sig.returnType = ret) (hlocks : meth.locks = false) (hst : l.stackTraces = false) (hX : va_X b 5 xs s s.heap) (hbl : b < s.heap.size ∧ b < N0) (hN : s.heap.size = N0) (hn : N0 + 231 ≤ n) (hx1 : xs 1 = a1) (hx2 : xs 2 = a2) (hx3 : xs 3 = a3) (hx4 : xs 4 = a4) (hL : ∀ (i : Nat) (q : Nat × va_E), (lneed N0 cI cC cL cD cII cTr cTm cIt cB ql)[i]? = some q → F (N0 + q.1) = some q.2) (hG : fG N0 D vwCl (fty cI cC cL cD cII cTr cTm cIt cB) (fen ql) s F n H locs) (hl : lv_has ls 9 [(0, .ref b), (1, .ref N0), (2, .ref (N0 + 164)), (3, .ref (N0 + 229)), (4, .ref (N0 + 230)), (5, .int 0)]) : W p l e { frames := 2048, cells := 600002, slots := 7302232, locals := 84000 } s m #[.ref b] below meth c H locs 231 4980 (lw_Z below #[.ref b] s) (F0 m 1929 ls []) := by
  have hn1 := pk_nc a1
  have hf1 := pk_fc a1
  have hv1 := pk_vc a1
  obtain ⟨g_c1_ge_0, g_c1_le_65535⟩ := fl_c0 a1
  generalize hc1 : (a1.toUInt32 % 65536).toInt32 = c1 at *
  have hn2 := pk_nc a2
  have hf2 := pk_fc a2
  have hv2 := pk_vc a2
  obtain ⟨g_c2_ge_0, g_c2_le_65535⟩ := fl_c0 a2
  generalize hc2 : (a2.toUInt32 % 65536).toInt32 = c2 at *
  have hn3 := pk_nc a3
  have hf3 := pk_fc a3
  have hv3 := pk_vc a3
  obtain ⟨g_c3_ge_0, g_c3_le_65535⟩ := fl_c0 a3
  generalize hc3 : (a3.toUInt32 % 65536).toInt32 = c3 at *
  have hn4 := pk_nc a4
  have hf4 := pk_fc a4
  have hv4 := pk_vc a4
  obtain ⟨g_c4_ge_0, g_c4_le_65535⟩ := fl_c0 a4
  generalize hc4 : (a4.toUInt32 % 65536).toInt32 = c4 at *
  rcases fl_cut a1 0 (-1) (by decide) with g_a1_le_m1 | g_a1_ge_0
  · skip
    exact l25_0 g_a1_le_m1 S hr hlocks hst hX hbl hN hn hx1 hx2 hx3 hx4 (hL 0 _ rfl) (hL 4 _ rfl) hG hl
  · skip
    rcases fl_cut a1 3 2 (by decide) with g_a1_le_2 | g_a1_ge_3
    · skip
      rcases fl_cut a1 1 0 (by decide) with g_a1_le_0 | g_a1_ge_1
      · skip
        obtain rfl : a1 = 0 := Int32.le_antisymm g_a1_le_0 g_a1_ge_0
        rcases fl_cut a2 0 (-1) (by decide) with g_a2_le_m1 | g_a2_ge_0
        · skip
          exact l25_1 g_a2_le_m1 S hr hlocks hst hX hbl hN hn hx1 hx2 hx3 hx4 (hL 0 _ rfl) (hL 6 _ rfl) (hL 4 _ rfl) hG hl
        · skip
          rcases fl_cut a2 3 2 (by decide) with g_a2_le_2 | g_a2_ge_3
          · skip
            rcases fl_cut a2 1 0 (by decide) with g_a2_le_0 | g_a2_ge_1
            · skip
              obtain rfl : a2 = 0 := Int32.le_antisymm g_a2_le_0 g_a2_ge_0
              exact l25_2 S hr hlocks hst hX hbl hN hn hx1 hx2 hx3 hx4 (hL 0 _ rfl) (hL 6 _ rfl) (hL 47 _ rfl) (hL 10 _ rfl) (hL 48 _ rfl) (hL 49 _ rfl) (hL 50 _ rfl) (hL 51 _ rfl) (hL 52 _ rfl) (hL 13 _ rfl) (hL 15 _ rfl) (hL 53 _ rfl) (hL 58 _ rfl) (hL 4 _ rfl) (hL 11 _ rfl) (hL 12 _ rfl) (hL 18 _ rfl) (hL 20 _ rfl) (hL 54 _ rfl) (hL 55 _ rfl) hG hl
            · skip
              rcases fl_cut a2 2 1 (by decide) with g_a2_le_1 | g_a2_ge_2
              · skip
                obtain rfl : a2 = 1 := Int32.le_antisymm g_a2_le_1 g_a2_ge_1
                exact l25_3 S hr hlocks hst hX hbl hN hn hx1 hx2 hx3 hx4 (hL 0 _ rfl) (hL 6 _ rfl) (hL 47 _ rfl) (hL 10 _ rfl) (hL 48 _ rfl) (hL 22 _ rfl) (hL 49 _ rfl) (hL 50 _ rfl) (hL 51 _ rfl) (hL 52 _ rfl) (hL 13 _ rfl) (hL 24 _ rfl) (hL 15 _ rfl) (hL 26 _ rfl) (hL 53 _ rfl) (hL 58 _ rfl) (hL 4 _ rfl) (hL 11 _ rfl) (hL 12 _ rfl) (hL 23 _ rfl) (hL 18 _ rfl) (hL 29 _ rfl) (hL 20 _ rfl) (hL 31 _ rfl) (hL 54 _ rfl) (hL 55 _ rfl) hG hl
              · skip
                obtain rfl : a2 = 2 := Int32.le_antisymm g_a2_le_2 g_a2_ge_2
                exact l25_4 S hr hlocks hst hX hbl hN hn hx1 hx2 hx3 hx4 (hL 0 _ rfl) (hL 6 _ rfl) (hL 47 _ rfl) (hL 10 _ rfl) (hL 48 _ rfl) (hL 33 _ rfl) (hL 49 _ rfl) (hL 50 _ rfl) (hL 51 _ rfl) (hL 52 _ rfl) (hL 13 _ rfl) (hL 35 _ rfl) (hL 15 _ rfl) (hL 37 _ rfl) (hL 53 _ rfl) (hL 58 _ rfl) (hL 4 _ rfl) (hL 11 _ rfl) (hL 12 _ rfl) (hL 34 _ rfl) (hL 18 _ rfl) (hL 40 _ rfl) (hL 20 _ rfl) (hL 42 _ rfl) (hL 54 _ rfl) (hL 55 _ rfl) hG hl
          · skip
            exact l25_5 g_a2_ge_3 S hr hlocks hst hX hbl hN hn hx1 hx2 hx3 hx4 (hL 0 _ rfl) (hL 6 _ rfl) (hL 4 _ rfl) hG hl
      · skip
        rcases fl_cut a1 2 1 (by decide) with g_a1_le_1 | g_a1_ge_2
        · skip
          obtain rfl : a1 = 1 := Int32.le_antisymm g_a1_le_1 g_a1_ge_1
          rcases fl_cut a2 0 (-1) (by decide) with g_a2_le_m1 | g_a2_ge_0
          · skip
            exact l25_6 g_a2_le_m1 S hr hlocks hst hX hbl hN hn hx1 hx2 hx3 hx4 (hL 0 _ rfl) (hL 6 _ rfl) (hL 4 _ rfl) hG hl
          · skip
            rcases fl_cut a2 3 2 (by decide) with g_a2_le_2 | g_a2_ge_3
            · skip
              rcases fl_cut a2 1 0 (by decide) with g_a2_le_0 | g_a2_ge_1
              · skip
                obtain rfl : a2 = 0 := Int32.le_antisymm g_a2_le_0 g_a2_ge_0
                exact l25_7 S hr hlocks hst hX hbl hN hn hx1 hx2 hx3 hx4 (hL 0 _ rfl) (hL 6 _ rfl) (hL 47 _ rfl) (hL 22 _ rfl) (hL 48 _ rfl) (hL 10 _ rfl) (hL 49 _ rfl) (hL 50 _ rfl) (hL 51 _ rfl) (hL 52 _ rfl) (hL 24 _ rfl) (hL 13 _ rfl) (hL 26 _ rfl) (hL 15 _ rfl) (hL 53 _ rfl) (hL 58 _ rfl) (hL 4 _ rfl) (hL 11 _ rfl) (hL 23 _ rfl) (hL 12 _ rfl) (hL 29 _ rfl) (hL 18 _ rfl) (hL 31 _ rfl) (hL 20 _ rfl) (hL 54 _ rfl) (hL 55 _ rfl) hG hl
              · skip
                rcases fl_cut a2 2 1 (by decide) with g_a2_le_1 | g_a2_ge_2
                · skip
                  obtain rfl : a2 = 1 := Int32.le_antisymm g_a2_le_1 g_a2_ge_1
                  exact l25_8 S hr hlocks hst hX hbl hN hn hx1 hx2 hx3 hx4 (hL 0 _ rfl) (hL 6 _ rfl) (hL 47 _ rfl) (hL 22 _ rfl) (hL 48 _ rfl) (hL 49 _ rfl) (hL 50 _ rfl) (hL 51 _ rfl) (hL 52 _ rfl) (hL 24 _ rfl) (hL 26 _ rfl) (hL 53 _ rfl) (hL 58 _ rfl) (hL 4 _ rfl) (hL 11 _ rfl) (hL 23 _ rfl) (hL 29 _ rfl) (hL 31 _ rfl) (hL 54 _ rfl) (hL 55 _ rfl) hG hl
                · skip
                  obtain rfl : a2 = 2 := Int32.le_antisymm g_a2_le_2 g_a2_ge_2
                  exact l25_9 S hr hlocks hst hX hbl hN hn hx1 hx2 hx3 hx4 (hL 0 _ rfl) (hL 6 _ rfl) (hL 47 _ rfl) (hL 22 _ rfl) (hL 48 _ rfl) (hL 33 _ rfl) (hL 49 _ rfl) (hL 50 _ rfl) (hL 51 _ rfl) (hL 52 _ rfl) (hL 24 _ rfl) (hL 35 _ rfl) (hL 26 _ rfl) (hL 37 _ rfl) (hL 53 _ rfl) (hL 58 _ rfl) (hL 4 _ rfl) (hL 11 _ rfl) (hL 23 _ rfl) (hL 34 _ rfl) (hL 29 _ rfl) (hL 40 _ rfl) (hL 31 _ rfl) (hL 42 _ rfl) (hL 54 _ rfl) (hL 55 _ rfl) hG hl
            · skip
              exact l25_10 g_a2_ge_3 S hr hlocks hst hX hbl hN hn hx1 hx2 hx3 hx4 (hL 0 _ rfl) (hL 6 _ rfl) (hL 4 _ rfl) hG hl
        · skip
          obtain rfl : a1 = 2 := Int32.le_antisymm g_a1_le_2 g_a1_ge_2
          rcases fl_cut a2 0 (-1) (by decide) with g_a2_le_m1 | g_a2_ge_0
          · skip
            exact l25_11 g_a2_le_m1 S hr hlocks hst hX hbl hN hn hx1 hx2 hx3 hx4 (hL 0 _ rfl) (hL 6 _ rfl) (hL 4 _ rfl) hG hl
          · skip
            rcases fl_cut a2 3 2 (by decide) with g_a2_le_2 | g_a2_ge_3
            · skip
              rcases fl_cut a2 1 0 (by decide) with g_a2_le_0 | g_a2_ge_1
              · skip
                obtain rfl : a2 = 0 := Int32.le_antisymm g_a2_le_0 g_a2_ge_0
                exact l25_12 S hr hlocks hst hX hbl hN hn hx1 hx2 hx3 hx4 (hL 0 _ rfl) (hL 6 _ rfl) (hL 47 _ rfl) (hL 33 _ rfl) (hL 48 _ rfl) (hL 10 _ rfl) (hL 49 _ rfl) (hL 50 _ rfl) (hL 51 _ rfl) (hL 52 _ rfl) (hL 35 _ rfl) (hL 13 _ rfl) (hL 37 _ rfl) (hL 15 _ rfl) (hL 53 _ rfl) (hL 58 _ rfl) (hL 4 _ rfl) (hL 11 _ rfl) (hL 34 _ rfl) (hL 12 _ rfl) (hL 40 _ rfl) (hL 18 _ rfl) (hL 42 _ rfl) (hL 20 _ rfl) (hL 54 _ rfl) (hL 55 _ rfl) hG hl
              · skip
                rcases fl_cut a2 2 1 (by decide) with g_a2_le_1 | g_a2_ge_2
                · skip
                  obtain rfl : a2 = 1 := Int32.le_antisymm g_a2_le_1 g_a2_ge_1
                  exact l25_13 S hr hlocks hst hX hbl hN hn hx1 hx2 hx3 hx4 (hL 0 _ rfl) (hL 6 _ rfl) (hL 47 _ rfl) (hL 33 _ rfl) (hL 48 _ rfl) (hL 22 _ rfl) (hL 49 _ rfl) (hL 50 _ rfl) (hL 51 _ rfl) (hL 52 _ rfl) (hL 35 _ rfl) (hL 24 _ rfl) (hL 37 _ rfl) (hL 26 _ rfl) (hL 53 _ rfl) (hL 58 _ rfl) (hL 4 _ rfl) (hL 11 _ rfl) (hL 34 _ rfl) (hL 23 _ rfl) (hL 40 _ rfl) (hL 29 _ rfl) (hL 42 _ rfl) (hL 31 _ rfl) (hL 54 _ rfl) (hL 55 _ rfl) hG hl
                · skip
                  obtain rfl : a2 = 2 := Int32.le_antisymm g_a2_le_2 g_a2_ge_2
                  exact l25_14 S hr hlocks hst hX hbl hN hn hx1 hx2 hx3 hx4 (hL 0 _ rfl) (hL 6 _ rfl) (hL 47 _ rfl) (hL 33 _ rfl) (hL 48 _ rfl) (hL 49 _ rfl) (hL 50 _ rfl) (hL 51 _ rfl) (hL 52 _ rfl) (hL 35 _ rfl) (hL 37 _ rfl) (hL 53 _ rfl) (hL 58 _ rfl) (hL 4 _ rfl) (hL 11 _ rfl) (hL 34 _ rfl) (hL 40 _ rfl) (hL 42 _ rfl) (hL 54 _ rfl) (hL 55 _ rfl) hG hl
            · skip
              exact l25_15 g_a2_ge_3 S hr hlocks hst hX hbl hN hn hx1 hx2 hx3 hx4 (hL 0 _ rfl) (hL 6 _ rfl) (hL 4 _ rfl) hG hl
    · skip
      exact l25_16 g_a1_ge_3 S hr hlocks hst hX hbl hN hn hx1 hx2 hx3 hx4 (hL 0 _ rfl) (hL 4 _ rfl) hG hl
