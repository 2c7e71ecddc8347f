theorem dX7_setLabel_0 : decode cX7_setLabel 0 = .ok (.aload_n 0, 1) := by decide +kernel
theorem dX7_setLabel_1 : decode cX7_setLabel 1 = .ok (.iload_n 1, 1) := by decide +kernel
theorem dX7_setLabel_2 : decode cX7_setLabel 2 = .ok (.iload_n 2, 1) := by decide +kernel
set_option maxRecDepth 20000 in
theorem ggX7_setLabel_X7_treeWith : GoodIn wsX7_setLabel wsX7_treeWith := goodIn_ca (goodIn_r _ [6, 7, 8, 9, 10, 11, 5, 12, 13, 14, 15, 16, 17, 18, 19, 41, 42, 43, 44, 45, 46, 47, 48, 49, 50, 34, 35, 36, 37, 38, 39, 40] (by decide +kernel) (by decide +kernel)) (goodIn_sub (fun _ h => List.mem_cons_of_mem _ (List.mem_append_left _ (List.mem_append_right _ h))) (by decide +kernel))
set_option maxRecDepth 20000 in
theorem gX7_setLabel_X7_treeWith : GoodIn wsX7_setLabel (wsV RX7 146 RX7 yX7_treeWith wsX7_treeWith) := goodIn_app (goodIn_of _ (by decide +kernel)) ggX7_setLabel_X7_treeWith
theorem dX7_setLabel_3 : decode cX7_setLabel 3 = .ok (.invokevirtual 146, 3) := by decide +kernel
theorem dL_setLabel_0 : decode cL_setLabel 0 = .ok (.aload 4, 2) := by decide +kernel
theorem dL_setLabel_2 : decode cL_setLabel 2 = .ok (.iconst 0, 1) := by decide +kernel
theorem dL_setLabel_3 : decode cL_setLabel 3 = .ok (.aload_n 0, 1) := by decide +kernel
theorem dL_setLabel_4 : decode cL_setLabel 4 = .ok (.iload_n 1, 1) := by decide +kernel
theorem dL_setLabel_5 : decode cL_setLabel 5 = .ok (.iload_n 2, 1) := by decide +kernel
theorem dL_setLabel_6 : decode cL_setLabel 6 = .ok (.iload_n 3, 1) := by decide +kernel
set_option maxRecDepth 20000 in
theorem ggL_setLabel_X7_setLabel : GoodIn wsL_setLabel wsX7_setLabel := goodIn_ca (goodIn_ca (goodIn_r _ [7, 8, 9, 10, 11, 6, 12, 13, 14, 15, 16, 17, 18, 19, 20, 21, 22, 23, 24, 25, 26, 27, 28, 29, 30, 31, 32, 33, 34, 35, 36, 37, 38, 39, 40, 41, 42, 43, 44, 45, 46, 47, 48, 49, 50, 51, 52, 53, 54, 55, 56] (by decide +kernel) (by decide +kernel)) (goodIn_sub (fun _ h => List.mem_cons_of_mem _ (List.mem_append_left _ (List.mem_append_right _ h))) (by decide +kernel))) (goodIn_sub (fun _ h => List.mem_cons_of_mem _ (List.mem_append_right _ h)) (by decide +kernel))
set_option maxRecDepth 20000 in
theorem gL_setLabel_X7_setLabel : GoodIn wsL_setLabel (wsV RL 49 RX7 yX7_setLabel wsX7_setLabel) := goodIn_app (goodIn_of _ (by decide +kernel)) ggL_setLabel_X7_setLabel
theorem dL_setLabel_7 : decode cL_setLabel 7 = .ok (.invokevirtual 49, 3) := by decide +kernel
theorem dL_setLabel_15 : decode cL_setLabel 15 = .ok (.astore 5, 2) := by decide +kernel
theorem dL_setLabel_17 : decode cL_setLabel 17 = .ok (.iconst 1, 1) := by decide +kernel
theorem dL_setLabel_18 : decode cL_setLabel 18 = .ok (.ireturn, 1) := by decide +kernel
theorem dX10_setLabel_0 : decode cX10_setLabel 0 = .ok (.aload_n 0, 1) := by decide +kernel
theorem dX10_setLabel_1 : decode cX10_setLabel 1 = .ok (.iload_n 1, 1) := by decide +kernel
theorem dX10_setLabel_2 : decode cX10_setLabel 2 = .ok (.iload_n 2, 1) := by decide +kernel
set_option maxRecDepth 20000 in
theorem ggX10_setLabel_X10_isNowhere : GoodIn wsX10_setLabel wsX10_isNowhere := goodIn_r _ [6, 7, 8, 9, 10, 5, 11, 1, 12, 13, 14, 15, 16, 17, 25, 26, 27, 28, 29, 30, 31, 32, 33, 34, 35, 36, 37, 38, 39, 40, 41, 42, 43, 44, 45, 46, 47, 48, 49, 50, 51, 52, 53, 54, 55, 56, 57, 58, 59, 60] (by decide +kernel) (by decide +kernel)
set_option maxRecDepth 20000 in
theorem gX10_setLabel_X10_isNowhere : GoodIn wsX10_setLabel (wsV RX10 202 RX10 yX10_isNowhere wsX10_isNowhere) := goodIn_app (goodIn_of _ (by decide +kernel)) ggX10_setLabel_X10_isNowhere
theorem dX10_setLabel_3 : decode cX10_setLabel 3 = .ok (.invokevirtual 202, 3) := by decide +kernel
theorem dX10_setLabel_6 : decode cX10_setLabel 6 = .ok (.ifCond .eq 5, 3) := by decide +kernel
theorem dX10_setLabel_9 : decode cX10_setLabel 9 = .ok (.iconst 0, 1) := by decide +kernel
theorem dX10_setLabel_10 : decode cX10_setLabel 10 = .ok (.ireturn, 1) := by decide +kernel
theorem dX7_setLabel_6 : decode cX7_setLabel 6 = .ok (.astore 4, 2) := by decide +kernel
theorem dX7_setLabel_8 : decode cX7_setLabel 8 = .ok (.aload_n 0, 1) := by decide +kernel
theorem dX7_setLabel_9 : decode cX7_setLabel 9 = .ok (.iload_n 3, 1) := by decide +kernel
set_option maxRecDepth 20000 in
theorem ggX7_setLabel_X7_needLabel : GoodIn wsX7_setLabel wsX7_needLabel := goodIn_ca (goodIn_r _ [23, 24, 25, 26, 27, 5, 28] (by decide +kernel) (by decide +kernel)) (goodIn_sub (fun _ h => List.mem_cons_of_mem _ (List.mem_append_right _ h)) (by decide +kernel))
set_option maxRecDepth 20000 in
theorem gX7_setLabel_X7_needLabel : GoodIn wsX7_setLabel (wsV RX7 155 RX7 yX7_needLabel wsX7_needLabel) := goodIn_app (goodIn_of _ (by decide +kernel)) ggX7_setLabel_X7_needLabel
theorem dX7_setLabel_10 : decode cX7_setLabel 10 = .ok (.invokevirtual 155, 3) := by decide +kernel
theorem dL_setLabel_19 : decode cL_setLabel 19 = .ok (.astore 5, 2) := by decide +kernel
theorem dL_setLabel_21 : decode cL_setLabel 21 = .ok (.iconst 2, 1) := by decide +kernel
theorem dL_setLabel_22 : decode cL_setLabel 22 = .ok (.ireturn, 1) := by decide +kernel
theorem dX10_setLabel_11 : decode cX10_setLabel 11 = .ok (.iload_n 3, 1) := by decide +kernel
set_option maxRecDepth 20000 in
theorem ggX10_setLabel_X10_isLabel : GoodIn wsX10_setLabel wsX10_isLabel := goodIn_r _ [20, 15, 16, 5, 17] (by decide +kernel) (by decide +kernel)
set_option maxRecDepth 20000 in
theorem gX10_setLabel_X10_isLabel : GoodIn wsX10_setLabel (va_wsS RX10 205 yX10_isLabel wsX10_isLabel) := goodIn_app (goodIn_of _ (by decide +kernel)) ggX10_setLabel_X10_isLabel
theorem dX10_setLabel_12 : decode cX10_setLabel 12 = .ok (.invokestatic 205, 3) := by decide +kernel
theorem dX10_setLabel_15 : decode cX10_setLabel 15 = .ok (.ifCond .ne 9, 3) := by decide +kernel
theorem dX10_setLabel_18 : decode cX10_setLabel 18 = .ok (.aload_n 0, 1) := by decide +kernel
theorem dX10_setLabel_19 : decode cX10_setLabel 19 = .ok (.iconst 2, 1) := by decide +kernel
set_option maxRecDepth 20000 in
theorem ggX10_setLabel_X10_fails : GoodIn wsX10_setLabel wsX10_fails := goodIn_r _ [24, 7, 25, 26, 27, 28, 29, 30, 31, 32, 33, 34, 35, 36, 37, 38, 39, 40, 41, 42, 43, 44, 45, 46, 47, 48, 49, 50, 51, 52, 53, 54, 55] (by decide +kernel) (by decide +kernel)
set_option maxRecDepth 20000 in
theorem gX10_setLabel_X10_fails : GoodIn wsX10_setLabel (wsV RX10 126 RX10 yX10_fails wsX10_fails) := goodIn_app (goodIn_of _ (by decide +kernel)) ggX10_setLabel_X10_fails
theorem dX10_setLabel_20 : decode cX10_setLabel 20 = .ok (.invokevirtual 126, 3) := by decide +kernel
theorem dX10_setLabel_23 : decode cX10_setLabel 23 = .ok (.ireturn, 1) := by decide +kernel
theorem dX5_countLabel_0 : decode cX5_countLabel 0 = .ok (.iconst 0, 1) := by decide +kernel
theorem dX5_countLabel_1 : decode cX5_countLabel 1 = .ok (.istore_n 2, 1) := by decide +kernel
theorem dX5_countLabel_2 : decode cX5_countLabel 2 = .ok (.iconst 0, 1) := by decide +kernel
theorem dX5_countLabel_3 : decode cX5_countLabel 3 = .ok (.istore_n 3, 1) := by decide +kernel
theorem dX5_countLabel_4 : decode cX5_countLabel 4 = .ok (.iload_n 3, 1) := by decide +kernel
theorem dX5_countLabel_5 : decode cX5_countLabel 5 = .ok (.aload_n 0, 1) := by decide +kernel
theorem dX5_countLabel_6 : decode cX5_countLabel 6 = .ok (.getfield 31, 3) := by decide +kernel
theorem dX5_countLabel_9 : decode cX5_countLabel 9 = .ok (.if_icmp .ge 22, 3) := by decide +kernel
theorem dX5_countLabel_12 : decode cX5_countLabel 12 = .ok (.aload_n 0, 1) := by decide +kernel
theorem dX5_countLabel_13 : decode cX5_countLabel 13 = .ok (.getfield 9, 3) := by decide +kernel
theorem dX5_countLabel_16 : decode cX5_countLabel 16 = .ok (.iload_n 3, 1) := by decide +kernel
theorem dX5_countLabel_17 : decode cX5_countLabel 17 = .ok (.caload, 1) := by decide +kernel
theorem dX5_countLabel_18 : decode cX5_countLabel 18 = .ok (.iload_n 1, 1) := by decide +kernel
theorem dX5_countLabel_19 : decode cX5_countLabel 19 = .ok (.if_icmp .ne 6, 3) := by decide +kernel
theorem dX5_countLabel_22 : decode cX5_countLabel 22 = .ok (.iinc 2 1, 3) := by decide +kernel
theorem dX5_countLabel_25 : decode cX5_countLabel 25 = .ok (.iinc 3 1, 3) := by decide +kernel
theorem dX5_countLabel_28 : decode cX5_countLabel 28 = .ok (.goto (-24), 3) := by decide +kernel
theorem dX5_countLabel_31 : decode cX5_countLabel 31 = .ok (.iload_n 2, 1) := by decide +kernel
theorem dX5_countLabel_32 : decode cX5_countLabel 32 = .ok (.ireturn, 1) := by decide +kernel
theorem dX7_setLabel_13 : decode cX7_setLabel 13 = .ok (.aload 4, 2) := by decide +kernel
theorem dX7_setLabel_15 : decode cX7_setLabel 15 = .ok (.getfield 180, 3) := by decide +kernel
theorem dX7_setLabel_18 : decode cX7_setLabel 18 = .ok (.iload_n 2, 1) := by decide +kernel
theorem dX7_setLabel_19 : decode cX7_setLabel 19 = .ok (.iload_n 3, 1) := by decide +kernel
theorem dX7_setLabel_20 : decode cX7_setLabel 20 = .ok (.castore, 1) := by decide +kernel
theorem dX7_setLabel_21 : decode cX7_setLabel 21 = .ok (.aload 4, 2) := by decide +kernel
theorem dX7_setLabel_23 : decode cX7_setLabel 23 = .ok (.iload_n 3, 1) := by decide +kernel
set_option maxRecDepth 20000 in
theorem ggX7_setLabel_X5_countLabel : GoodIn wsX7_setLabel wsX5_countLabel := goodIn_r _ [32, 19, 33, 34, 35, 36, 37, 38, 39, 40] (by decide +kernel) (by decide +kernel)
set_option maxRecDepth 20000 in
theorem gX7_setLabel_X5_countLabel : GoodIn wsX7_setLabel (wsV RX7 183 RX5 yX5_countLabel wsX5_countLabel) := goodIn_app (goodIn_of _ (by decide +kernel)) ggX7_setLabel_X5_countLabel
theorem dX7_setLabel_24 : decode cX7_setLabel 24 = .ok (.invokevirtual 183, 3) := by decide +kernel
theorem dX7_setLabel_27 : decode cX7_setLabel 27 = .ok (.ireturn, 1) := by decide +kernel
theorem dL_setLabel_10 : decode cL_setLabel 10 = .ok (.i2l, 1) := by decide +kernel
theorem dL_setLabel_11 : decode cL_setLabel 11 = .ok (.lastore, 1) := by decide +kernel
theorem dL_setLabel_12 : decode cL_setLabel 12 = .ok (.goto 11, 3) := by decide +kernel
theorem dL_setLabel_23 : decode cL_setLabel 23 = .ok (.iconst 0, 1) := by decide +kernel
theorem dL_setLabel_24 : decode cL_setLabel 24 = .ok (.ireturn, 1) := by decide +kernel
theorem dX10_setLabel_24 : decode cX10_setLabel 24 = .ok (.aload_n 0, 1) := by decide +kernel
theorem dX10_setLabel_25 : decode cX10_setLabel 25 = .ok (.getfield 27, 3) := by decide +kernel
theorem dX10_setLabel_28 : decode cX10_setLabel 28 = .ok (.iload_n 1, 1) := by decide +kernel
theorem dX10_setLabel_29 : decode cX10_setLabel 29 = .ok (.aaload, 1) := by decide +kernel
theorem dX10_setLabel_30 : decode cX10_setLabel 30 = .ok (.astore 4, 2) := by decide +kernel
theorem dX10_setLabel_32 : decode cX10_setLabel 32 = .ok (.aload 4, 2) := by decide +kernel
theorem dX10_setLabel_34 : decode cX10_setLabel 34 = .ok (.getfield 11, 3) := by decide +kernel
theorem dX10_setLabel_37 : decode cX10_setLabel 37 = .ok (.iload_n 2, 1) := by decide +kernel
theorem dX10_setLabel_38 : decode cX10_setLabel 38 = .ok (.iload_n 3, 1) := by decide +kernel
theorem dX10_setLabel_39 : decode cX10_setLabel 39 = .ok (.iastore, 1) := by decide +kernel
theorem dX10_setLabel_40 : decode cX10_setLabel 40 = .ok (.iconst 0, 1) := by decide +kernel
theorem dX10_setLabel_41 : decode cX10_setLabel 41 = .ok (.istore 5, 2) := by decide +kernel
theorem dX10_setLabel_43 : decode cX10_setLabel 43 = .ok (.iconst 0, 1) := by decide +kernel
theorem dX10_setLabel_44 : decode cX10_setLabel 44 = .ok (.istore 6, 2) := by decide +kernel
theorem dX10_setLabel_46 : decode cX10_setLabel 46 = .ok (.iload 6, 2) := by decide +kernel
theorem dX10_setLabel_48 : decode cX10_setLabel 48 = .ok (.aload 4, 2) := by decide +kernel
theorem dX10_setLabel_50 : decode cX10_setLabel 50 = .ok (.getfield 116, 3) := by decide +kernel
theorem dX10_setLabel_53 : decode cX10_setLabel 53 = .ok (.if_icmp .ge 31, 3) := by decide +kernel
theorem dX10_setLabel_56 : decode cX10_setLabel 56 = .ok (.iload 5, 2) := by decide +kernel
theorem dX10_setLabel_58 : decode cX10_setLabel 58 = .ok (.aload 4, 2) := by decide +kernel
theorem dX10_setLabel_60 : decode cX10_setLabel 60 = .ok (.getfield 11, 3) := by decide +kernel
theorem dX10_setLabel_63 : decode cX10_setLabel 63 = .ok (.iload 6, 2) := by decide +kernel
theorem dX10_setLabel_65 : decode cX10_setLabel 65 = .ok (.iaload, 1) := by decide +kernel
theorem dX10_setLabel_66 : decode cX10_setLabel 66 = .ok (.iload_n 3, 1) := by decide +kernel
theorem dX10_setLabel_67 : decode cX10_setLabel 67 = .ok (.if_icmp .ne 7, 3) := by decide +kernel
theorem dX10_setLabel_70 : decode cX10_setLabel 70 = .ok (.iconst 1, 1) := by decide +kernel
theorem dX10_setLabel_71 : decode cX10_setLabel 71 = .ok (.goto 4, 3) := by decide +kernel
theorem dX10_setLabel_75 : decode cX10_setLabel 75 = .ok (.iadd, 1) := by decide +kernel
theorem dX10_setLabel_76 : decode cX10_setLabel 76 = .ok (.istore 5, 2) := by decide +kernel
theorem dX10_setLabel_78 : decode cX10_setLabel 78 = .ok (.iinc 6 1, 3) := by decide +kernel
theorem dX10_setLabel_81 : decode cX10_setLabel 81 = .ok (.goto (-35), 3) := by decide +kernel
theorem dX10_setLabel_84 : decode cX10_setLabel 84 = .ok (.iload 5, 2) := by decide +kernel
theorem dX10_setLabel_86 : decode cX10_setLabel 86 = .ok (.ireturn, 1) := by decide +kernel
theorem dL_law_692 : decode cL_law 692 = .ok (.aload_n 1, 1) := by decide +kernel
theorem dL_law_693 : decode cL_law 693 = .ok (.aload_n 0, 1) := by decide +kernel
theorem dL_law_694 : decode cL_law 694 = .ok (.iload 5, 2) := by decide +kernel
theorem dL_law_696 : decode cL_law 696 = .ok (.iconst 1, 1) := by decide +kernel
theorem dL_law_697 : decode cL_law 697 = .ok (.iadd, 1) := by decide +kernel
theorem dL_law_698 : decode cL_law 698 = .ok (.iaload, 1) := by decide +kernel
theorem dL_law_699 : decode cL_law 699 = .ok (.aload_n 0, 1) := by decide +kernel
theorem dL_law_700 : decode cL_law 700 = .ok (.iload 5, 2) := by decide +kernel
theorem dL_law_702 : decode cL_law 702 = .ok (.iconst 2, 1) := by decide +kernel
theorem dL_law_703 : decode cL_law 703 = .ok (.iadd, 1) := by decide +kernel
theorem dL_law_704 : decode cL_law 704 = .ok (.iaload, 1) := by decide +kernel
theorem dL_law_705 : decode cL_law 705 = .ok (.aload_n 0, 1) := by decide +kernel
theorem dL_law_706 : decode cL_law 706 = .ok (.iload 5, 2) := by decide +kernel
theorem dL_law_708 : decode cL_law 708 = .ok (.iconst 3, 1) := by decide +kernel
theorem dL_law_709 : decode cL_law 709 = .ok (.iadd, 1) := by decide +kernel
theorem dL_law_710 : decode cL_law 710 = .ok (.iaload, 1) := by decide +kernel
theorem dL_law_711 : decode cL_law 711 = .ok (.i2c, 1) := by decide +kernel
theorem dL_law_712 : decode cL_law 712 = .ok (.aload_n 3, 1) := by decide +kernel
set_option maxRecDepth 20000 in
theorem ggL_law_L_setLabel : GoodIn wsL_law wsL_setLabel := goodIn_ca (goodIn_ca (goodIn_r _ [716, 185, 186, 717, 718, 719, 2, 720, 721, 637, 638, 639, 640, 200, 201, 196, 197, 198, 199, 15, 641, 642, 643, 44, 644, 63, 649, 650, 651, 652, 191, 192, 653, 216, 217, 722, 723, 724, 725, 56, 1530, 1531, 1532, 1533, 1534, 1535, 1536, 1458, 1459, 1460, 1461, 1462, 1463, 1464, 1465, 1466, 1467] (by decide +kernel) (by decide +kernel)) (goodIn_sub (fun _ h => List.mem_append_left _ (List.mem_append_left _ (List.mem_append_right _ h))) (by decide +kernel))) (goodIn_sub (fun _ h => List.mem_append_left _ (List.mem_append_left _ (List.mem_append_left _ (List.mem_append_right _ h)))) (by decide +kernel))
set_option maxRecDepth 20000 in
theorem gL_law_L_setLabel : GoodIn wsL_law (va_wsS RL 184 yL_setLabel wsL_setLabel) := goodIn_app (goodIn_of _ (by decide +kernel)) ggL_law_L_setLabel
theorem dL_law_713 : decode cL_law 713 = .ok (.invokestatic 184, 3) := by decide +kernel
theorem dL_law_716 : decode cL_law 716 = .ok (.istore 6, 2) := by decide +kernel
theorem dL_law_718 : decode cL_law 718 = .ok (.aload_n 2, 1) := by decide +kernel
theorem dL_law_719 : decode cL_law 719 = .ok (.aload_n 0, 1) := by decide +kernel
theorem dL_law_720 : decode cL_law 720 = .ok (.iload 5, 2) := by decide +kernel
theorem dL_law_722 : decode cL_law 722 = .ok (.iconst 1, 1) := by decide +kernel
theorem dL_law_723 : decode cL_law 723 = .ok (.iadd, 1) := by decide +kernel
theorem dL_law_724 : decode cL_law 724 = .ok (.iaload, 1) := by decide +kernel
theorem dL_law_725 : decode cL_law 725 = .ok (.aload_n 0, 1) := by decide +kernel
theorem dL_law_726 : decode cL_law 726 = .ok (.iload 5, 2) := by decide +kernel
theorem dL_law_728 : decode cL_law 728 = .ok (.iconst 2, 1) := by decide +kernel
theorem dL_law_729 : decode cL_law 729 = .ok (.iadd, 1) := by decide +kernel
theorem dL_law_730 : decode cL_law 730 = .ok (.iaload, 1) := by decide +kernel
theorem dL_law_731 : decode cL_law 731 = .ok (.aload_n 0, 1) := by decide +kernel
theorem dL_law_732 : decode cL_law 732 = .ok (.iload 5, 2) := by decide +kernel
theorem dL_law_734 : decode cL_law 734 = .ok (.iconst 3, 1) := by decide +kernel
theorem dL_law_735 : decode cL_law 735 = .ok (.iadd, 1) := by decide +kernel
theorem dL_law_736 : decode cL_law 736 = .ok (.iaload, 1) := by decide +kernel
theorem dL_law_737 : decode cL_law 737 = .ok (.i2c, 1) := by decide +kernel
set_option maxRecDepth 20000 in
theorem ggL_law_X10_setLabel : GoodIn wsL_law wsX10_setLabel := goodIn_r _ [729, 114, 679, 680, 681, 5, 682, 172, 683, 684, 685, 686, 259, 260, 261, 262, 263, 264, 687, 688, 689, 174, 175, 176, 177, 1468, 1469, 1470, 1471, 1472, 1473, 1474, 1475, 1476, 1477, 1478, 1479, 1480, 1481, 1482, 1483, 1484, 1485, 1486, 1487, 1488, 1489, 1490, 1491, 1492, 1493, 1494, 1495, 1496, 1497, 1498, 1537, 1538, 1539, 1540, 1541] (by decide +kernel) (by decide +kernel)
set_option maxRecDepth 20000 in
theorem gL_law_X10_setLabel : GoodIn wsL_law (wsV RL 187 RX10 yX10_setLabel wsX10_setLabel) := goodIn_app (goodIn_of _ (by decide +kernel)) ggL_law_X10_setLabel
theorem dL_law_738 : decode cL_law 738 = .ok (.invokevirtual 187, 3) := by decide +kernel
theorem dL_law_741 : decode cL_law 741 = .ok (.istore 7, 2) := by decide +kernel
theorem dL_law_743 : decode cL_law 743 = .ok (.aload_n 2, 1) := by decide +kernel
theorem dL_law_744 : decode cL_law 744 = .ok (.invokevirtual 156, 3) := by decide +kernel
theorem dL_law_747 : decode cL_law 747 = .ok (.iload 6, 2) := by decide +kernel
theorem dL_law_749 : decode cL_law 749 = .ok (.if_icmp .eq 5, 3) := by decide +kernel
theorem dL_law_754 : decode cL_law 754 = .ok (.iload 6, 2) := by decide +kernel
theorem dL_law_756 : decode cL_law 756 = .ok (.ifCond .ne 15, 3) := by decide +kernel
theorem dL_law_771 : decode cL_law 771 = .ok (.goto 1879, 3) := by decide +kernel
theorem dL_law_759 : decode cL_law 759 = .ok (.aload_n 3, 1) := by decide +kernel
theorem dL_law_760 : decode cL_law 760 = .ok (.iconst 0, 1) := by decide +kernel
theorem dL_law_761 : decode cL_law 761 = .ok (.laload, 1) := by decide +kernel
theorem dL_law_762 : decode cL_law 762 = .ok (.iload 7, 2) := by decide +kernel
theorem dL_law_764 : decode cL_law 764 = .ok (.i2l, 1) := by decide +kernel
theorem dL_law_765 : decode cL_law 765 = .ok (.lcmp, 1) := by decide +kernel
theorem dL_law_766 : decode cL_law 766 = .ok (.ifCond .eq 5, 3) := by decide +kernel
variable {l : Launch} {N0 : Nat} {D : va_G} {cI cC cL cD cII cTr cTm cIt cB : ClassId} {F : Nat → Option va_E} {ql : Nat → Nat}
theorem k264_X7_setLabel {n : Nat} {a1 : Int32} {a2 : Int32} {c3 : Int32} (g_a1_le_m1 : a1 ≤ (-1)) (hst : l.stackTraces = false) (hn : N0 + 231 ≤ n) (h0 : F N0 = some (.inr (9, [.ref (N0 + 1), .ref (N0 + 2), .ref (N0 + 11), .ref (N0 + 13), .ref (N0 + 63), .ref (N0 + 65), .ref (N0 + 85), .int (-1), .int (-1), .int 32]))) : vx_Met l yX7_setLabel wsX7_setLabel ({ frames := 8, cells := 1, slots := 6, locals := 126 }) (va_Pc [.ref N0, .int a1, .int a2, .int c3] (fP N0 D vwCl (fty cI cC cL cD cII cTr cTm cIt cB) (fen ql) F n)) (fNo N0 D vwCl (fty cI cC cL cD cII cTr cTm cIt cB) F n) (fXC N0 D vwCl (fty cI cC cL cD cII cTr cTm cIt cB) "java/lang/IndexOutOfBoundsException" F n) 1 6 (fA N0) := by
  refine fx_startX 5 rfl rfl (Nat.le_of_ble_eq_true rfl) ?_ rfl
  intro p e s m below meth c ls S htab hlocks hG hl
  have hl : lv_has ls 5 [(0, .ref N0), (1, .int a1), (2, .int a2), (3, .int c3)] := hl
  have lt_h0 := hG.1.lt h0
  refine lv_aload_n S.1 S.2.1 dX7_setLabel_0 rfl (lv_at hl 0 rfl) ?_
  refine lv_iload_n S.1 S.2.1 dX7_setLabel_1 rfl (lv_at hl 1 rfl) ?_
  refine lv_iload_n S.1 S.2.1 dX7_setLabel_2 rfl (lv_at hl 2 rfl) ?_
  refine fx_xV (As := [.int a1, .int a2]) (rest := []) S hG (k67_X7_treeWith g_a1_le_m1 hst (by omega) h0) h0 rfl (cwV 2 S.2.2.2.2 gX7_setLabel_X7_treeWith rfl rfl rfl (by decide +kernel) ⟨Nat.le_of_ble_eq_true rfl, Nat.le_of_ble_eq_true rfl⟩) rfl hl.1 rfl (Nat.le_of_ble_eq_true rfl) dX7_setLabel_3 ⟨Nat.le_of_ble_eq_true rfl, Nat.le_of_ble_eq_true rfl⟩ (fun ceq_1 q_1 H locs n_2 hn_2 hG h1q_1 h2q_1 h3q_1 => ?_)
  exact fx_out htab hlocks hG (by omega) h1q_1 h2q_1 h3q_1 (by decide) (by decide)
theorem k265_L_setLabel {n : Nat} {a1 : Int32} {a2 : Int32} {c3 : Int32} (g_a1_le_m1 : a1 ≤ (-1)) (hst : l.stackTraces = false) (hn : N0 + 231 ≤ n) (h0 : F N0 = some (.inr (9, [.ref (N0 + 1), .ref (N0 + 2), .ref (N0 + 11), .ref (N0 + 13), .ref (N0 + 63), .ref (N0 + 65), .ref (N0 + 85), .int (-1), .int (-1), .int 32]))) : Met l yL_setLabel wsL_setLabel ({ frames := 9, cells := 1, slots := 6, locals := 150 }) (va_Pc [.ref N0, .int a1, .int a2, .int c3, .ref (N0 + 229)] (fP N0 D vwCl (fty cI cC cL cD cII cTr cTm cIt cB) (fen ql) F n)) (fQi N0 D vwCl (fty cI cC cL cD cII cTr cTm cIt cB) (fun (r : Int32) (u : Nat) => r = 1 ∧ n ≤ u) (fun _ => F) (fun u => u)) 1 6 (fA N0) := by
  refine fx_startW (hh := [(0, 12, 15, 19), (0, 12, 19, 21)]) 6 rfl rfl (Nat.le_of_ble_eq_true rfl) ?_ rfl
  intro p e s m below meth c ls S htab hr hlocks hG hl
  have hl : lv_has ls 6 [(0, .ref N0), (1, .int a1), (2, .int a2), (3, .int c3), (4, .ref (N0 + 229))] := hl
  have lt_h0 := hG.1.lt h0
  refine lv_aload S.1 S.2.1 dL_setLabel_0 (lv_at hl 4 rfl) ?_
  refine lv_iconst (v := 0) S.1 S.2.1 dL_setLabel_2 (by decide) ?_
  refine lv_aload_n S.1 S.2.1 dL_setLabel_3 rfl (lv_at hl 0 rfl) ?_
  refine lv_iload_n S.1 S.2.1 dL_setLabel_4 rfl (lv_at hl 1 rfl) ?_
  refine lv_iload_n S.1 S.2.1 dL_setLabel_5 rfl (lv_at hl 2 rfl) ?_
  refine lv_iload_n S.1 S.2.1 dL_setLabel_6 rfl (lv_at hl 3 rfl) ?_
  refine fx_xV (As := [.int a1, .int a2, .int c3]) (rest := [.int 0, .ref (N0 + 229)]) S hG (k264_X7_setLabel g_a1_le_m1 hst (by omega) h0) h0 rfl (cwV 3 S.2.2.2.2 gL_setLabel_X7_setLabel rfl rfl rfl (by decide +kernel) ⟨Nat.le_of_ble_eq_true rfl, Nat.le_of_ble_eq_true rfl⟩) rfl hl.1 rfl (Nat.le_of_ble_eq_true rfl) dL_setLabel_7 ⟨Nat.le_of_ble_eq_true rfl, Nat.le_of_ble_eq_true rfl⟩ (fun ceq_1 q_1 H locs n_2 hn_2 hG h1q_1 h2q_1 h3q_1 => ?_)
  refine fx_catch (hh := [(0, 12, 15, 19), (0, 12, 19, 21)]) S htab hG h1q_1 h2q_1 h3q_1 [] ⟨0, 12, 15, 19⟩ [⟨0, 12, 19, 21⟩] rfl [] (fun z hz => absurd hz List.not_mem_nil) (by decide) (by decide) (by decide +kernel) (List.mem_of_getElem? (i := 2) rfl) ?_
  refine lv_astore (lv' := [(5, .ref q_1), (0, .ref N0), (1, .int a1), (2, .int a2), (3, .int c3), (4, .ref (N0 + 229))]) S.1 S.2.1 dL_setLabel_15 hl (by decide) rfl (fun ls hl => ?_)
  refine lv_iconst (v := 1) S.1 S.2.1 dL_setLabel_17 (by decide) ?_
  exact fx_iret S hr hlocks n_2 hG (⟨rfl, hn_2⟩) dL_setLabel_18
theorem k266_X10_setLabel {n : Nat} {a1 : Int32} {a2 : Int32} {c3 : Int32} (g_a1_le_m1 : a1 ≤ (-1)) (hn : N0 + 231 ≤ n) (h0 : F (N0 + 164) = some (.inr (12, [.ref (N0 + 165), .int 0, .ref (N0 + 181), .int 0, .int 0, .int 0, .int (-1), .ref (ql 24), .ref (N0 + 182), .ref (N0 + 187), .ref (N0 + 208), .ref (N0 + 209), .ref (N0 + 210), .ref (N0 + 211), .ref (N0 + 212), .int 0, .ref (N0 + 213), .ref (N0 + 218), .ref (N0 + 223), .ref (N0 + 224), .ref (N0 + 225), .ref (N0 + 226), .ref (N0 + 227), .int 0, .int 0, .ref (N0 + 228), .null, .int (-1), .int 0, .int 0, .int 0]))) : Met l yX10_setLabel wsX10_setLabel ({ frames := 4, cells := 0, slots := 0, locals := 86 }) (va_Pc [.ref (N0 + 164), .int a1, .int a2, .int c3] (fP N0 D vwCl (fty cI cC cL cD cII cTr cTm cIt cB) (fen ql) F n)) (fQi N0 D vwCl (fty cI cC cL cD cII cTr cTm cIt cB) (fun (r : Int32) (_ : Unit) => r = 0) (fun _ => (fu F (N0 + 164) (.inr (12, [.ref (N0 + 165), .int 1, .ref (N0 + 181), .int 0, .int 0, .int 0, .int (-1), .ref (ql 24), .ref (N0 + 182), .ref (N0 + 187), .ref (N0 + 208), .ref (N0 + 209), .ref (N0 + 210), .ref (N0 + 211), .ref (N0 + 212), .int 0, .ref (N0 + 213), .ref (N0 + 218), .ref (N0 + 223), .ref (N0 + 224), .ref (N0 + 225), .ref (N0 + 226), .ref (N0 + 227), .int 0, .int 0, .ref (N0 + 228), .null, .int (-1), .int 0, .int 0, .int 0])))) (fun _ => n)) 0 0 (fA N0) := by
  refine fx_start 7 rfl rfl (Nat.le_of_ble_eq_true rfl) ?_ rfl
  intro p e s m below meth c ls S hr hlocks hin hG hl
  have hl : lv_has ls 7 [(0, .ref (N0 + 164)), (1, .int a1), (2, .int a2), (3, .int c3)] := hl
  have lt_h0 := hG.1.lt h0
  refine lv_aload_n S.1 S.2.1 dX10_setLabel_0 rfl (lv_at hl 0 rfl) ?_
  refine lv_iload_n S.1 S.2.1 dX10_setLabel_1 rfl (lv_at hl 1 rfl) ?_
  refine lv_iload_n S.1 S.2.1 dX10_setLabel_2 rfl (lv_at hl 2 rfl) ?_
  refine fx_cVi (As := [.int a1, .int a2]) (rest := []) S hG (k71_X10_isNowhere g_a1_le_m1 (by omega) h0) h0 rfl (cwV 2 S.2.2.2.2 gX10_setLabel_X10_isNowhere rfl rfl rfl (by decide +kernel) ⟨Nat.le_of_ble_eq_true rfl, Nat.le_of_ble_eq_true rfl⟩) rfl hl.1 rfl (Nat.le_of_ble_eq_true rfl) dX10_setLabel_3 ⟨Nat.le_of_ble_eq_true rfl, Nat.le_of_ble_eq_true rfl⟩ (fun rv_1 _ H locs hp hG => ?_)
  subst rv_1
  refine lv_if_eq (tgt := 11) S.1 S.2.1 dX10_setLabel_6 (by decide) (fun c => absurd c (by decide)) (fun _ => ?_)
  refine lv_iconst (v := 0) S.1 S.2.1 dX10_setLabel_9 (by decide) ?_
  exact fx_iret S hr hlocks () hG (rfl) dX10_setLabel_10
theorem k267_X7_setLabel {n : Nat} {a2 : Int32} {c3 : Int32} (g_a2_le_m1 : a2 ≤ (-1)) (hst : l.stackTraces = false) (hn : N0 + 231 ≤ n) (h0 : F N0 = some (.inr (9, [.ref (N0 + 1), .ref (N0 + 2), .ref (N0 + 11), .ref (N0 + 13), .ref (N0 + 63), .ref (N0 + 65), .ref (N0 + 85), .int (-1), .int (-1), .int 32]))) (h1 : F (N0 + 1) = some (.inl (cTr, 3, .inr (.inr (.inr (.inr (va_up (va_up (va_up (fun _ => none) 0 (some (N0 + 143))) 1 (some (N0 + 150))) 2 (some (N0 + 157))))))))) (h2 : F (N0 + 143) = some (.inr (7, [.ref (N0 + 144), .ref (N0 + 145), .ref (N0 + 146), .ref (N0 + 147), .ref (N0 + 148), .ref (N0 + 149), .int 1]))) : vx_Met l yX7_setLabel wsX7_setLabel ({ frames := 7, cells := 1, slots := 6, locals := 105 }) (va_Pc [.ref N0, .int 0, .int a2, .int c3] (fP N0 D vwCl (fty cI cC cL cD cII cTr cTm cIt cB) (fen ql) F n)) (fNo N0 D vwCl (fty cI cC cL cD cII cTr cTm cIt cB) F n) (fXC N0 D vwCl (fty cI cC cL cD cII cTr cTm cIt cB) "java/lang/IndexOutOfBoundsException" F n) 1 6 (fA N0) := by
  refine fx_startX 5 rfl rfl (Nat.le_of_ble_eq_true rfl) ?_ rfl
  intro p e s m below meth c ls S htab hlocks hG hl
  have hl : lv_has ls 5 [(0, .ref N0), (1, .int 0), (2, .int a2), (3, .int c3)] := hl
  have lt_h0 := hG.1.lt h0
  have lt_h1 := hG.1.lt h1
  have lt_h2 := hG.1.lt h2
  refine lv_aload_n S.1 S.2.1 dX7_setLabel_0 rfl (lv_at hl 0 rfl) ?_
  refine lv_iload_n S.1 S.2.1 dX7_setLabel_1 rfl (lv_at hl 1 rfl) ?_
  refine lv_iload_n S.1 S.2.1 dX7_setLabel_2 rfl (lv_at hl 2 rfl) ?_
  refine fx_xV (As := [.int 0, .int a2]) (rest := []) S hG (k74_X7_treeWith g_a2_le_m1 hst (by omega) h0 h1 h2) h0 rfl (cwV 2 S.2.2.2.2 gX7_setLabel_X7_treeWith rfl rfl rfl (by decide +kernel) ⟨Nat.le_of_ble_eq_true rfl, Nat.le_of_ble_eq_true rfl⟩) rfl hl.1 rfl (Nat.le_of_ble_eq_true rfl) dX7_setLabel_3 ⟨Nat.le_of_ble_eq_true rfl, Nat.le_of_ble_eq_true rfl⟩ (fun ceq_1 q_1 H locs n_2 hn_2 hG h1q_1 h2q_1 h3q_1 => ?_)
  exact fx_out htab hlocks hG (by omega) h1q_1 h2q_1 h3q_1 (by decide) (by decide)
theorem k268_L_setLabel {n : Nat} {a2 : Int32} {c3 : Int32} (g_a2_le_m1 : a2 ≤ (-1)) (hst : l.stackTraces = false) (hn : N0 + 231 ≤ n) (h0 : F N0 = some (.inr (9, [.ref (N0 + 1), .ref (N0 + 2), .ref (N0 + 11), .ref (N0 + 13), .ref (N0 + 63), .ref (N0 + 65), .ref (N0 + 85), .int (-1), .int (-1), .int 32]))) (h1 : F (N0 + 1) = some (.inl (cTr, 3, .inr (.inr (.inr (.inr (va_up (va_up (va_up (fun _ => none) 0 (some (N0 + 143))) 1 (some (N0 + 150))) 2 (some (N0 + 157))))))))) (h2 : F (N0 + 143) = some (.inr (7, [.ref (N0 + 144), .ref (N0 + 145), .ref (N0 + 146), .ref (N0 + 147), .ref (N0 + 148), .ref (N0 + 149), .int 1]))) : Met l yL_setLabel wsL_setLabel ({ frames := 8, cells := 1, slots := 6, locals := 129 }) (va_Pc [.ref N0, .int 0, .int a2, .int c3, .ref (N0 + 229)] (fP N0 D vwCl (fty cI cC cL cD cII cTr cTm cIt cB) (fen ql) F n)) (fQi N0 D vwCl (fty cI cC cL cD cII cTr cTm cIt cB) (fun (r : Int32) (u : Nat) => r = 1 ∧ n ≤ u) (fun _ => F) (fun u => u)) 1 6 (fA N0) := by
  refine fx_startW (hh := [(0, 12, 15, 19), (0, 12, 19, 21)]) 6 rfl rfl (Nat.le_of_ble_eq_true rfl) ?_ rfl
  intro p e s m below meth c ls S htab hr hlocks hG hl
  have hl : lv_has ls 6 [(0, .ref N0), (1, .int 0), (2, .int a2), (3, .int c3), (4, .ref (N0 + 229))] := hl
  have lt_h0 := hG.1.lt h0
  have lt_h1 := hG.1.lt h1
  have lt_h2 := hG.1.lt h2
  refine lv_aload S.1 S.2.1 dL_setLabel_0 (lv_at hl 4 rfl) ?_
  refine lv_iconst (v := 0) S.1 S.2.1 dL_setLabel_2 (by decide) ?_
  refine lv_aload_n S.1 S.2.1 dL_setLabel_3 rfl (lv_at hl 0 rfl) ?_
  refine lv_iload_n S.1 S.2.1 dL_setLabel_4 rfl (lv_at hl 1 rfl) ?_
  refine lv_iload_n S.1 S.2.1 dL_setLabel_5 rfl (lv_at hl 2 rfl) ?_
  refine lv_iload_n S.1 S.2.1 dL_setLabel_6 rfl (lv_at hl 3 rfl) ?_
  refine fx_xV (As := [.int 0, .int a2, .int c3]) (rest := [.int 0, .ref (N0 + 229)]) S hG (k267_X7_setLabel g_a2_le_m1 hst (by omega) h0 h1 h2) h0 rfl (cwV 3 S.2.2.2.2 gL_setLabel_X7_setLabel rfl rfl rfl (by decide +kernel) ⟨Nat.le_of_ble_eq_true rfl, Nat.le_of_ble_eq_true rfl⟩) rfl hl.1 rfl (Nat.le_of_ble_eq_true rfl) dL_setLabel_7 ⟨Nat.le_of_ble_eq_true rfl, Nat.le_of_ble_eq_true rfl⟩ (fun ceq_1 q_1 H locs n_2 hn_2 hG h1q_1 h2q_1 h3q_1 => ?_)
  refine fx_catch (hh := [(0, 12, 15, 19), (0, 12, 19, 21)]) S htab hG h1q_1 h2q_1 h3q_1 [] ⟨0, 12, 15, 19⟩ [⟨0, 12, 19, 21⟩] rfl [] (fun z hz => absurd hz List.not_mem_nil) (by decide) (by decide) (by decide +kernel) (List.mem_of_getElem? (i := 2) rfl) ?_
  refine lv_astore (lv' := [(5, .ref q_1), (0, .ref N0), (1, .int 0), (2, .int a2), (3, .int c3), (4, .ref (N0 + 229))]) S.1 S.2.1 dL_setLabel_15 hl (by decide) rfl (fun ls hl => ?_)
  refine lv_iconst (v := 1) S.1 S.2.1 dL_setLabel_17 (by decide) ?_
  exact fx_iret S hr hlocks n_2 hG (⟨rfl, hn_2⟩) dL_setLabel_18
theorem k269_X10_setLabel {n : Nat} {a2 : Int32} {c3 : Int32} (g_a2_le_m1 : a2 ≤ (-1)) (hn : N0 + 231 ≤ n) (h0 : F (N0 + 164) = some (.inr (12, [.ref (N0 + 165), .int 0, .ref (N0 + 181), .int 0, .int 0, .int 0, .int (-1), .ref (ql 24), .ref (N0 + 182), .ref (N0 + 187), .ref (N0 + 208), .ref (N0 + 209), .ref (N0 + 210), .ref (N0 + 211), .ref (N0 + 212), .int 0, .ref (N0 + 213), .ref (N0 + 218), .ref (N0 + 223), .ref (N0 + 224), .ref (N0 + 225), .ref (N0 + 226), .ref (N0 + 227), .int 0, .int 0, .ref (N0 + 228), .null, .int (-1), .int 0, .int 0, .int 0]))) (h1 : F (N0 + 165) = some (.inl (cTm, 3, .inr (.inr (.inr (.inr (va_up (va_up (va_up (fun _ => none) 0 (some (N0 + 166))) 1 (some (N0 + 171))) 2 (some (N0 + 176))))))))) (h2 : F (N0 + 166) = some (.inr (11, [.ref (N0 + 167), .ref (N0 + 168), .ref (N0 + 169), .ref (N0 + 170), .int 1]))) : Met l yX10_setLabel wsX10_setLabel ({ frames := 4, cells := 0, slots := 0, locals := 86 }) (va_Pc [.ref (N0 + 164), .int 0, .int a2, .int c3] (fP N0 D vwCl (fty cI cC cL cD cII cTr cTm cIt cB) (fen ql) F n)) (fQi N0 D vwCl (fty cI cC cL cD cII cTr cTm cIt cB) (fun (r : Int32) (_ : Unit) => r = 0) (fun _ => (fu F (N0 + 164) (.inr (12, [.ref (N0 + 165), .int 1, .ref (N0 + 181), .int 0, .int 0, .int 0, .int (-1), .ref (ql 24), .ref (N0 + 182), .ref (N0 + 187), .ref (N0 + 208), .ref (N0 + 209), .ref (N0 + 210), .ref (N0 + 211), .ref (N0 + 212), .int 0, .ref (N0 + 213), .ref (N0 + 218), .ref (N0 + 223), .ref (N0 + 224), .ref (N0 + 225), .ref (N0 + 226), .ref (N0 + 227), .int 0, .int 0, .ref (N0 + 228), .null, .int (-1), .int 0, .int 0, .int 0])))) (fun _ => n)) 0 0 (fA N0) := by
  refine fx_start 7 rfl rfl (Nat.le_of_ble_eq_true rfl) ?_ rfl
  intro p e s m below meth c ls S hr hlocks hin hG hl
  have hl : lv_has ls 7 [(0, .ref (N0 + 164)), (1, .int 0), (2, .int a2), (3, .int c3)] := hl
  have lt_h0 := hG.1.lt h0
  have lt_h1 := hG.1.lt h1
  have lt_h2 := hG.1.lt h2
  refine lv_aload_n S.1 S.2.1 dX10_setLabel_0 rfl (lv_at hl 0 rfl) ?_
  refine lv_iload_n S.1 S.2.1 dX10_setLabel_1 rfl (lv_at hl 1 rfl) ?_
  refine lv_iload_n S.1 S.2.1 dX10_setLabel_2 rfl (lv_at hl 2 rfl) ?_
  refine fx_cVi (As := [.int 0, .int a2]) (rest := []) S hG (k79_X10_isNowhere g_a2_le_m1 (by omega) h0 h1 h2) h0 rfl (cwV 2 S.2.2.2.2 gX10_setLabel_X10_isNowhere rfl rfl rfl (by decide +kernel) ⟨Nat.le_of_ble_eq_true rfl, Nat.le_of_ble_eq_true rfl⟩) rfl hl.1 rfl (Nat.le_of_ble_eq_true rfl) dX10_setLabel_3 ⟨Nat.le_of_ble_eq_true rfl, Nat.le_of_ble_eq_true rfl⟩ (fun rv_1 _ H locs hp hG => ?_)
  subst rv_1
  refine lv_if_eq (tgt := 11) S.1 S.2.1 dX10_setLabel_6 (by decide) (fun c => absurd c (by decide)) (fun _ => ?_)
  refine lv_iconst (v := 0) S.1 S.2.1 dX10_setLabel_9 (by decide) ?_
  exact fx_iret S hr hlocks () hG (rfl) dX10_setLabel_10
theorem k270_X7_isLabel {n : Nat} {c3 : Int32} (g_c3_le_96 : c3 ≤ 96) (hn : N0 + 231 ≤ n)  : Met l yX7_isLabel wsX7_isLabel ({ frames := 0, cells := 0, slots := 0, locals := 0 }) (va_Pc [.int c3] (fP N0 D vwCl (fty cI cC cL cD cII cTr cTm cIt cB) (fen ql) F n)) (fQi N0 D vwCl (fty cI cC cL cD cII cTr cTm cIt cB) (fun (r : Int32) (_ : Unit) => r = 0) (fun _ => F) (fun _ => n)) 0 0 (fA N0) := by
  refine fx_start 1 rfl rfl (Nat.le_of_ble_eq_true rfl) ?_ rfl
  intro p e s m below meth c ls S hr hlocks hin hG hl
  have hl : lv_has ls 1 [(0, .int c3)] := hl
  refine lv_iload_n S.1 S.2.1 dX7_isLabel_0 rfl (lv_at hl 0 rfl) ?_
  refine lv_bipush (v := 97) S.1 S.2.1 dX7_isLabel_1 (by decide) ?_
  refine lv_icmp_lt (tgt := 16) S.1 S.2.1 dX7_isLabel_3 (by decide) (fun _ => ?_) (fun c => absurd (Int32.lt_of_le_of_lt g_c3_le_96 (by decide)) c)
  refine lv_iconst (v := 0) S.1 S.2.1 dX7_isLabel_16 (by decide) ?_
  exact fx_zret S hr (rfl) hlocks () hG (rfl) dX7_isLabel_17
theorem k271_X7_needLabel {n : Nat} {c3 : Int32} (g_c3_le_96 : c3 ≤ 96) (hst : l.stackTraces = false) (hn : N0 + 231 ≤ n)  : vx_Met l yX7_needLabel wsX7_needLabel ({ frames := 6, cells := 1, slots := 6, locals := 82 }) (va_Pc [.ref N0, .int c3] (fP N0 D vwCl (fty cI cC cL cD cII cTr cTm cIt cB) (fen ql) F n)) (fNo N0 D vwCl (fty cI cC cL cD cII cTr cTm cIt cB) F n) (fXC N0 D vwCl (fty cI cC cL cD cII cTr cTm cIt cB) "java/lang/IllegalArgumentException" F n) 1 6 (fA N0) := by
  refine fx_startX 2 rfl rfl (Nat.le_of_ble_eq_true rfl) ?_ rfl
  intro p e s m below meth c ls S htab hlocks hG hl
  have hl : lv_has ls 2 [(0, .ref N0), (1, .int c3)] := hl
  refine lv_iload_n S.1 S.2.1 dX7_needLabel_0 rfl (lv_at hl 1 rfl) ?_
  refine fx_cSi (As := [.int c3]) (rest := []) S hG (k270_X7_isLabel g_c3_le_96 (by omega)) (cwS 1 S.2.2.2.2 gX7_needLabel_X7_isLabel rfl rfl rfl (by decide +kernel) ⟨Nat.le_of_ble_eq_true rfl, Nat.le_of_ble_eq_true rfl⟩) rfl hl.1 rfl (Nat.le_of_ble_eq_true rfl) dX7_needLabel_1 ⟨Nat.le_of_ble_eq_true rfl, Nat.le_of_ble_eq_true rfl⟩ (fun rv_1 _ H locs hp hG => ?_)
  subst rv_1
  refine lv_if_ne (tgt := 18) S.1 S.2.1 dX7_needLabel_4 (by decide) (fun c => absurd (by decide) c) (fun _ => ?_)
  exact fx_throwW (text := "no such label") S hG hl.1 hst (by decide) (by decide +kernel) (by decide +kernel) (List.mem_of_getElem? (i := 21) rfl) (by decide +kernel) (by decide +kernel) (by decide +kernel) (List.mem_of_getElem? (i := 1) rfl) (List.mem_of_getElem? (i := 0) rfl) (List.mem_of_getElem? (i := 1) rfl) (List.mem_of_getElem? (i := 2) rfl) dX7_needLabel_7 dX7_needLabel_10 dX7_needLabel_11 dX7_needLabel_14 dX7_needLabel_17 htab (by decide) (Nat.le_of_ble_eq_true rfl) (by decide) (by decide) hlocks (by decide) (by decide)
theorem k272_X7_setLabel {n : Nat} {c3 : Int32} (g_c3_le_96 : c3 ≤ 96) (hst : l.stackTraces = false) (hn : N0 + 231 ≤ n) (h0 : F N0 = some (.inr (9, [.ref (N0 + 1), .ref (N0 + 2), .ref (N0 + 11), .ref (N0 + 13), .ref (N0 + 63), .ref (N0 + 65), .ref (N0 + 85), .int (-1), .int (-1), .int 32]))) (h1 : F (N0 + 1) = some (.inl (cTr, 3, .inr (.inr (.inr (.inr (va_up (va_up (va_up (fun _ => none) 0 (some (N0 + 143))) 1 (some (N0 + 150))) 2 (some (N0 + 157))))))))) (h2 : F (N0 + 143) = some (.inr (7, [.ref (N0 + 144), .ref (N0 + 145), .ref (N0 + 146), .ref (N0 + 147), .ref (N0 + 148), .ref (N0 + 149), .int 1]))) : vx_Met l yX7_setLabel wsX7_setLabel ({ frames := 7, cells := 1, slots := 6, locals := 103 }) (va_Pc [.ref N0, .int 0, .int 0, .int c3] (fP N0 D vwCl (fty cI cC cL cD cII cTr cTm cIt cB) (fen ql) F n)) (fNo N0 D vwCl (fty cI cC cL cD cII cTr cTm cIt cB) F n) (fXC N0 D vwCl (fty cI cC cL cD cII cTr cTm cIt cB) "java/lang/IllegalArgumentException" F n) 1 6 (fA N0) := by
  refine fx_startX 5 rfl rfl (Nat.le_of_ble_eq_true rfl) ?_ rfl
  intro p e s m below meth c ls S htab hlocks hG hl
  have hl : lv_has ls 5 [(0, .ref N0), (1, .int 0), (2, .int 0), (3, .int c3)] := hl
  have lt_h0 := hG.1.lt h0
  have lt_h1 := hG.1.lt h1
  have lt_h2 := hG.1.lt h2
  refine lv_aload_n S.1 S.2.1 dX7_setLabel_0 rfl (lv_at hl 0 rfl) ?_
  refine lv_iload_n S.1 S.2.1 dX7_setLabel_1 rfl (lv_at hl 1 rfl) ?_
  refine lv_iload_n S.1 S.2.1 dX7_setLabel_2 rfl (lv_at hl 2 rfl) ?_
  refine fx_cVr (As := [.int 0, .int 0]) (rest := []) S hG (k82_X7_treeWith (by omega) h0 h1 h2) h0 rfl (cwV 2 S.2.2.2.2 gX7_setLabel_X7_treeWith rfl rfl rfl (by decide +kernel) ⟨Nat.le_of_ble_eq_true rfl, Nat.le_of_ble_eq_true rfl⟩) rfl hl.1 rfl (Nat.le_of_ble_eq_true rfl) dX7_setLabel_3 ⟨Nat.le_of_ble_eq_true rfl, Nat.le_of_ble_eq_true rfl⟩ (fun rv_1 _ H locs hp hG => ?_)
  subst rv_1
  refine lv_astore (lv' := [(4, .ref (N0 + 143)), (0, .ref N0), (1, .int 0), (2, .int 0), (3, .int c3)]) S.1 S.2.1 dX7_setLabel_6 hl (by decide) rfl (fun ls hl => ?_)
  refine lv_aload_n S.1 S.2.1 dX7_setLabel_8 rfl (lv_at hl 1 rfl) ?_
  refine lv_iload_n S.1 S.2.1 dX7_setLabel_9 rfl (lv_at hl 4 rfl) ?_
  refine fx_xV (As := [.int c3]) (rest := []) S hG (k271_X7_needLabel g_c3_le_96 hst (by omega)) h0 rfl (cwV 1 S.2.2.2.2 gX7_setLabel_X7_needLabel rfl rfl rfl (by decide +kernel) ⟨Nat.le_of_ble_eq_true rfl, Nat.le_of_ble_eq_true rfl⟩) rfl hl.1 rfl (Nat.le_of_ble_eq_true rfl) dX7_setLabel_10 ⟨Nat.le_of_ble_eq_true rfl, Nat.le_of_ble_eq_true rfl⟩ (fun ceq_2 q_2 H locs n_3 hn_3 hG h1q_2 h2q_2 h3q_2 => ?_)
  exact fx_out htab hlocks hG (by omega) h1q_2 h2q_2 h3q_2 (by decide) (by decide)
theorem k273_L_setLabel {n : Nat} {c3 : Int32} (g_c3_le_96 : c3 ≤ 96) (hst : l.stackTraces = false) (hn : N0 + 231 ≤ n) (h0 : F N0 = some (.inr (9, [.ref (N0 + 1), .ref (N0 + 2), .ref (N0 + 11), .ref (N0 + 13), .ref (N0 + 63), .ref (N0 + 65), .ref (N0 + 85), .int (-1), .int (-1), .int 32]))) (h1 : F (N0 + 1) = some (.inl (cTr, 3, .inr (.inr (.inr (.inr (va_up (va_up (va_up (fun _ => none) 0 (some (N0 + 143))) 1 (some (N0 + 150))) 2 (some (N0 + 157))))))))) (h2 : F (N0 + 143) = some (.inr (7, [.ref (N0 + 144), .ref (N0 + 145), .ref (N0 + 146), .ref (N0 + 147), .ref (N0 + 148), .ref (N0 + 149), .int 1]))) : Met l yL_setLabel wsL_setLabel ({ frames := 8, cells := 1, slots := 6, locals := 127 }) (va_Pc [.ref N0, .int 0, .int 0, .int c3, .ref (N0 + 229)] (fP N0 D vwCl (fty cI cC cL cD cII cTr cTm cIt cB) (fen ql) F n)) (fQi N0 D vwCl (fty cI cC cL cD cII cTr cTm cIt cB) (fun (r : Int32) (u : Nat) => r = 2 ∧ n ≤ u) (fun _ => F) (fun u => u)) 1 6 (fA N0) := by
  refine fx_startW (hh := [(0, 12, 15, 19), (0, 12, 19, 21)]) 6 rfl rfl (Nat.le_of_ble_eq_true rfl) ?_ rfl
  intro p e s m below meth c ls S htab hr hlocks hG hl
  have hl : lv_has ls 6 [(0, .ref N0), (1, .int 0), (2, .int 0), (3, .int c3), (4, .ref (N0 + 229))] := hl
  have lt_h0 := hG.1.lt h0
  have lt_h1 := hG.1.lt h1
  have lt_h2 := hG.1.lt h2
  refine lv_aload S.1 S.2.1 dL_setLabel_0 (lv_at hl 4 rfl) ?_
  refine lv_iconst (v := 0) S.1 S.2.1 dL_setLabel_2 (by decide) ?_
  refine lv_aload_n S.1 S.2.1 dL_setLabel_3 rfl (lv_at hl 0 rfl) ?_
  refine lv_iload_n S.1 S.2.1 dL_setLabel_4 rfl (lv_at hl 1 rfl) ?_
  refine lv_iload_n S.1 S.2.1 dL_setLabel_5 rfl (lv_at hl 2 rfl) ?_
  refine lv_iload_n S.1 S.2.1 dL_setLabel_6 rfl (lv_at hl 3 rfl) ?_
  refine fx_xV (As := [.int 0, .int 0, .int c3]) (rest := [.int 0, .ref (N0 + 229)]) S hG (k272_X7_setLabel g_c3_le_96 hst (by omega) h0 h1 h2) h0 rfl (cwV 3 S.2.2.2.2 gL_setLabel_X7_setLabel rfl rfl rfl (by decide +kernel) ⟨Nat.le_of_ble_eq_true rfl, Nat.le_of_ble_eq_true rfl⟩) rfl hl.1 rfl (Nat.le_of_ble_eq_true rfl) dL_setLabel_7 ⟨Nat.le_of_ble_eq_true rfl, Nat.le_of_ble_eq_true rfl⟩ (fun ceq_1 q_1 H locs n_2 hn_2 hG h1q_1 h2q_1 h3q_1 => ?_)
  refine fx_catch (hh := [(0, 12, 15, 19), (0, 12, 19, 21)]) S htab hG h1q_1 h2q_1 h3q_1 [⟨0, 12, 15, 19⟩] ⟨0, 12, 19, 21⟩ [] rfl [] (fun z hz => by
    simp only [List.mem_cons, List.not_mem_nil, or_false] at hz
    rcases hz with rfl
    · exact ⟨by decide, "java/lang/IndexOutOfBoundsException", by decide +kernel, List.mem_of_getElem? (i := 5) rfl⟩) (by decide) (by decide) (by decide +kernel) (List.mem_of_getElem? (i := 1) rfl) ?_
  refine lv_astore (lv' := [(5, .ref q_1), (0, .ref N0), (1, .int 0), (2, .int 0), (3, .int c3), (4, .ref (N0 + 229))]) S.1 S.2.1 dL_setLabel_19 hl (by decide) rfl (fun ls hl => ?_)
  refine lv_iconst (v := 2) S.1 S.2.1 dL_setLabel_21 (by decide) ?_
  exact fx_iret S hr hlocks n_2 hG (⟨rfl, hn_2⟩) dL_setLabel_22
theorem k274_X10_isBetween {n : Nat} {c3 : Int32} (g_c3_le_96 : c3 ≤ 96) (hn : N0 + 231 ≤ n)  : Met l yX10_isBetween wsX10_isBetween ({ frames := 0, cells := 0, slots := 0, locals := 0 }) (va_Pc [.int c3, .int 97, .int 122] (fP N0 D vwCl (fty cI cC cL cD cII cTr cTm cIt cB) (fen ql) F n)) (fQi N0 D vwCl (fty cI cC cL cD cII cTr cTm cIt cB) (fun (r : Int32) (_ : Unit) => r = 0) (fun _ => F) (fun _ => n)) 0 0 (fA N0) := by
  refine fx_start 3 rfl rfl (Nat.le_of_ble_eq_true rfl) ?_ rfl
  intro p e s m below meth c ls S hr hlocks hin hG hl
  have hl : lv_has ls 3 [(0, .int c3), (1, .int 97), (2, .int 122)] := hl
  refine lv_iload_n S.1 S.2.1 dX10_isBetween_0 rfl (lv_at hl 1 rfl) ?_
  refine lv_iload_n S.1 S.2.1 dX10_isBetween_1 rfl (lv_at hl 0 rfl) ?_
  refine lv_icmp_gt (tgt := 14) S.1 S.2.1 dX10_isBetween_2 (by decide) (fun _ => ?_) (fun c => absurd (Int32.lt_of_le_of_lt g_c3_le_96 (by decide)) c)
  refine lv_iconst (v := 0) S.1 S.2.1 dX10_isBetween_14 (by decide) ?_
  exact fx_zret S hr (rfl) hlocks () hG (rfl) dX10_isBetween_15
theorem k275_X10_isLabel {n : Nat} {c3 : Int32} (g_c3_le_96 : c3 ≤ 96) (hn : N0 + 231 ≤ n)  : Met l yX10_isLabel wsX10_isLabel ({ frames := 1, cells := 0, slots := 0, locals := 22 }) (va_Pc [.int c3] (fP N0 D vwCl (fty cI cC cL cD cII cTr cTm cIt cB) (fen ql) F n)) (fQi N0 D vwCl (fty cI cC cL cD cII cTr cTm cIt cB) (fun (r : Int32) (_ : Unit) => r = 0) (fun _ => F) (fun _ => n)) 0 0 (fA N0) := by
  refine fx_start 1 rfl rfl (Nat.le_of_ble_eq_true rfl) ?_ rfl
  intro p e s m below meth c ls S hr hlocks hin hG hl
  have hl : lv_has ls 1 [(0, .int c3)] := hl
  refine lv_iload_n S.1 S.2.1 dX10_isLabel_0 rfl (lv_at hl 0 rfl) ?_
  refine lv_bipush (v := 97) S.1 S.2.1 dX10_isLabel_1 (by decide) ?_
  refine lv_bipush (v := 122) S.1 S.2.1 dX10_isLabel_3 (by decide) ?_
  refine fx_cSi (As := [.int c3, .int 97, .int 122]) (rest := []) S hG (k274_X10_isBetween g_c3_le_96 (by omega)) (cwS 3 S.2.2.2.2 gX10_isLabel_X10_isBetween rfl rfl rfl (by decide +kernel) ⟨Nat.le_of_ble_eq_true rfl, Nat.le_of_ble_eq_true rfl⟩) rfl hl.1 rfl (Nat.le_of_ble_eq_true rfl) dX10_isLabel_5 ⟨Nat.le_of_ble_eq_true rfl, Nat.le_of_ble_eq_true rfl⟩ (fun rv_1 _ H locs hp hG => ?_)
  subst rv_1
  exact fx_zret S hr (rfl) hlocks () hG (rfl) dX10_isLabel_8
theorem k276_X10_setLabel {n : Nat} {c3 : Int32} (g_c3_le_96 : c3 ≤ 96) (hn : N0 + 231 ≤ n) (h0 : F (N0 + 164) = some (.inr (12, [.ref (N0 + 165), .int 0, .ref (N0 + 181), .int 0, .int 0, .int 0, .int (-1), .ref (ql 24), .ref (N0 + 182), .ref (N0 + 187), .ref (N0 + 208), .ref (N0 + 209), .ref (N0 + 210), .ref (N0 + 211), .ref (N0 + 212), .int 0, .ref (N0 + 213), .ref (N0 + 218), .ref (N0 + 223), .ref (N0 + 224), .ref (N0 + 225), .ref (N0 + 226), .ref (N0 + 227), .int 0, .int 0, .ref (N0 + 228), .null, .int (-1), .int 0, .int 0, .int 0]))) (h1 : F (N0 + 165) = some (.inl (cTm, 3, .inr (.inr (.inr (.inr (va_up (va_up (va_up (fun _ => none) 0 (some (N0 + 166))) 1 (some (N0 + 171))) 2 (some (N0 + 176))))))))) (h2 : F (N0 + 166) = some (.inr (11, [.ref (N0 + 167), .ref (N0 + 168), .ref (N0 + 169), .ref (N0 + 170), .int 1]))) : Met l yX10_setLabel wsX10_setLabel ({ frames := 4, cells := 0, slots := 0, locals := 86 }) (va_Pc [.ref (N0 + 164), .int 0, .int 0, .int c3] (fP N0 D vwCl (fty cI cC cL cD cII cTr cTm cIt cB) (fen ql) F n)) (fQi N0 D vwCl (fty cI cC cL cD cII cTr cTm cIt cB) (fun (r : Int32) (_ : Unit) => r = 0) (fun _ => (fu F (N0 + 164) (.inr (12, [.ref (N0 + 165), .int 2, .ref (N0 + 181), .int 0, .int 0, .int 0, .int (-1), .ref (ql 24), .ref (N0 + 182), .ref (N0 + 187), .ref (N0 + 208), .ref (N0 + 209), .ref (N0 + 210), .ref (N0 + 211), .ref (N0 + 212), .int 0, .ref (N0 + 213), .ref (N0 + 218), .ref (N0 + 223), .ref (N0 + 224), .ref (N0 + 225), .ref (N0 + 226), .ref (N0 + 227), .int 0, .int 0, .ref (N0 + 228), .null, .int (-1), .int 0, .int 0, .int 0])))) (fun _ => n)) 0 0 (fA N0) := by
  refine fx_start 7 rfl rfl (Nat.le_of_ble_eq_true rfl) ?_ rfl
  intro p e s m below meth c ls S hr hlocks hin hG hl
  have hl : lv_has ls 7 [(0, .ref (N0 + 164)), (1, .int 0), (2, .int 0), (3, .int c3)] := hl
  have lt_h0 := hG.1.lt h0
  have lt_h1 := hG.1.lt h1
  have lt_h2 := hG.1.lt h2
  refine lv_aload_n S.1 S.2.1 dX10_setLabel_0 rfl (lv_at hl 0 rfl) ?_
  refine lv_iload_n S.1 S.2.1 dX10_setLabel_1 rfl (lv_at hl 1 rfl) ?_
  refine lv_iload_n S.1 S.2.1 dX10_setLabel_2 rfl (lv_at hl 2 rfl) ?_
  refine fx_cVi (As := [.int 0, .int 0]) (rest := []) S hG (k87_X10_isNowhere (by omega) h0 h1 h2) h0 rfl (cwV 2 S.2.2.2.2 gX10_setLabel_X10_isNowhere rfl rfl rfl (by decide +kernel) ⟨Nat.le_of_ble_eq_true rfl, Nat.le_of_ble_eq_true rfl⟩) rfl hl.1 rfl (Nat.le_of_ble_eq_true rfl) dX10_setLabel_3 ⟨Nat.le_of_ble_eq_true rfl, Nat.le_of_ble_eq_true rfl⟩ (fun rv_1 _ H locs hp hG => ?_)
  subst rv_1
  refine lv_if_eq (tgt := 11) S.1 S.2.1 dX10_setLabel_6 (by decide) (fun _ => ?_) (fun c => absurd (by decide) c)
  refine lv_iload_n S.1 S.2.1 dX10_setLabel_11 rfl (lv_at hl 3 rfl) ?_
  refine fx_cSi (As := [.int c3]) (rest := []) S hG (k275_X10_isLabel g_c3_le_96 (by omega)) (cwS 1 S.2.2.2.2 gX10_setLabel_X10_isLabel rfl rfl rfl (by decide +kernel) ⟨Nat.le_of_ble_eq_true rfl, Nat.le_of_ble_eq_true rfl⟩) rfl hl.1 rfl (Nat.le_of_ble_eq_true rfl) dX10_setLabel_12 ⟨Nat.le_of_ble_eq_true rfl, Nat.le_of_ble_eq_true rfl⟩ (fun rv_2 _ H locs hp hG => ?_)
  subst rv_2
  refine lv_if_ne (tgt := 24) S.1 S.2.1 dX10_setLabel_15 (by decide) (fun c => absurd (by decide) c) (fun _ => ?_)
  refine lv_aload_n S.1 S.2.1 dX10_setLabel_18 rfl (lv_at hl 0 rfl) ?_
  refine lv_iconst (v := 2) S.1 S.2.1 dX10_setLabel_19 (by decide) ?_
  refine fx_cVi (As := [.int 2]) (rest := []) S hG (k99_X10_fails (by omega) fu_s) fu_s rfl (cwV 1 S.2.2.2.2 gX10_setLabel_X10_fails rfl rfl rfl (by decide +kernel) ⟨Nat.le_of_ble_eq_true rfl, Nat.le_of_ble_eq_true rfl⟩) rfl hl.1 rfl (Nat.le_of_ble_eq_true rfl) dX10_setLabel_20 ⟨Nat.le_of_ble_eq_true rfl, Nat.le_of_ble_eq_true rfl⟩ (fun rv_3 _ H locs hp hG => ?_)
  subst rv_3
  have hG : fG N0 D vwCl (fty cI cC cL cD cII cTr cTm cIt cB) (fen ql) s (fu F (N0 + 164) (.inr (12, [.ref (N0 + 165), .int 2, .ref (N0 + 181), .int 0, .int 0, .int 0, .int (-1), .ref (ql 24), .ref (N0 + 182), .ref (N0 + 187), .ref (N0 + 208), .ref (N0 + 209), .ref (N0 + 210), .ref (N0 + 211), .ref (N0 + 212), .int 0, .ref (N0 + 213), .ref (N0 + 218), .ref (N0 + 223), .ref (N0 + 224), .ref (N0 + 225), .ref (N0 + 226), .ref (N0 + 227), .int 0, .int 0, .ref (N0 + 228), .null, .int (-1), .int 0, .int 0, .int 0]))) n H locs := hG.weak (fun a e h => by
    rcases fu_cases h with ⟨rfl, he⟩ | ⟨hne0, h⟩
    · cases he; exact fu_s
    · exact (fu_at (by omega) (fu_at (by omega) h)))
  exact fx_iret S hr hlocks () hG (rfl) dX10_setLabel_23
theorem k277_X7_isLabel {n : Nat} {c3 : Int32} (g_c3_ge_97 : 97 ≤ c3) (g_c3_le_122 : c3 ≤ 122) (hn : N0 + 231 ≤ n)  : Met l yX7_isLabel wsX7_isLabel ({ frames := 0, cells := 0, slots := 0, locals := 0 }) (va_Pc [.int c3] (fP N0 D vwCl (fty cI cC cL cD cII cTr cTm cIt cB) (fen ql) F n)) (fQi N0 D vwCl (fty cI cC cL cD cII cTr cTm cIt cB) (fun (r : Int32) (_ : Unit) => r = 1) (fun _ => F) (fun _ => n)) 0 0 (fA N0) := by
  refine fx_start 1 rfl rfl (Nat.le_of_ble_eq_true rfl) ?_ rfl
  intro p e s m below meth c ls S hr hlocks hin hG hl
  have hl : lv_has ls 1 [(0, .int c3)] := hl
  refine lv_iload_n S.1 S.2.1 dX7_isLabel_0 rfl (lv_at hl 0 rfl) ?_
  refine lv_bipush (v := 97) S.1 S.2.1 dX7_isLabel_1 (by decide) ?_
  refine lv_icmp_lt (tgt := 16) S.1 S.2.1 dX7_isLabel_3 (by decide) (fun c => absurd c (Int32.not_lt.mpr (Int32.le_trans (by decide) g_c3_ge_97))) (fun _ => ?_)
  refine lv_iload_n S.1 S.2.1 dX7_isLabel_6 rfl (lv_at hl 0 rfl) ?_
  refine lv_bipush (v := 122) S.1 S.2.1 dX7_isLabel_7 (by decide) ?_
  refine lv_icmp_gt (tgt := 16) S.1 S.2.1 dX7_isLabel_9 (by decide) (fun c => absurd c (Int32.not_lt.mpr (Int32.le_trans g_c3_le_122 (by decide)))) (fun _ => ?_)
  refine lv_iconst (v := 1) S.1 S.2.1 dX7_isLabel_12 (by decide) ?_
  refine lv_goto (tgt := 17) S.1 S.2.1 dX7_isLabel_13 (by decide) ?_
  exact fx_zret S hr (rfl) hlocks () hG (rfl) dX7_isLabel_17
theorem k278_X7_needLabel {n : Nat} {c3 : Int32} (g_c3_ge_97 : 97 ≤ c3) (g_c3_le_122 : c3 ≤ 122) (hn : N0 + 231 ≤ n)  : Met l yX7_needLabel wsX7_needLabel ({ frames := 1, cells := 0, slots := 0, locals := 20 }) (va_Pc [.ref N0, .int c3] (fP N0 D vwCl (fty cI cC cL cD cII cTr cTm cIt cB) (fen ql) F n)) (fQv N0 D vwCl (fty cI cC cL cD cII cTr cTm cIt cB) (fun (_ : Unit) => True) (fun _ => F) (fun _ => n)) 0 0 (fA N0) := by
  refine fx_start 2 rfl rfl (Nat.le_of_ble_eq_true rfl) ?_ rfl
  intro p e s m below meth c ls S hr hlocks hin hG hl
  have hl : lv_has ls 2 [(0, .ref N0), (1, .int c3)] := hl
  refine lv_iload_n S.1 S.2.1 dX7_needLabel_0 rfl (lv_at hl 1 rfl) ?_
  refine fx_cSi (As := [.int c3]) (rest := []) S hG (k277_X7_isLabel g_c3_ge_97 g_c3_le_122 (by omega)) (cwS 1 S.2.2.2.2 gX7_needLabel_X7_isLabel rfl rfl rfl (by decide +kernel) ⟨Nat.le_of_ble_eq_true rfl, Nat.le_of_ble_eq_true rfl⟩) rfl hl.1 rfl (Nat.le_of_ble_eq_true rfl) dX7_needLabel_1 ⟨Nat.le_of_ble_eq_true rfl, Nat.le_of_ble_eq_true rfl⟩ (fun rv_1 _ H locs hp hG => ?_)
  subst rv_1
  refine lv_if_ne (tgt := 18) S.1 S.2.1 dX7_needLabel_4 (by decide) (fun _ => ?_) (fun c => absurd c (by decide))
  exact fx_vret S hr hlocks () hG trivial dX7_needLabel_18
theorem i_X5_countLabel_X5 : ∀ w ∈ u_ws RX5 TX5 7, w ∈ wsX5_countLabel := by decide +kernel
theorem k279_X5_countLabel {n : Nat} {c3 : Int32} (hn : N0 + 231 ≤ n) (h0 : F (N0 + 143) = some (.inr (7, [.ref (N0 + 144), .ref (N0 + 145), .ref (N0 + 146), .ref (N0 + 147), .ref (N0 + 148), .ref (N0 + 149), .int 1]))) (h1 : F (N0 + 144) = some (.inl (cC, 20, .inl (upd (upd (fun _ => 0) 0 97) 0 c3)))) : Met l yX5_countLabel wsX5_countLabel ({ frames := 0, cells := 0, slots := 0, locals := 0 }) (va_Pc [.ref (N0 + 143), .int c3] (fP N0 D vwCl (fty cI cC cL cD cII cTr cTm cIt cB) (fen ql) F n)) (fQi N0 D vwCl (fty cI cC cL cD cII cTr cTm cIt cB) (fun (r : Int32) (_ : Unit) => r = 1) (fun _ => F) (fun _ => n)) 0 0 (fA N0) := by
  refine fx_start 4 rfl rfl (Nat.le_of_ble_eq_true rfl) ?_ rfl
  intro p e s m below meth c ls S hr hlocks hin hG hl
  have hl : lv_has ls 4 [(0, .ref (N0 + 143)), (1, .int c3)] := hl
  have lt_h0 := hG.1.lt h0
  have lt_h1 := hG.1.lt h1
  refine lv_iconst (v := 0) S.1 S.2.1 dX5_countLabel_0 (by decide) ?_
  refine lv_istore_n (lv' := [(2, .int 0), (0, .ref (N0 + 143)), (1, .int c3)]) S.1 S.2.1 dX5_countLabel_1 rfl hl (by decide) rfl (fun ls hl => ?_)
  refine lv_iconst (v := 0) S.1 S.2.1 dX5_countLabel_2 (by decide) ?_
  refine lv_istore_n (lv' := [(3, .int 0), (2, .int 0), (0, .ref (N0 + 143)), (1, .int c3)]) S.1 S.2.1 dX5_countLabel_3 rfl hl (by decide) rfl (fun ls hl => ?_)
  refine lv_iload_n S.1 S.2.1 dX5_countLabel_4 rfl (lv_at hl 0 rfl) ?_
  refine lv_aload_n S.1 S.2.1 dX5_countLabel_5 rfl (lv_at hl 2 rfl) ?_
  refine gx_get (C := RX5) (T := TX5) (N := 7) S hG h0 i_X5_countLabel_X5 rfl 6 (by decide) (by decide +kernel) rfl dX5_countLabel_6 ?_
  refine lv_icmp_ge (tgt := 31) S.1 S.2.1 dX5_countLabel_9 (by decide) (fun c => absurd c (by decide)) (fun _ => ?_)
  refine lv_aload_n S.1 S.2.1 dX5_countLabel_12 rfl (lv_at hl 2 rfl) ?_
  refine gx_get (C := RX5) (T := TX5) (N := 7) S hG h0 i_X5_countLabel_X5 rfl 0 (by decide) (by decide +kernel) rfl dX5_countLabel_13 ?_
  refine lv_iload_n S.1 S.2.1 dX5_countLabel_16 rfl (lv_at hl 0 rfl) ?_
  refine gx_cald (v := c3) S hG 1 h1 rfl (fin_l (by decide)) (rfl) dX5_countLabel_17 ?_
  refine lv_iload_n S.1 S.2.1 dX5_countLabel_18 rfl (lv_at hl 3 rfl) ?_
  refine lv_icmp_ne (tgt := 25) S.1 S.2.1 dX5_countLabel_19 (by decide) (fun c => absurd (rfl) c) (fun _ => ?_)
  refine lv_iinc (v := 1) (lv' := [(2, .int 1), (3, .int 0), (0, .ref (N0 + 143)), (1, .int c3)]) S.1 S.2.1 dX5_countLabel_22 hl (k := 1) rfl (by decide) (by decide) rfl (fun ls hl => ?_)
  refine lv_iinc (v := 1) (lv' := [(3, .int 1), (2, .int 1), (0, .ref (N0 + 143)), (1, .int c3)]) S.1 S.2.1 dX5_countLabel_25 hl (k := 1) rfl (by decide) (by decide) rfl (fun ls hl => ?_)
  refine lv_goto (tgt := 4) S.1 S.2.1 dX5_countLabel_28 (by decide) ?_
  refine lv_iload_n S.1 S.2.1 dX5_countLabel_4 rfl (lv_at hl 0 rfl) ?_
  refine lv_aload_n S.1 S.2.1 dX5_countLabel_5 rfl (lv_at hl 2 rfl) ?_
  refine gx_get (C := RX5) (T := TX5) (N := 7) S hG h0 i_X5_countLabel_X5 rfl 6 (by decide) (by decide +kernel) rfl dX5_countLabel_6 ?_
  refine lv_icmp_ge (tgt := 31) S.1 S.2.1 dX5_countLabel_9 (by decide) (fun _ => ?_) (fun c => absurd (by decide) c)
  refine lv_iload_n S.1 S.2.1 dX5_countLabel_31 rfl (lv_at hl 1 rfl) ?_
  exact fx_iret S hr hlocks () hG (rfl) dX5_countLabel_32
theorem i_X7_setLabel_X5 : ∀ w ∈ u_ws RX5 TX5 7, w ∈ wsX7_setLabel := by decide +kernel
theorem k280_X7_setLabel {n : Nat} {c3 : Int32} (g_c3_ge_97 : 97 ≤ c3) (g_c3_le_122 : c3 ≤ 122) (hv3 : vp_nar .char c3 = c3) (hn : N0 + 231 ≤ n) (h0 : F N0 = some (.inr (9, [.ref (N0 + 1), .ref (N0 + 2), .ref (N0 + 11), .ref (N0 + 13), .ref (N0 + 63), .ref (N0 + 65), .ref (N0 + 85), .int (-1), .int (-1), .int 32]))) (h1 : F (N0 + 1) = some (.inl (cTr, 3, .inr (.inr (.inr (.inr (va_up (va_up (va_up (fun _ => none) 0 (some (N0 + 143))) 1 (some (N0 + 150))) 2 (some (N0 + 157))))))))) (h2 : F (N0 + 143) = some (.inr (7, [.ref (N0 + 144), .ref (N0 + 145), .ref (N0 + 146), .ref (N0 + 147), .ref (N0 + 148), .ref (N0 + 149), .int 1]))) (h3 : F (N0 + 144) = some (.inl (cC, 20, .inl (upd (fun _ => 0) 0 97)))) : Met l yX7_setLabel wsX7_setLabel ({ frames := 2, cells := 0, slots := 0, locals := 44 }) (va_Pc [.ref N0, .int 0, .int 0, .int c3] (fP N0 D vwCl (fty cI cC cL cD cII cTr cTm cIt cB) (fen ql) F n)) (fQi N0 D vwCl (fty cI cC cL cD cII cTr cTm cIt cB) (fun (r : Int32) (_ : Unit) => r = 1) (fun _ => (fu F (N0 + 144) (.inl (cC, 20, .inl (upd (upd (fun _ => 0) 0 97) 0 c3))))) (fun _ => n)) 0 0 (fA N0) := by
  refine fx_start 5 rfl rfl (Nat.le_of_ble_eq_true rfl) ?_ rfl
  intro p e s m below meth c ls S hr hlocks hin hG hl
  have hl : lv_has ls 5 [(0, .ref N0), (1, .int 0), (2, .int 0), (3, .int c3)] := hl
  have lt_h0 := hG.1.lt h0
  have lt_h1 := hG.1.lt h1
  have lt_h2 := hG.1.lt h2
  have lt_h3 := hG.1.lt h3
  refine lv_aload_n S.1 S.2.1 dX7_setLabel_0 rfl (lv_at hl 0 rfl) ?_
  refine lv_iload_n S.1 S.2.1 dX7_setLabel_1 rfl (lv_at hl 1 rfl) ?_
  refine lv_iload_n S.1 S.2.1 dX7_setLabel_2 rfl (lv_at hl 2 rfl) ?_
  refine fx_cVr (As := [.int 0, .int 0]) (rest := []) S hG (k82_X7_treeWith (by omega) h0 h1 h2) h0 rfl (cwV 2 S.2.2.2.2 gX7_setLabel_X7_treeWith rfl rfl rfl (by decide +kernel) ⟨Nat.le_of_ble_eq_true rfl, Nat.le_of_ble_eq_true rfl⟩) rfl hl.1 rfl (Nat.le_of_ble_eq_true rfl) dX7_setLabel_3 ⟨Nat.le_of_ble_eq_true rfl, Nat.le_of_ble_eq_true rfl⟩ (fun rv_1 _ H locs hp hG => ?_)
  subst rv_1
  refine lv_astore (lv' := [(4, .ref (N0 + 143)), (0, .ref N0), (1, .int 0), (2, .int 0), (3, .int c3)]) S.1 S.2.1 dX7_setLabel_6 hl (by decide) rfl (fun ls hl => ?_)
  refine lv_aload_n S.1 S.2.1 dX7_setLabel_8 rfl (lv_at hl 1 rfl) ?_
  refine lv_iload_n S.1 S.2.1 dX7_setLabel_9 rfl (lv_at hl 4 rfl) ?_
  refine fx_cVv (As := [.int c3]) (rest := []) S hG (k278_X7_needLabel g_c3_ge_97 g_c3_le_122 (by omega)) h0 rfl (cwV 1 S.2.2.2.2 gX7_setLabel_X7_needLabel rfl rfl rfl (by decide +kernel) ⟨Nat.le_of_ble_eq_true rfl, Nat.le_of_ble_eq_true rfl⟩) rfl hl.1 rfl (Nat.le_of_ble_eq_true rfl) dX7_setLabel_10 ⟨Nat.le_of_ble_eq_true rfl, Nat.le_of_ble_eq_true rfl⟩ (fun _ H locs hp hG => ?_)
  refine lv_aload S.1 S.2.1 dX7_setLabel_13 (lv_at hl 0 rfl) ?_
  refine gx_get (C := RX5) (T := TX5) (N := 7) S hG h2 i_X7_setLabel_X5 rfl 0 (by decide) (by decide +kernel) rfl dX7_setLabel_15 ?_
  refine lv_iload_n S.1 S.2.1 dX7_setLabel_18 rfl (lv_at hl 3 rfl) ?_
  refine lv_iload_n S.1 S.2.1 dX7_setLabel_19 rfl (lv_at hl 4 rfl) ?_
  refine gx_cast (f' := upd (upd (fun _ => 0) 0 97) 0 c3) S hG 1 h3 rfl (fin_l (by decide)) dX7_setLabel_20 (by rw [hv3]; rfl) (fun H locs hG => ?_)
  refine lv_aload S.1 S.2.1 dX7_setLabel_21 (lv_at hl 0 rfl) ?_
  refine lv_iload_n S.1 S.2.1 dX7_setLabel_23 rfl (lv_at hl 4 rfl) ?_
  refine fx_cVi (As := [.int c3]) (rest := []) S hG (k279_X5_countLabel (by omega) (fu_at (by omega) h2) fu_s) (fu_at (by omega) h2) rfl (cwV 1 S.2.2.2.2 gX7_setLabel_X5_countLabel rfl rfl rfl (by decide +kernel) ⟨Nat.le_of_ble_eq_true rfl, Nat.le_of_ble_eq_true rfl⟩) rfl hl.1 rfl (Nat.le_of_ble_eq_true rfl) dX7_setLabel_24 ⟨Nat.le_of_ble_eq_true rfl, Nat.le_of_ble_eq_true rfl⟩ (fun rv_3 _ H locs hp hG => ?_)
  subst rv_3
  exact fx_iret S hr hlocks () hG (rfl) dX7_setLabel_27
theorem k281_L_setLabel {n : Nat} {c3 : Int32} (g_c3_ge_97 : 97 ≤ c3) (g_c3_le_122 : c3 ≤ 122) (hv3 : vp_nar .char c3 = c3) (hn : N0 + 231 ≤ n) (h0 : F N0 = some (.inr (9, [.ref (N0 + 1), .ref (N0 + 2), .ref (N0 + 11), .ref (N0 + 13), .ref (N0 + 63), .ref (N0 + 65), .ref (N0 + 85), .int (-1), .int (-1), .int 32]))) (h1 : F (N0 + 1) = some (.inl (cTr, 3, .inr (.inr (.inr (.inr (va_up (va_up (va_up (fun _ => none) 0 (some (N0 + 143))) 1 (some (N0 + 150))) 2 (some (N0 + 157))))))))) (h2 : F (N0 + 143) = some (.inr (7, [.ref (N0 + 144), .ref (N0 + 145), .ref (N0 + 146), .ref (N0 + 147), .ref (N0 + 148), .ref (N0 + 149), .int 1]))) (h3 : F (N0 + 144) = some (.inl (cC, 20, .inl (upd (fun _ => 0) 0 97)))) (h4 : F (N0 + 229) = some (.inl (cL, 1, .inr (.inl (fun _ => 0))))) : Met l yL_setLabel wsL_setLabel ({ frames := 3, cells := 0, slots := 0, locals := 68 }) (va_Pc [.ref N0, .int 0, .int 0, .int c3, .ref (N0 + 229)] (fP N0 D vwCl (fty cI cC cL cD cII cTr cTm cIt cB) (fen ql) F n)) (fQi N0 D vwCl (fty cI cC cL cD cII cTr cTm cIt cB) (fun (r : Int32) (_ : Unit) => r = 0) (fun _ => (fu (fu F (N0 + 144) (.inl (cC, 20, .inl (upd (upd (fun _ => 0) 0 97) 0 c3)))) (N0 + 229) (.inl (cL, 1, .inr (.inl (vp_updL (fun _ => 0) 0 1)))))) (fun _ => n)) 0 0 (fA N0) := by
  refine fx_startW (hh := [(0, 12, 15, 19), (0, 12, 19, 21)]) 6 rfl rfl (Nat.le_of_ble_eq_true rfl) ?_ rfl
  intro p e s m below meth c ls S htab hr hlocks hG hl
  have hl : lv_has ls 6 [(0, .ref N0), (1, .int 0), (2, .int 0), (3, .int c3), (4, .ref (N0 + 229))] := hl
  have lt_h0 := hG.1.lt h0
  have lt_h1 := hG.1.lt h1
  have lt_h2 := hG.1.lt h2
  have lt_h3 := hG.1.lt h3
  have lt_h4 := hG.1.lt h4
  refine lv_aload S.1 S.2.1 dL_setLabel_0 (lv_at hl 4 rfl) ?_
  refine lv_iconst (v := 0) S.1 S.2.1 dL_setLabel_2 (by decide) ?_
  refine lv_aload_n S.1 S.2.1 dL_setLabel_3 rfl (lv_at hl 0 rfl) ?_
  refine lv_iload_n S.1 S.2.1 dL_setLabel_4 rfl (lv_at hl 1 rfl) ?_
  refine lv_iload_n S.1 S.2.1 dL_setLabel_5 rfl (lv_at hl 2 rfl) ?_
  refine lv_iload_n S.1 S.2.1 dL_setLabel_6 rfl (lv_at hl 3 rfl) ?_
  refine fx_cVi (As := [.int 0, .int 0, .int c3]) (rest := [.int 0, .ref (N0 + 229)]) S hG (k280_X7_setLabel g_c3_ge_97 g_c3_le_122 hv3 (by omega) h0 h1 h2 h3) h0 rfl (cwV 3 S.2.2.2.2 gL_setLabel_X7_setLabel rfl rfl rfl (by decide +kernel) ⟨Nat.le_of_ble_eq_true rfl, Nat.le_of_ble_eq_true rfl⟩) rfl hl.1 rfl (Nat.le_of_ble_eq_true rfl) dL_setLabel_7 ⟨Nat.le_of_ble_eq_true rfl, Nat.le_of_ble_eq_true rfl⟩ (fun rv_1 _ H locs hp hG => ?_)
  subst rv_1
  refine lv_i2l (v := 1) S.1 S.2.1 dL_setLabel_10 (by decide) ?_
  refine gx_last (f' := vp_updL (fun _ => 0) 0 1) S hG 2 (fu_at (by omega) h4) rfl (fin_l (by decide)) dL_setLabel_11 rfl (fun H locs hG => ?_)
  refine lv_goto (tgt := 23) S.1 S.2.1 dL_setLabel_12 (by decide) ?_
  refine lv_iconst (v := 0) S.1 S.2.1 dL_setLabel_23 (by decide) ?_
  exact fx_iret S hr hlocks () hG (rfl) dL_setLabel_24
theorem k282_X10_isBetween {n : Nat} {c3 : Int32} (g_c3_ge_97 : 97 ≤ c3) (g_c3_le_122 : c3 ≤ 122) (hn : N0 + 231 ≤ n)  : Met l yX10_isBetween wsX10_isBetween ({ frames := 0, cells := 0, slots := 0, locals := 0 }) (va_Pc [.int c3, .int 97, .int 122] (fP N0 D vwCl (fty cI cC cL cD cII cTr cTm cIt cB) (fen ql) F n)) (fQi N0 D vwCl (fty cI cC cL cD cII cTr cTm cIt cB) (fun (r : Int32) (_ : Unit) => r = 1) (fun _ => F) (fun _ => n)) 0 0 (fA N0) := by
  refine fx_start 3 rfl rfl (Nat.le_of_ble_eq_true rfl) ?_ rfl
  intro p e s m below meth c ls S hr hlocks hin hG hl
  have hl : lv_has ls 3 [(0, .int c3), (1, .int 97), (2, .int 122)] := hl
  refine lv_iload_n S.1 S.2.1 dX10_isBetween_0 rfl (lv_at hl 1 rfl) ?_
  refine lv_iload_n S.1 S.2.1 dX10_isBetween_1 rfl (lv_at hl 0 rfl) ?_
  refine lv_icmp_gt (tgt := 14) S.1 S.2.1 dX10_isBetween_2 (by decide) (fun c => absurd c (Int32.not_lt.mpr (Int32.le_trans (by decide) g_c3_ge_97))) (fun _ => ?_)
  refine lv_iload_n S.1 S.2.1 dX10_isBetween_5 rfl (lv_at hl 0 rfl) ?_
  refine lv_iload_n S.1 S.2.1 dX10_isBetween_6 rfl (lv_at hl 2 rfl) ?_
  refine lv_icmp_gt (tgt := 14) S.1 S.2.1 dX10_isBetween_7 (by decide) (fun c => absurd c (Int32.not_lt.mpr (Int32.le_trans g_c3_le_122 (by decide)))) (fun _ => ?_)
  refine lv_iconst (v := 1) S.1 S.2.1 dX10_isBetween_10 (by decide) ?_
  refine lv_goto (tgt := 15) S.1 S.2.1 dX10_isBetween_11 (by decide) ?_
  exact fx_zret S hr (rfl) hlocks () hG (rfl) dX10_isBetween_15
theorem k283_X10_isLabel {n : Nat} {c3 : Int32} (g_c3_ge_97 : 97 ≤ c3) (g_c3_le_122 : c3 ≤ 122) (hn : N0 + 231 ≤ n)  : Met l yX10_isLabel wsX10_isLabel ({ frames := 1, cells := 0, slots := 0, locals := 22 }) (va_Pc [.int c3] (fP N0 D vwCl (fty cI cC cL cD cII cTr cTm cIt cB) (fen ql) F n)) (fQi N0 D vwCl (fty cI cC cL cD cII cTr cTm cIt cB) (fun (r : Int32) (_ : Unit) => r = 1) (fun _ => F) (fun _ => n)) 0 0 (fA N0) := by
  refine fx_start 1 rfl rfl (Nat.le_of_ble_eq_true rfl) ?_ rfl
  intro p e s m below meth c ls S hr hlocks hin hG hl
  have hl : lv_has ls 1 [(0, .int c3)] := hl
  refine lv_iload_n S.1 S.2.1 dX10_isLabel_0 rfl (lv_at hl 0 rfl) ?_
  refine lv_bipush (v := 97) S.1 S.2.1 dX10_isLabel_1 (by decide) ?_
  refine lv_bipush (v := 122) S.1 S.2.1 dX10_isLabel_3 (by decide) ?_
  refine fx_cSi (As := [.int c3, .int 97, .int 122]) (rest := []) S hG (k282_X10_isBetween g_c3_ge_97 g_c3_le_122 (by omega)) (cwS 3 S.2.2.2.2 gX10_isLabel_X10_isBetween rfl rfl rfl (by decide +kernel) ⟨Nat.le_of_ble_eq_true rfl, Nat.le_of_ble_eq_true rfl⟩) rfl hl.1 rfl (Nat.le_of_ble_eq_true rfl) dX10_isLabel_5 ⟨Nat.le_of_ble_eq_true rfl, Nat.le_of_ble_eq_true rfl⟩ (fun rv_1 _ H locs hp hG => ?_)
  subst rv_1
  exact fx_zret S hr (rfl) hlocks () hG (rfl) dX10_isLabel_8
theorem i_X10_setLabel_X10 : ∀ w ∈ u_ws RX10 TX10 31, w ∈ wsX10_setLabel := by decide +kernel
theorem i_X10_setLabel_X9 : ∀ w ∈ u_ws RX9 TX9 5, w ∈ wsX10_setLabel := by decide +kernel
theorem k284_X10_setLabel {n : Nat} {c3 : Int32} (g_c3_ge_97 : 97 ≤ c3) (g_c3_le_122 : c3 ≤ 122) (hn : N0 + 231 ≤ n) (h0 : F (N0 + 164) = some (.inr (12, [.ref (N0 + 165), .int 0, .ref (N0 + 181), .int 0, .int 0, .int 0, .int (-1), .ref (ql 24), .ref (N0 + 182), .ref (N0 + 187), .ref (N0 + 208), .ref (N0 + 209), .ref (N0 + 210), .ref (N0 + 211), .ref (N0 + 212), .int 0, .ref (N0 + 213), .ref (N0 + 218), .ref (N0 + 223), .ref (N0 + 224), .ref (N0 + 225), .ref (N0 + 226), .ref (N0 + 227), .int 0, .int 0, .ref (N0 + 228), .null, .int (-1), .int 0, .int 0, .int 0]))) (h1 : F (N0 + 165) = some (.inl (cTm, 3, .inr (.inr (.inr (.inr (va_up (va_up (va_up (fun _ => none) 0 (some (N0 + 166))) 1 (some (N0 + 171))) 2 (some (N0 + 176))))))))) (h2 : F (N0 + 166) = some (.inr (11, [.ref (N0 + 167), .ref (N0 + 168), .ref (N0 + 169), .ref (N0 + 170), .int 1]))) (h3 : F (N0 + 167) = some (.inl (cI, 20, .inl (upd (fun _ => 0) 0 97)))) : Met l yX10_setLabel wsX10_setLabel ({ frames := 4, cells := 0, slots := 0, locals := 86 }) (va_Pc [.ref (N0 + 164), .int 0, .int 0, .int c3] (fP N0 D vwCl (fty cI cC cL cD cII cTr cTm cIt cB) (fen ql) F n)) (fQi N0 D vwCl (fty cI cC cL cD cII cTr cTm cIt cB) (fun (r : Int32) (_ : Unit) => r = 1) (fun _ => (fu (fu F (N0 + 164) (.inr (12, [.ref (N0 + 165), .int 0, .ref (N0 + 181), .int 0, .int 0, .int 0, .int (-1), .ref (ql 24), .ref (N0 + 182), .ref (N0 + 187), .ref (N0 + 208), .ref (N0 + 209), .ref (N0 + 210), .ref (N0 + 211), .ref (N0 + 212), .int 0, .ref (N0 + 213), .ref (N0 + 218), .ref (N0 + 223), .ref (N0 + 224), .ref (N0 + 225), .ref (N0 + 226), .ref (N0 + 227), .int 0, .int 0, .ref (N0 + 228), .null, .int (-1), .int 0, .int 0, .int 0]))) (N0 + 167) (.inl (cI, 20, .inl (upd (upd (fun _ => 0) 0 97) 0 c3))))) (fun _ => n)) 0 0 (fA N0) := by
  refine fx_start 7 rfl rfl (Nat.le_of_ble_eq_true rfl) ?_ rfl
  intro p e s m below meth c ls S hr hlocks hin hG hl
  have hl : lv_has ls 7 [(0, .ref (N0 + 164)), (1, .int 0), (2, .int 0), (3, .int c3)] := hl
  have lt_h0 := hG.1.lt h0
  have lt_h1 := hG.1.lt h1
  have lt_h2 := hG.1.lt h2
  have lt_h3 := hG.1.lt h3
  refine lv_aload_n S.1 S.2.1 dX10_setLabel_0 rfl (lv_at hl 0 rfl) ?_
  refine lv_iload_n S.1 S.2.1 dX10_setLabel_1 rfl (lv_at hl 1 rfl) ?_
  refine lv_iload_n S.1 S.2.1 dX10_setLabel_2 rfl (lv_at hl 2 rfl) ?_
  refine fx_cVi (As := [.int 0, .int 0]) (rest := []) S hG (k87_X10_isNowhere (by omega) h0 h1 h2) h0 rfl (cwV 2 S.2.2.2.2 gX10_setLabel_X10_isNowhere rfl rfl rfl (by decide +kernel) ⟨Nat.le_of_ble_eq_true rfl, Nat.le_of_ble_eq_true rfl⟩) rfl hl.1 rfl (Nat.le_of_ble_eq_true rfl) dX10_setLabel_3 ⟨Nat.le_of_ble_eq_true rfl, Nat.le_of_ble_eq_true rfl⟩ (fun rv_1 _ H locs hp hG => ?_)
  subst rv_1
  refine lv_if_eq (tgt := 11) S.1 S.2.1 dX10_setLabel_6 (by decide) (fun _ => ?_) (fun c => absurd (by decide) c)
  refine lv_iload_n S.1 S.2.1 dX10_setLabel_11 rfl (lv_at hl 3 rfl) ?_
  refine fx_cSi (As := [.int c3]) (rest := []) S hG (k283_X10_isLabel g_c3_ge_97 g_c3_le_122 (by omega)) (cwS 1 S.2.2.2.2 gX10_setLabel_X10_isLabel rfl rfl rfl (by decide +kernel) ⟨Nat.le_of_ble_eq_true rfl, Nat.le_of_ble_eq_true rfl⟩) rfl hl.1 rfl (Nat.le_of_ble_eq_true rfl) dX10_setLabel_12 ⟨Nat.le_of_ble_eq_true rfl, Nat.le_of_ble_eq_true rfl⟩ (fun rv_2 _ H locs hp hG => ?_)
  subst rv_2
  refine lv_if_ne (tgt := 24) S.1 S.2.1 dX10_setLabel_15 (by decide) (fun _ => ?_) (fun c => absurd c (by decide))
  refine lv_aload_n S.1 S.2.1 dX10_setLabel_24 rfl (lv_at hl 0 rfl) ?_
  refine gx_get (C := RX10) (T := TX10) (N := 31) S hG fu_s i_X10_setLabel_X10 rfl 0 (by decide) (by decide +kernel) rfl dX10_setLabel_25 ?_
  refine lv_iload_n S.1 S.2.1 dX10_setLabel_28 rfl (lv_at hl 1 rfl) ?_
  refine gx_aldq (x := (N0 + 166)) S hG 6 rfl (fu_at (by omega) h1) rfl (fin_l (by decide)) (rfl) dX10_setLabel_29 ?_
  refine lv_astore (lv' := [(4, .ref (N0 + 166)), (0, .ref (N0 + 164)), (1, .int 0), (2, .int 0), (3, .int c3)]) S.1 S.2.1 dX10_setLabel_30 hl (by decide) rfl (fun ls hl => ?_)
  refine lv_aload S.1 S.2.1 dX10_setLabel_32 (lv_at hl 0 rfl) ?_
  refine gx_getN (C := RX9) (T := TX9) (N := 5) S hG (fu_at (by omega) h2) i_X10_setLabel_X9 rfl 0 (by decide) (List.mem_of_getElem? (i := 1) rfl) rfl dX10_setLabel_34 ?_
  refine lv_iload_n S.1 S.2.1 dX10_setLabel_37 rfl (lv_at hl 3 rfl) ?_
  refine lv_iload_n S.1 S.2.1 dX10_setLabel_38 rfl (lv_at hl 4 rfl) ?_
  refine gx_iast (f' := upd (upd (fun _ => 0) 0 97) 0 c3) S hG 0 (fu_at (by omega) h3) rfl (fin_l (by decide)) dX10_setLabel_39 (rfl) (fun H locs hG => ?_)
  refine lv_iconst (v := 0) S.1 S.2.1 dX10_setLabel_40 (by decide) ?_
  refine lv_istore (lv' := [(5, .int 0), (4, .ref (N0 + 166)), (0, .ref (N0 + 164)), (1, .int 0), (2, .int 0), (3, .int c3)]) S.1 S.2.1 dX10_setLabel_41 hl (by decide) rfl (fun ls hl => ?_)
  refine lv_iconst (v := 0) S.1 S.2.1 dX10_setLabel_43 (by decide) ?_
  refine lv_istore (lv' := [(6, .int 0), (5, .int 0), (4, .ref (N0 + 166)), (0, .ref (N0 + 164)), (1, .int 0), (2, .int 0), (3, .int c3)]) S.1 S.2.1 dX10_setLabel_44 hl (by decide) rfl (fun ls hl => ?_)
  refine lv_iload S.1 S.2.1 dX10_setLabel_46 (lv_at hl 0 rfl) ?_
  refine lv_aload S.1 S.2.1 dX10_setLabel_48 (lv_at hl 2 rfl) ?_
  refine gx_getN (C := RX9) (T := TX9) (N := 5) S hG (fu_at (by omega) (fu_at (by omega) h2)) i_X10_setLabel_X9 rfl 4 (by decide) (List.mem_of_getElem? (i := 4) rfl) rfl dX10_setLabel_50 ?_
  refine lv_icmp_ge (tgt := 84) S.1 S.2.1 dX10_setLabel_53 (by decide) (fun c => absurd c (by decide)) (fun _ => ?_)
  refine lv_iload S.1 S.2.1 dX10_setLabel_56 (lv_at hl 1 rfl) ?_
  refine lv_aload S.1 S.2.1 dX10_setLabel_58 (lv_at hl 2 rfl) ?_
  refine gx_getN (C := RX9) (T := TX9) (N := 5) S hG (fu_at (by omega) (fu_at (by omega) h2)) i_X10_setLabel_X9 rfl 0 (by decide) (List.mem_of_getElem? (i := 1) rfl) rfl dX10_setLabel_60 ?_
  refine lv_iload S.1 S.2.1 dX10_setLabel_63 (lv_at hl 0 rfl) ?_
  refine gx_iald (v := c3) S hG 0 fu_s rfl (fin_l (by decide)) (rfl) dX10_setLabel_65 ?_
  refine lv_iload_n S.1 S.2.1 dX10_setLabel_66 rfl (lv_at hl 6 rfl) ?_
  refine lv_icmp_ne (tgt := 74) S.1 S.2.1 dX10_setLabel_67 (by decide) (fun c => absurd (rfl) c) (fun _ => ?_)
  refine lv_iconst (v := 1) S.1 S.2.1 dX10_setLabel_70 (by decide) ?_
  refine lv_goto (tgt := 75) S.1 S.2.1 dX10_setLabel_71 (by decide) ?_
  refine lv_iadd S.1 S.2.1 dX10_setLabel_75 ?_
  refine fx_topi (y := 1) (by decide) ?_
  refine lv_istore (lv' := [(5, .int 1), (6, .int 0), (4, .ref (N0 + 166)), (0, .ref (N0 + 164)), (1, .int 0), (2, .int 0), (3, .int c3)]) S.1 S.2.1 dX10_setLabel_76 hl (by decide) rfl (fun ls hl => ?_)
  refine lv_iinc (v := 1) (lv' := [(6, .int 1), (5, .int 1), (4, .ref (N0 + 166)), (0, .ref (N0 + 164)), (1, .int 0), (2, .int 0), (3, .int c3)]) S.1 S.2.1 dX10_setLabel_78 hl (k := 1) rfl (by decide) (by decide) rfl (fun ls hl => ?_)
  refine lv_goto (tgt := 46) S.1 S.2.1 dX10_setLabel_81 (by decide) ?_
  refine lv_iload S.1 S.2.1 dX10_setLabel_46 (lv_at hl 0 rfl) ?_
  refine lv_aload S.1 S.2.1 dX10_setLabel_48 (lv_at hl 2 rfl) ?_
  refine gx_getN (C := RX9) (T := TX9) (N := 5) S hG (fu_at (by omega) (fu_at (by omega) h2)) i_X10_setLabel_X9 rfl 4 (by decide) (List.mem_of_getElem? (i := 4) rfl) rfl dX10_setLabel_50 ?_
  refine lv_icmp_ge (tgt := 84) S.1 S.2.1 dX10_setLabel_53 (by decide) (fun _ => ?_) (fun c => absurd (by decide) c)
  refine lv_iload S.1 S.2.1 dX10_setLabel_84 (lv_at hl 1 rfl) ?_
  exact fx_iret S hr hlocks () hG (rfl) dX10_setLabel_86
theorem k285_X7_isLabel {n : Nat} {c3 : Int32} (g_c3_ge_123 : 123 ≤ c3) (hn : N0 + 231 ≤ n)  : Met l yX7_isLabel wsX7_isLabel ({ frames := 0, cells := 0, slots := 0, locals := 0 }) (va_Pc [.int c3] (fP N0 D vwCl (fty cI cC cL cD cII cTr cTm cIt cB) (fen ql) F n)) (fQi N0 D vwCl (fty cI cC cL cD cII cTr cTm cIt cB) (fun (r : Int32) (_ : Unit) => r = 0) (fun _ => F) (fun _ => n)) 0 0 (fA N0) := by
  refine fx_start 1 rfl rfl (Nat.le_of_ble_eq_true rfl) ?_ rfl
  intro p e s m below meth c ls S hr hlocks hin hG hl
  have hl : lv_has ls 1 [(0, .int c3)] := hl
  refine lv_iload_n S.1 S.2.1 dX7_isLabel_0 rfl (lv_at hl 0 rfl) ?_
  refine lv_bipush (v := 97) S.1 S.2.1 dX7_isLabel_1 (by decide) ?_
  refine lv_icmp_lt (tgt := 16) S.1 S.2.1 dX7_isLabel_3 (by decide) (fun c => absurd c (Int32.not_lt.mpr (Int32.le_trans (by decide) g_c3_ge_123))) (fun _ => ?_)
  refine lv_iload_n S.1 S.2.1 dX7_isLabel_6 rfl (lv_at hl 0 rfl) ?_
  refine lv_bipush (v := 122) S.1 S.2.1 dX7_isLabel_7 (by decide) ?_
  refine lv_icmp_gt (tgt := 16) S.1 S.2.1 dX7_isLabel_9 (by decide) (fun _ => ?_) (fun c => absurd (Int32.lt_of_lt_of_le (by decide) g_c3_ge_123) c)
  refine lv_iconst (v := 0) S.1 S.2.1 dX7_isLabel_16 (by decide) ?_
  exact fx_zret S hr (rfl) hlocks () hG (rfl) dX7_isLabel_17
theorem k286_X7_needLabel {n : Nat} {c3 : Int32} (g_c3_ge_123 : 123 ≤ c3) (hst : l.stackTraces = false) (hn : N0 + 231 ≤ n)  : vx_Met l yX7_needLabel wsX7_needLabel ({ frames := 6, cells := 1, slots := 6, locals := 82 }) (va_Pc [.ref N0, .int c3] (fP N0 D vwCl (fty cI cC cL cD cII cTr cTm cIt cB) (fen ql) F n)) (fNo N0 D vwCl (fty cI cC cL cD cII cTr cTm cIt cB) F n) (fXC N0 D vwCl (fty cI cC cL cD cII cTr cTm cIt cB) "java/lang/IllegalArgumentException" F n) 1 6 (fA N0) := by
  refine fx_startX 2 rfl rfl (Nat.le_of_ble_eq_true rfl) ?_ rfl
  intro p e s m below meth c ls S htab hlocks hG hl
  have hl : lv_has ls 2 [(0, .ref N0), (1, .int c3)] := hl
  refine lv_iload_n S.1 S.2.1 dX7_needLabel_0 rfl (lv_at hl 1 rfl) ?_
  refine fx_cSi (As := [.int c3]) (rest := []) S hG (k285_X7_isLabel g_c3_ge_123 (by omega)) (cwS 1 S.2.2.2.2 gX7_needLabel_X7_isLabel rfl rfl rfl (by decide +kernel) ⟨Nat.le_of_ble_eq_true rfl, Nat.le_of_ble_eq_true rfl⟩) rfl hl.1 rfl (Nat.le_of_ble_eq_true rfl) dX7_needLabel_1 ⟨Nat.le_of_ble_eq_true rfl, Nat.le_of_ble_eq_true rfl⟩ (fun rv_1 _ H locs hp hG => ?_)
  subst rv_1
  refine lv_if_ne (tgt := 18) S.1 S.2.1 dX7_needLabel_4 (by decide) (fun c => absurd (by decide) c) (fun _ => ?_)
  exact fx_throwW (text := "no such label") S hG hl.1 hst (by decide) (by decide +kernel) (by decide +kernel) (List.mem_of_getElem? (i := 21) rfl) (by decide +kernel) (by decide +kernel) (by decide +kernel) (List.mem_of_getElem? (i := 1) rfl) (List.mem_of_getElem? (i := 0) rfl) (List.mem_of_getElem? (i := 1) rfl) (List.mem_of_getElem? (i := 2) rfl) dX7_needLabel_7 dX7_needLabel_10 dX7_needLabel_11 dX7_needLabel_14 dX7_needLabel_17 htab (by decide) (Nat.le_of_ble_eq_true rfl) (by decide) (by decide) hlocks (by decide) (by decide)
theorem k287_X7_setLabel {n : Nat} {c3 : Int32} (g_c3_ge_123 : 123 ≤ c3) (hst : l.stackTraces = false) (hn : N0 + 231 ≤ n) (h0 : F N0 = some (.inr (9, [.ref (N0 + 1), .ref (N0 + 2), .ref (N0 + 11), .ref (N0 + 13), .ref (N0 + 63), .ref (N0 + 65), .ref (N0 + 85), .int (-1), .int (-1), .int 32]))) (h1 : F (N0 + 1) = some (.inl (cTr, 3, .inr (.inr (.inr (.inr (va_up (va_up (va_up (fun _ => none) 0 (some (N0 + 143))) 1 (some (N0 + 150))) 2 (some (N0 + 157))))))))) (h2 : F (N0 + 143) = some (.inr (7, [.ref (N0 + 144), .ref (N0 + 145), .ref (N0 + 146), .ref (N0 + 147), .ref (N0 + 148), .ref (N0 + 149), .int 1]))) : vx_Met l yX7_setLabel wsX7_setLabel ({ frames := 7, cells := 1, slots := 6, locals := 103 }) (va_Pc [.ref N0, .int 0, .int 0, .int c3] (fP N0 D vwCl (fty cI cC cL cD cII cTr cTm cIt cB) (fen ql) F n)) (fNo N0 D vwCl (fty cI cC cL cD cII cTr cTm cIt cB) F n) (fXC N0 D vwCl (fty cI cC cL cD cII cTr cTm cIt cB) "java/lang/IllegalArgumentException" F n) 1 6 (fA N0) := by
  refine fx_startX 5 rfl rfl (Nat.le_of_ble_eq_true rfl) ?_ rfl
  intro p e s m below meth c ls S htab hlocks hG hl
  have hl : lv_has ls 5 [(0, .ref N0), (1, .int 0), (2, .int 0), (3, .int c3)] := hl
  have lt_h0 := hG.1.lt h0
  have lt_h1 := hG.1.lt h1
  have lt_h2 := hG.1.lt h2
  refine lv_aload_n S.1 S.2.1 dX7_setLabel_0 rfl (lv_at hl 0 rfl) ?_
  refine lv_iload_n S.1 S.2.1 dX7_setLabel_1 rfl (lv_at hl 1 rfl) ?_
  refine lv_iload_n S.1 S.2.1 dX7_setLabel_2 rfl (lv_at hl 2 rfl) ?_
  refine fx_cVr (As := [.int 0, .int 0]) (rest := []) S hG (k82_X7_treeWith (by omega) h0 h1 h2) h0 rfl (cwV 2 S.2.2.2.2 gX7_setLabel_X7_treeWith rfl rfl rfl (by decide +kernel) ⟨Nat.le_of_ble_eq_true rfl, Nat.le_of_ble_eq_true rfl⟩) rfl hl.1 rfl (Nat.le_of_ble_eq_true rfl) dX7_setLabel_3 ⟨Nat.le_of_ble_eq_true rfl, Nat.le_of_ble_eq_true rfl⟩ (fun rv_1 _ H locs hp hG => ?_)
  subst rv_1
  refine lv_astore (lv' := [(4, .ref (N0 + 143)), (0, .ref N0), (1, .int 0), (2, .int 0), (3, .int c3)]) S.1 S.2.1 dX7_setLabel_6 hl (by decide) rfl (fun ls hl => ?_)
  refine lv_aload_n S.1 S.2.1 dX7_setLabel_8 rfl (lv_at hl 1 rfl) ?_
  refine lv_iload_n S.1 S.2.1 dX7_setLabel_9 rfl (lv_at hl 4 rfl) ?_
  refine fx_xV (As := [.int c3]) (rest := []) S hG (k286_X7_needLabel g_c3_ge_123 hst (by omega)) h0 rfl (cwV 1 S.2.2.2.2 gX7_setLabel_X7_needLabel rfl rfl rfl (by decide +kernel) ⟨Nat.le_of_ble_eq_true rfl, Nat.le_of_ble_eq_true rfl⟩) rfl hl.1 rfl (Nat.le_of_ble_eq_true rfl) dX7_setLabel_10 ⟨Nat.le_of_ble_eq_true rfl, Nat.le_of_ble_eq_true rfl⟩ (fun ceq_2 q_2 H locs n_3 hn_3 hG h1q_2 h2q_2 h3q_2 => ?_)
  exact fx_out htab hlocks hG (by omega) h1q_2 h2q_2 h3q_2 (by decide) (by decide)
theorem k288_L_setLabel {n : Nat} {c3 : Int32} (g_c3_ge_123 : 123 ≤ c3) (hst : l.stackTraces = false) (hn : N0 + 231 ≤ n) (h0 : F N0 = some (.inr (9, [.ref (N0 + 1), .ref (N0 + 2), .ref (N0 + 11), .ref (N0 + 13), .ref (N0 + 63), .ref (N0 + 65), .ref (N0 + 85), .int (-1), .int (-1), .int 32]))) (h1 : F (N0 + 1) = some (.inl (cTr, 3, .inr (.inr (.inr (.inr (va_up (va_up (va_up (fun _ => none) 0 (some (N0 + 143))) 1 (some (N0 + 150))) 2 (some (N0 + 157))))))))) (h2 : F (N0 + 143) = some (.inr (7, [.ref (N0 + 144), .ref (N0 + 145), .ref (N0 + 146), .ref (N0 + 147), .ref (N0 + 148), .ref (N0 + 149), .int 1]))) : Met l yL_setLabel wsL_setLabel ({ frames := 8, cells := 1, slots := 6, locals := 127 }) (va_Pc [.ref N0, .int 0, .int 0, .int c3, .ref (N0 + 229)] (fP N0 D vwCl (fty cI cC cL cD cII cTr cTm cIt cB) (fen ql) F n)) (fQi N0 D vwCl (fty cI cC cL cD cII cTr cTm cIt cB) (fun (r : Int32) (u : Nat) => r = 2 ∧ n ≤ u) (fun _ => F) (fun u => u)) 1 6 (fA N0) := by
  refine fx_startW (hh := [(0, 12, 15, 19), (0, 12, 19, 21)]) 6 rfl rfl (Nat.le_of_ble_eq_true rfl) ?_ rfl
  intro p e s m below meth c ls S htab hr hlocks hG hl
  have hl : lv_has ls 6 [(0, .ref N0), (1, .int 0), (2, .int 0), (3, .int c3), (4, .ref (N0 + 229))] := hl
  have lt_h0 := hG.1.lt h0
  have lt_h1 := hG.1.lt h1
  have lt_h2 := hG.1.lt h2
  refine lv_aload S.1 S.2.1 dL_setLabel_0 (lv_at hl 4 rfl) ?_
  refine lv_iconst (v := 0) S.1 S.2.1 dL_setLabel_2 (by decide) ?_
  refine lv_aload_n S.1 S.2.1 dL_setLabel_3 rfl (lv_at hl 0 rfl) ?_
  refine lv_iload_n S.1 S.2.1 dL_setLabel_4 rfl (lv_at hl 1 rfl) ?_
  refine lv_iload_n S.1 S.2.1 dL_setLabel_5 rfl (lv_at hl 2 rfl) ?_
  refine lv_iload_n S.1 S.2.1 dL_setLabel_6 rfl (lv_at hl 3 rfl) ?_
  refine fx_xV (As := [.int 0, .int 0, .int c3]) (rest := [.int 0, .ref (N0 + 229)]) S hG (k287_X7_setLabel g_c3_ge_123 hst (by omega) h0 h1 h2) h0 rfl (cwV 3 S.2.2.2.2 gL_setLabel_X7_setLabel rfl rfl rfl (by decide +kernel) ⟨Nat.le_of_ble_eq_true rfl, Nat.le_of_ble_eq_true rfl⟩) rfl hl.1 rfl (Nat.le_of_ble_eq_true rfl) dL_setLabel_7 ⟨Nat.le_of_ble_eq_true rfl, Nat.le_of_ble_eq_true rfl⟩ (fun ceq_1 q_1 H locs n_2 hn_2 hG h1q_1 h2q_1 h3q_1 => ?_)
  refine fx_catch (hh := [(0, 12, 15, 19), (0, 12, 19, 21)]) S htab hG h1q_1 h2q_1 h3q_1 [⟨0, 12, 15, 19⟩] ⟨0, 12, 19, 21⟩ [] rfl [] (fun z hz => by
    simp only [List.mem_cons, List.not_mem_nil, or_false] at hz
    rcases hz with rfl
    · exact ⟨by decide, "java/lang/IndexOutOfBoundsException", by decide +kernel, List.mem_of_getElem? (i := 5) rfl⟩) (by decide) (by decide) (by decide +kernel) (List.mem_of_getElem? (i := 1) rfl) ?_
  refine lv_astore (lv' := [(5, .ref q_1), (0, .ref N0), (1, .int 0), (2, .int 0), (3, .int c3), (4, .ref (N0 + 229))]) S.1 S.2.1 dL_setLabel_19 hl (by decide) rfl (fun ls hl => ?_)
  refine lv_iconst (v := 2) S.1 S.2.1 dL_setLabel_21 (by decide) ?_
  exact fx_iret S hr hlocks n_2 hG (⟨rfl, hn_2⟩) dL_setLabel_22
theorem k289_X10_isBetween {n : Nat} {c3 : Int32} (g_c3_ge_123 : 123 ≤ c3) (hn : N0 + 231 ≤ n)  : Met l yX10_isBetween wsX10_isBetween ({ frames := 0, cells := 0, slots := 0, locals := 0 }) (va_Pc [.int c3, .int 97, .int 122] (fP N0 D vwCl (fty cI cC cL cD cII cTr cTm cIt cB) (fen ql) F n)) (fQi N0 D vwCl (fty cI cC cL cD cII cTr cTm cIt cB) (fun (r : Int32) (_ : Unit) => r = 0) (fun _ => F) (fun _ => n)) 0 0 (fA N0) := by
  refine fx_start 3 rfl rfl (Nat.le_of_ble_eq_true rfl) ?_ rfl
  intro p e s m below meth c ls S hr hlocks hin hG hl
  have hl : lv_has ls 3 [(0, .int c3), (1, .int 97), (2, .int 122)] := hl
  refine lv_iload_n S.1 S.2.1 dX10_isBetween_0 rfl (lv_at hl 1 rfl) ?_
  refine lv_iload_n S.1 S.2.1 dX10_isBetween_1 rfl (lv_at hl 0 rfl) ?_
  refine lv_icmp_gt (tgt := 14) S.1 S.2.1 dX10_isBetween_2 (by decide) (fun c => absurd c (Int32.not_lt.mpr (Int32.le_trans (by decide) g_c3_ge_123))) (fun _ => ?_)
  refine lv_iload_n S.1 S.2.1 dX10_isBetween_5 rfl (lv_at hl 0 rfl) ?_
  refine lv_iload_n S.1 S.2.1 dX10_isBetween_6 rfl (lv_at hl 2 rfl) ?_
  refine lv_icmp_gt (tgt := 14) S.1 S.2.1 dX10_isBetween_7 (by decide) (fun _ => ?_) (fun c => absurd (Int32.lt_of_lt_of_le (by decide) g_c3_ge_123) c)
  refine lv_iconst (v := 0) S.1 S.2.1 dX10_isBetween_14 (by decide) ?_
  exact fx_zret S hr (rfl) hlocks () hG (rfl) dX10_isBetween_15
theorem k290_X10_isLabel {n : Nat} {c3 : Int32} (g_c3_ge_123 : 123 ≤ c3) (hn : N0 + 231 ≤ n)  : Met l yX10_isLabel wsX10_isLabel ({ frames := 1, cells := 0, slots := 0, locals := 22 }) (va_Pc [.int c3] (fP N0 D vwCl (fty cI cC cL cD cII cTr cTm cIt cB) (fen ql) F n)) (fQi N0 D vwCl (fty cI cC cL cD cII cTr cTm cIt cB) (fun (r : Int32) (_ : Unit) => r = 0) (fun _ => F) (fun _ => n)) 0 0 (fA N0) := by
  refine fx_start 1 rfl rfl (Nat.le_of_ble_eq_true rfl) ?_ rfl
  intro p e s m below meth c ls S hr hlocks hin hG hl
  have hl : lv_has ls 1 [(0, .int c3)] := hl
  refine lv_iload_n S.1 S.2.1 dX10_isLabel_0 rfl (lv_at hl 0 rfl) ?_
  refine lv_bipush (v := 97) S.1 S.2.1 dX10_isLabel_1 (by decide) ?_
  refine lv_bipush (v := 122) S.1 S.2.1 dX10_isLabel_3 (by decide) ?_
  refine fx_cSi (As := [.int c3, .int 97, .int 122]) (rest := []) S hG (k289_X10_isBetween g_c3_ge_123 (by omega)) (cwS 3 S.2.2.2.2 gX10_isLabel_X10_isBetween rfl rfl rfl (by decide +kernel) ⟨Nat.le_of_ble_eq_true rfl, Nat.le_of_ble_eq_true rfl⟩) rfl hl.1 rfl (Nat.le_of_ble_eq_true rfl) dX10_isLabel_5 ⟨Nat.le_of_ble_eq_true rfl, Nat.le_of_ble_eq_true rfl⟩ (fun rv_1 _ H locs hp hG => ?_)
  subst rv_1
  exact fx_zret S hr (rfl) hlocks () hG (rfl) dX10_isLabel_8
theorem k291_X10_setLabel {n : Nat} {c3 : Int32} (g_c3_ge_123 : 123 ≤ c3) (hn : N0 + 231 ≤ n) (h0 : F (N0 + 164) = some (.inr (12, [.ref (N0 + 165), .int 0, .ref (N0 + 181), .int 0, .int 0, .int 0, .int (-1), .ref (ql 24), .ref (N0 + 182), .ref (N0 + 187), .ref (N0 + 208), .ref (N0 + 209), .ref (N0 + 210), .ref (N0 + 211), .ref (N0 + 212), .int 0, .ref (N0 + 213), .ref (N0 + 218), .ref (N0 + 223), .ref (N0 + 224), .ref (N0 + 225), .ref (N0 + 226), .ref (N0 + 227), .int 0, .int 0, .ref (N0 + 228), .null, .int (-1), .int 0, .int 0, .int 0]))) (h1 : F (N0 + 165) = some (.inl (cTm, 3, .inr (.inr (.inr (.inr (va_up (va_up (va_up (fun _ => none) 0 (some (N0 + 166))) 1 (some (N0 + 171))) 2 (some (N0 + 176))))))))) (h2 : F (N0 + 166) = some (.inr (11, [.ref (N0 + 167), .ref (N0 + 168), .ref (N0 + 169), .ref (N0 + 170), .int 1]))) : Met l yX10_setLabel wsX10_setLabel ({ frames := 4, cells := 0, slots := 0, locals := 86 }) (va_Pc [.ref (N0 + 164), .int 0, .int 0, .int c3] (fP N0 D vwCl (fty cI cC cL cD cII cTr cTm cIt cB) (fen ql) F n)) (fQi N0 D vwCl (fty cI cC cL cD cII cTr cTm cIt cB) (fun (r : Int32) (_ : Unit) => r = 0) (fun _ => (fu F (N0 + 164) (.inr (12, [.ref (N0 + 165), .int 2, .ref (N0 + 181), .int 0, .int 0, .int 0, .int (-1), .ref (ql 24), .ref (N0 + 182), .ref (N0 + 187), .ref (N0 + 208), .ref (N0 + 209), .ref (N0 + 210), .ref (N0 + 211), .ref (N0 + 212), .int 0, .ref (N0 + 213), .ref (N0 + 218), .ref (N0 + 223), .ref (N0 + 224), .ref (N0 + 225), .ref (N0 + 226), .ref (N0 + 227), .int 0, .int 0, .ref (N0 + 228), .null, .int (-1), .int 0, .int 0, .int 0])))) (fun _ => n)) 0 0 (fA N0) := by
  refine fx_start 7 rfl rfl (Nat.le_of_ble_eq_true rfl) ?_ rfl
  intro p e s m below meth c ls S hr hlocks hin hG hl
  have hl : lv_has ls 7 [(0, .ref (N0 + 164)), (1, .int 0), (2, .int 0), (3, .int c3)] := hl
  have lt_h0 := hG.1.lt h0
  have lt_h1 := hG.1.lt h1
  have lt_h2 := hG.1.lt h2
  refine lv_aload_n S.1 S.2.1 dX10_setLabel_0 rfl (lv_at hl 0 rfl) ?_
  refine lv_iload_n S.1 S.2.1 dX10_setLabel_1 rfl (lv_at hl 1 rfl) ?_
  refine lv_iload_n S.1 S.2.1 dX10_setLabel_2 rfl (lv_at hl 2 rfl) ?_
  refine fx_cVi (As := [.int 0, .int 0]) (rest := []) S hG (k87_X10_isNowhere (by omega) h0 h1 h2) h0 rfl (cwV 2 S.2.2.2.2 gX10_setLabel_X10_isNowhere rfl rfl rfl (by decide +kernel) ⟨Nat.le_of_ble_eq_true rfl, Nat.le_of_ble_eq_true rfl⟩) rfl hl.1 rfl (Nat.le_of_ble_eq_true rfl) dX10_setLabel_3 ⟨Nat.le_of_ble_eq_true rfl, Nat.le_of_ble_eq_true rfl⟩ (fun rv_1 _ H locs hp hG => ?_)
  subst rv_1
  refine lv_if_eq (tgt := 11) S.1 S.2.1 dX10_setLabel_6 (by decide) (fun _ => ?_) (fun c => absurd (by decide) c)
  refine lv_iload_n S.1 S.2.1 dX10_setLabel_11 rfl (lv_at hl 3 rfl) ?_
  refine fx_cSi (As := [.int c3]) (rest := []) S hG (k290_X10_isLabel g_c3_ge_123 (by omega)) (cwS 1 S.2.2.2.2 gX10_setLabel_X10_isLabel rfl rfl rfl (by decide +kernel) ⟨Nat.le_of_ble_eq_true rfl, Nat.le_of_ble_eq_true rfl⟩) rfl hl.1 rfl (Nat.le_of_ble_eq_true rfl) dX10_setLabel_12 ⟨Nat.le_of_ble_eq_true rfl, Nat.le_of_ble_eq_true rfl⟩ (fun rv_2 _ H locs hp hG => ?_)
  subst rv_2
  refine lv_if_ne (tgt := 24) S.1 S.2.1 dX10_setLabel_15 (by decide) (fun c => absurd (by decide) c) (fun _ => ?_)
  refine lv_aload_n S.1 S.2.1 dX10_setLabel_18 rfl (lv_at hl 0 rfl) ?_
  refine lv_iconst (v := 2) S.1 S.2.1 dX10_setLabel_19 (by decide) ?_
  refine fx_cVi (As := [.int 2]) (rest := []) S hG (k99_X10_fails (by omega) fu_s) fu_s rfl (cwV 1 S.2.2.2.2 gX10_setLabel_X10_fails rfl rfl rfl (by decide +kernel) ⟨Nat.le_of_ble_eq_true rfl, Nat.le_of_ble_eq_true rfl⟩) rfl hl.1 rfl (Nat.le_of_ble_eq_true rfl) dX10_setLabel_20 ⟨Nat.le_of_ble_eq_true rfl, Nat.le_of_ble_eq_true rfl⟩ (fun rv_3 _ H locs hp hG => ?_)
  subst rv_3
  have hG : fG N0 D vwCl (fty cI cC cL cD cII cTr cTm cIt cB) (fen ql) s (fu F (N0 + 164) (.inr (12, [.ref (N0 + 165), .int 2, .ref (N0 + 181), .int 0, .int 0, .int 0, .int (-1), .ref (ql 24), .ref (N0 + 182), .ref (N0 + 187), .ref (N0 + 208), .ref (N0 + 209), .ref (N0 + 210), .ref (N0 + 211), .ref (N0 + 212), .int 0, .ref (N0 + 213), .ref (N0 + 218), .ref (N0 + 223), .ref (N0 + 224), .ref (N0 + 225), .ref (N0 + 226), .ref (N0 + 227), .int 0, .int 0, .ref (N0 + 228), .null, .int (-1), .int 0, .int 0, .int 0]))) n H locs := hG.weak (fun a e h => by
    rcases fu_cases h with ⟨rfl, he⟩ | ⟨hne0, h⟩
    · cases he; exact fu_s
    · exact (fu_at (by omega) (fu_at (by omega) h)))
  exact fx_iret S hr hlocks () hG (rfl) dX10_setLabel_23
theorem k292_X7_setLabel {n : Nat} {a2 : Int32} {c3 : Int32} (g_a2_ge_1 : 1 ≤ a2) (hst : l.stackTraces = false) (hn : N0 + 231 ≤ n) (h0 : F N0 = some (.inr (9, [.ref (N0 + 1), .ref (N0 + 2), .ref (N0 + 11), .ref (N0 + 13), .ref (N0 + 63), .ref (N0 + 65), .ref (N0 + 85), .int (-1), .int (-1), .int 32]))) (h1 : F (N0 + 1) = some (.inl (cTr, 3, .inr (.inr (.inr (.inr (va_up (va_up (va_up (fun _ => none) 0 (some (N0 + 143))) 1 (some (N0 + 150))) 2 (some (N0 + 157))))))))) (h2 : F (N0 + 143) = some (.inr (7, [.ref (N0 + 144), .ref (N0 + 145), .ref (N0 + 146), .ref (N0 + 147), .ref (N0 + 148), .ref (N0 + 149), .int 1]))) : vx_Met l yX7_setLabel wsX7_setLabel ({ frames := 7, cells := 1, slots := 6, locals := 105 }) (va_Pc [.ref N0, .int 0, .int a2, .int c3] (fP N0 D vwCl (fty cI cC cL cD cII cTr cTm cIt cB) (fen ql) F n)) (fNo N0 D vwCl (fty cI cC cL cD cII cTr cTm cIt cB) F n) (fXC N0 D vwCl (fty cI cC cL cD cII cTr cTm cIt cB) "java/lang/IndexOutOfBoundsException" F n) 1 6 (fA N0) := by
  refine fx_startX 5 rfl rfl (Nat.le_of_ble_eq_true rfl) ?_ rfl
  intro p e s m below meth c ls S htab hlocks hG hl
  have hl : lv_has ls 5 [(0, .ref N0), (1, .int 0), (2, .int a2), (3, .int c3)] := hl
  have lt_h0 := hG.1.lt h0
  have lt_h1 := hG.1.lt h1
  have lt_h2 := hG.1.lt h2
  refine lv_aload_n S.1 S.2.1 dX7_setLabel_0 rfl (lv_at hl 0 rfl) ?_
  refine lv_iload_n S.1 S.2.1 dX7_setLabel_1 rfl (lv_at hl 1 rfl) ?_
  refine lv_iload_n S.1 S.2.1 dX7_setLabel_2 rfl (lv_at hl 2 rfl) ?_
  refine fx_xV (As := [.int 0, .int a2]) (rest := []) S hG (k130_X7_treeWith g_a2_ge_1 hst (by omega) h0 h1 h2) h0 rfl (cwV 2 S.2.2.2.2 gX7_setLabel_X7_treeWith rfl rfl rfl (by decide +kernel) ⟨Nat.le_of_ble_eq_true rfl, Nat.le_of_ble_eq_true rfl⟩) rfl hl.1 rfl (Nat.le_of_ble_eq_true rfl) dX7_setLabel_3 ⟨Nat.le_of_ble_eq_true rfl, Nat.le_of_ble_eq_true rfl⟩ (fun ceq_1 q_1 H locs n_2 hn_2 hG h1q_1 h2q_1 h3q_1 => ?_)
  exact fx_out htab hlocks hG (by omega) h1q_1 h2q_1 h3q_1 (by decide) (by decide)
theorem k293_L_setLabel {n : Nat} {a2 : Int32} {c3 : Int32} (g_a2_ge_1 : 1 ≤ a2) (hst : l.stackTraces = false) (hn : N0 + 231 ≤ n) (h0 : F N0 = some (.inr (9, [.ref (N0 + 1), .ref (N0 + 2), .ref (N0 + 11), .ref (N0 + 13), .ref (N0 + 63), .ref (N0 + 65), .ref (N0 + 85), .int (-1), .int (-1), .int 32]))) (h1 : F (N0 + 1) = some (.inl (cTr, 3, .inr (.inr (.inr (.inr (va_up (va_up (va_up (fun _ => none) 0 (some (N0 + 143))) 1 (some (N0 + 150))) 2 (some (N0 + 157))))))))) (h2 : F (N0 + 143) = some (.inr (7, [.ref (N0 + 144), .ref (N0 + 145), .ref (N0 + 146), .ref (N0 + 147), .ref (N0 + 148), .ref (N0 + 149), .int 1]))) : Met l yL_setLabel wsL_setLabel ({ frames := 8, cells := 1, slots := 6, locals := 129 }) (va_Pc [.ref N0, .int 0, .int a2, .int c3, .ref (N0 + 229)] (fP N0 D vwCl (fty cI cC cL cD cII cTr cTm cIt cB) (fen ql) F n)) (fQi N0 D vwCl (fty cI cC cL cD cII cTr cTm cIt cB) (fun (r : Int32) (u : Nat) => r = 1 ∧ n ≤ u) (fun _ => F) (fun u => u)) 1 6 (fA N0) := by
  refine fx_startW (hh := [(0, 12, 15, 19), (0, 12, 19, 21)]) 6 rfl rfl (Nat.le_of_ble_eq_true rfl) ?_ rfl
  intro p e s m below meth c ls S htab hr hlocks hG hl
  have hl : lv_has ls 6 [(0, .ref N0), (1, .int 0), (2, .int a2), (3, .int c3), (4, .ref (N0 + 229))] := hl
  have lt_h0 := hG.1.lt h0
  have lt_h1 := hG.1.lt h1
  have lt_h2 := hG.1.lt h2
  refine lv_aload S.1 S.2.1 dL_setLabel_0 (lv_at hl 4 rfl) ?_
  refine lv_iconst (v := 0) S.1 S.2.1 dL_setLabel_2 (by decide) ?_
  refine lv_aload_n S.1 S.2.1 dL_setLabel_3 rfl (lv_at hl 0 rfl) ?_
  refine lv_iload_n S.1 S.2.1 dL_setLabel_4 rfl (lv_at hl 1 rfl) ?_
  refine lv_iload_n S.1 S.2.1 dL_setLabel_5 rfl (lv_at hl 2 rfl) ?_
  refine lv_iload_n S.1 S.2.1 dL_setLabel_6 rfl (lv_at hl 3 rfl) ?_
  refine fx_xV (As := [.int 0, .int a2, .int c3]) (rest := [.int 0, .ref (N0 + 229)]) S hG (k292_X7_setLabel g_a2_ge_1 hst (by omega) h0 h1 h2) h0 rfl (cwV 3 S.2.2.2.2 gL_setLabel_X7_setLabel rfl rfl rfl (by decide +kernel) ⟨Nat.le_of_ble_eq_true rfl, Nat.le_of_ble_eq_true rfl⟩) rfl hl.1 rfl (Nat.le_of_ble_eq_true rfl) dL_setLabel_7 ⟨Nat.le_of_ble_eq_true rfl, Nat.le_of_ble_eq_true rfl⟩ (fun ceq_1 q_1 H locs n_2 hn_2 hG h1q_1 h2q_1 h3q_1 => ?_)
  refine fx_catch (hh := [(0, 12, 15, 19), (0, 12, 19, 21)]) S htab hG h1q_1 h2q_1 h3q_1 [] ⟨0, 12, 15, 19⟩ [⟨0, 12, 19, 21⟩] rfl [] (fun z hz => absurd hz List.not_mem_nil) (by decide) (by decide) (by decide +kernel) (List.mem_of_getElem? (i := 2) rfl) ?_
  refine lv_astore (lv' := [(5, .ref q_1), (0, .ref N0), (1, .int 0), (2, .int a2), (3, .int c3), (4, .ref (N0 + 229))]) S.1 S.2.1 dL_setLabel_15 hl (by decide) rfl (fun ls hl => ?_)
  refine lv_iconst (v := 1) S.1 S.2.1 dL_setLabel_17 (by decide) ?_
  exact fx_iret S hr hlocks n_2 hG (⟨rfl, hn_2⟩) dL_setLabel_18
theorem k294_X10_setLabel {n : Nat} {a2 : Int32} {c3 : Int32} (g_a2_ge_1 : 1 ≤ a2) (hn : N0 + 231 ≤ n) (h0 : F (N0 + 164) = some (.inr (12, [.ref (N0 + 165), .int 0, .ref (N0 + 181), .int 0, .int 0, .int 0, .int (-1), .ref (ql 24), .ref (N0 + 182), .ref (N0 + 187), .ref (N0 + 208), .ref (N0 + 209), .ref (N0 + 210), .ref (N0 + 211), .ref (N0 + 212), .int 0, .ref (N0 + 213), .ref (N0 + 218), .ref (N0 + 223), .ref (N0 + 224), .ref (N0 + 225), .ref (N0 + 226), .ref (N0 + 227), .int 0, .int 0, .ref (N0 + 228), .null, .int (-1), .int 0, .int 0, .int 0]))) (h1 : F (N0 + 165) = some (.inl (cTm, 3, .inr (.inr (.inr (.inr (va_up (va_up (va_up (fun _ => none) 0 (some (N0 + 166))) 1 (some (N0 + 171))) 2 (some (N0 + 176))))))))) (h2 : F (N0 + 166) = some (.inr (11, [.ref (N0 + 167), .ref (N0 + 168), .ref (N0 + 169), .ref (N0 + 170), .int 1]))) : Met l yX10_setLabel wsX10_setLabel ({ frames := 4, cells := 0, slots := 0, locals := 86 }) (va_Pc [.ref (N0 + 164), .int 0, .int a2, .int c3] (fP N0 D vwCl (fty cI cC cL cD cII cTr cTm cIt cB) (fen ql) F n)) (fQi N0 D vwCl (fty cI cC cL cD cII cTr cTm cIt cB) (fun (r : Int32) (_ : Unit) => r = 0) (fun _ => (fu F (N0 + 164) (.inr (12, [.ref (N0 + 165), .int 1, .ref (N0 + 181), .int 0, .int 0, .int 0, .int (-1), .ref (ql 24), .ref (N0 + 182), .ref (N0 + 187), .ref (N0 + 208), .ref (N0 + 209), .ref (N0 + 210), .ref (N0 + 211), .ref (N0 + 212), .int 0, .ref (N0 + 213), .ref (N0 + 218), .ref (N0 + 223), .ref (N0 + 224), .ref (N0 + 225), .ref (N0 + 226), .ref (N0 + 227), .int 0, .int 0, .ref (N0 + 228), .null, .int (-1), .int 0, .int 0, .int 0])))) (fun _ => n)) 0 0 (fA N0) := by
  refine fx_start 7 rfl rfl (Nat.le_of_ble_eq_true rfl) ?_ rfl
  intro p e s m below meth c ls S hr hlocks hin hG hl
  have hl : lv_has ls 7 [(0, .ref (N0 + 164)), (1, .int 0), (2, .int a2), (3, .int c3)] := hl
  have lt_h0 := hG.1.lt h0
  have lt_h1 := hG.1.lt h1
  have lt_h2 := hG.1.lt h2
  refine lv_aload_n S.1 S.2.1 dX10_setLabel_0 rfl (lv_at hl 0 rfl) ?_
  refine lv_iload_n S.1 S.2.1 dX10_setLabel_1 rfl (lv_at hl 1 rfl) ?_
  refine lv_iload_n S.1 S.2.1 dX10_setLabel_2 rfl (lv_at hl 2 rfl) ?_
  refine fx_cVi (As := [.int 0, .int a2]) (rest := []) S hG (k135_X10_isNowhere g_a2_ge_1 (by omega) h0 h1 h2) h0 rfl (cwV 2 S.2.2.2.2 gX10_setLabel_X10_isNowhere rfl rfl rfl (by decide +kernel) ⟨Nat.le_of_ble_eq_true rfl, Nat.le_of_ble_eq_true rfl⟩) rfl hl.1 rfl (Nat.le_of_ble_eq_true rfl) dX10_setLabel_3 ⟨Nat.le_of_ble_eq_true rfl, Nat.le_of_ble_eq_true rfl⟩ (fun rv_1 _ H locs hp hG => ?_)
  subst rv_1
  refine lv_if_eq (tgt := 11) S.1 S.2.1 dX10_setLabel_6 (by decide) (fun c => absurd c (by decide)) (fun _ => ?_)
  refine lv_iconst (v := 0) S.1 S.2.1 dX10_setLabel_9 (by decide) ?_
  exact fx_iret S hr hlocks () hG (rfl) dX10_setLabel_10
theorem k295_X7_setLabel {n : Nat} {a2 : Int32} {c3 : Int32} (g_a2_le_m1 : a2 ≤ (-1)) (hst : l.stackTraces = false) (hn : N0 + 231 ≤ n) (h0 : F N0 = some (.inr (9, [.ref (N0 + 1), .ref (N0 + 2), .ref (N0 + 11), .ref (N0 + 13), .ref (N0 + 63), .ref (N0 + 65), .ref (N0 + 85), .int (-1), .int (-1), .int 32]))) (h1 : F (N0 + 1) = some (.inl (cTr, 3, .inr (.inr (.inr (.inr (va_up (va_up (va_up (fun _ => none) 0 (some (N0 + 143))) 1 (some (N0 + 150))) 2 (some (N0 + 157))))))))) (h2 : F (N0 + 150) = some (.inr (7, [.ref (N0 + 151), .ref (N0 + 152), .ref (N0 + 153), .ref (N0 + 154), .ref (N0 + 155), .ref (N0 + 156), .int 1]))) : vx_Met l yX7_setLabel wsX7_setLabel ({ frames := 7, cells := 1, slots := 6, locals := 105 }) (va_Pc [.ref N0, .int 1, .int a2, .int c3] (fP N0 D vwCl (fty cI cC cL cD cII cTr cTm cIt cB) (fen ql) F n)) (fNo N0 D vwCl (fty cI cC cL cD cII cTr cTm cIt cB) F n) (fXC N0 D vwCl (fty cI cC cL cD cII cTr cTm cIt cB) "java/lang/IndexOutOfBoundsException" F n) 1 6 (fA N0) := by
  refine fx_startX 5 rfl rfl (Nat.le_of_ble_eq_true rfl) ?_ rfl
  intro p e s m below meth c ls S htab hlocks hG hl
  have hl : lv_has ls 5 [(0, .ref N0), (1, .int 1), (2, .int a2), (3, .int c3)] := hl
  have lt_h0 := hG.1.lt h0
  have lt_h1 := hG.1.lt h1
  have lt_h2 := hG.1.lt h2
  refine lv_aload_n S.1 S.2.1 dX7_setLabel_0 rfl (lv_at hl 0 rfl) ?_
  refine lv_iload_n S.1 S.2.1 dX7_setLabel_1 rfl (lv_at hl 1 rfl) ?_
  refine lv_iload_n S.1 S.2.1 dX7_setLabel_2 rfl (lv_at hl 2 rfl) ?_
  refine fx_xV (As := [.int 1, .int a2]) (rest := []) S hG (k138_X7_treeWith g_a2_le_m1 hst (by omega) h0 h1 h2) h0 rfl (cwV 2 S.2.2.2.2 gX7_setLabel_X7_treeWith rfl rfl rfl (by decide +kernel) ⟨Nat.le_of_ble_eq_true rfl, Nat.le_of_ble_eq_true rfl⟩) rfl hl.1 rfl (Nat.le_of_ble_eq_true rfl) dX7_setLabel_3 ⟨Nat.le_of_ble_eq_true rfl, Nat.le_of_ble_eq_true rfl⟩ (fun ceq_1 q_1 H locs n_2 hn_2 hG h1q_1 h2q_1 h3q_1 => ?_)
  exact fx_out htab hlocks hG (by omega) h1q_1 h2q_1 h3q_1 (by decide) (by decide)
theorem k296_L_setLabel {n : Nat} {a2 : Int32} {c3 : Int32} (g_a2_le_m1 : a2 ≤ (-1)) (hst : l.stackTraces = false) (hn : N0 + 231 ≤ n) (h0 : F N0 = some (.inr (9, [.ref (N0 + 1), .ref (N0 + 2), .ref (N0 + 11), .ref (N0 + 13), .ref (N0 + 63), .ref (N0 + 65), .ref (N0 + 85), .int (-1), .int (-1), .int 32]))) (h1 : F (N0 + 1) = some (.inl (cTr, 3, .inr (.inr (.inr (.inr (va_up (va_up (va_up (fun _ => none) 0 (some (N0 + 143))) 1 (some (N0 + 150))) 2 (some (N0 + 157))))))))) (h2 : F (N0 + 150) = some (.inr (7, [.ref (N0 + 151), .ref (N0 + 152), .ref (N0 + 153), .ref (N0 + 154), .ref (N0 + 155), .ref (N0 + 156), .int 1]))) : Met l yL_setLabel wsL_setLabel ({ frames := 8, cells := 1, slots := 6, locals := 129 }) (va_Pc [.ref N0, .int 1, .int a2, .int c3, .ref (N0 + 229)] (fP N0 D vwCl (fty cI cC cL cD cII cTr cTm cIt cB) (fen ql) F n)) (fQi N0 D vwCl (fty cI cC cL cD cII cTr cTm cIt cB) (fun (r : Int32) (u : Nat) => r = 1 ∧ n ≤ u) (fun _ => F) (fun u => u)) 1 6 (fA N0) := by
  refine fx_startW (hh := [(0, 12, 15, 19), (0, 12, 19, 21)]) 6 rfl rfl (Nat.le_of_ble_eq_true rfl) ?_ rfl
  intro p e s m below meth c ls S htab hr hlocks hG hl
  have hl : lv_has ls 6 [(0, .ref N0), (1, .int 1), (2, .int a2), (3, .int c3), (4, .ref (N0 + 229))] := hl
  have lt_h0 := hG.1.lt h0
  have lt_h1 := hG.1.lt h1
  have lt_h2 := hG.1.lt h2
  refine lv_aload S.1 S.2.1 dL_setLabel_0 (lv_at hl 4 rfl) ?_
  refine lv_iconst (v := 0) S.1 S.2.1 dL_setLabel_2 (by decide) ?_
  refine lv_aload_n S.1 S.2.1 dL_setLabel_3 rfl (lv_at hl 0 rfl) ?_
  refine lv_iload_n S.1 S.2.1 dL_setLabel_4 rfl (lv_at hl 1 rfl) ?_
  refine lv_iload_n S.1 S.2.1 dL_setLabel_5 rfl (lv_at hl 2 rfl) ?_
  refine lv_iload_n S.1 S.2.1 dL_setLabel_6 rfl (lv_at hl 3 rfl) ?_
  refine fx_xV (As := [.int 1, .int a2, .int c3]) (rest := [.int 0, .ref (N0 + 229)]) S hG (k295_X7_setLabel g_a2_le_m1 hst (by omega) h0 h1 h2) h0 rfl (cwV 3 S.2.2.2.2 gL_setLabel_X7_setLabel rfl rfl rfl (by decide +kernel) ⟨Nat.le_of_ble_eq_true rfl, Nat.le_of_ble_eq_true rfl⟩) rfl hl.1 rfl (Nat.le_of_ble_eq_true rfl) dL_setLabel_7 ⟨Nat.le_of_ble_eq_true rfl, Nat.le_of_ble_eq_true rfl⟩ (fun ceq_1 q_1 H locs n_2 hn_2 hG h1q_1 h2q_1 h3q_1 => ?_)
  refine fx_catch (hh := [(0, 12, 15, 19), (0, 12, 19, 21)]) S htab hG h1q_1 h2q_1 h3q_1 [] ⟨0, 12, 15, 19⟩ [⟨0, 12, 19, 21⟩] rfl [] (fun z hz => absurd hz List.not_mem_nil) (by decide) (by decide) (by decide +kernel) (List.mem_of_getElem? (i := 2) rfl) ?_
  refine lv_astore (lv' := [(5, .ref q_1), (0, .ref N0), (1, .int 1), (2, .int a2), (3, .int c3), (4, .ref (N0 + 229))]) S.1 S.2.1 dL_setLabel_15 hl (by decide) rfl (fun ls hl => ?_)
  refine lv_iconst (v := 1) S.1 S.2.1 dL_setLabel_17 (by decide) ?_
  exact fx_iret S hr hlocks n_2 hG (⟨rfl, hn_2⟩) dL_setLabel_18
theorem k297_X10_setLabel {n : Nat} {a2 : Int32} {c3 : Int32} (g_a2_le_m1 : a2 ≤ (-1)) (hn : N0 + 231 ≤ n) (h0 : F (N0 + 164) = some (.inr (12, [.ref (N0 + 165), .int 0, .ref (N0 + 181), .int 0, .int 0, .int 0, .int (-1), .ref (ql 24), .ref (N0 + 182), .ref (N0 + 187), .ref (N0 + 208), .ref (N0 + 209), .ref (N0 + 210), .ref (N0 + 211), .ref (N0 + 212), .int 0, .ref (N0 + 213), .ref (N0 + 218), .ref (N0 + 223), .ref (N0 + 224), .ref (N0 + 225), .ref (N0 + 226), .ref (N0 + 227), .int 0, .int 0, .ref (N0 + 228), .null, .int (-1), .int 0, .int 0, .int 0]))) (h1 : F (N0 + 165) = some (.inl (cTm, 3, .inr (.inr (.inr (.inr (va_up (va_up (va_up (fun _ => none) 0 (some (N0 + 166))) 1 (some (N0 + 171))) 2 (some (N0 + 176))))))))) (h2 : F (N0 + 171) = some (.inr (11, [.ref (N0 + 172), .ref (N0 + 173), .ref (N0 + 174), .ref (N0 + 175), .int 1]))) : Met l yX10_setLabel wsX10_setLabel ({ frames := 4, cells := 0, slots := 0, locals := 86 }) (va_Pc [.ref (N0 + 164), .int 1, .int a2, .int c3] (fP N0 D vwCl (fty cI cC cL cD cII cTr cTm cIt cB) (fen ql) F n)) (fQi N0 D vwCl (fty cI cC cL cD cII cTr cTm cIt cB) (fun (r : Int32) (_ : Unit) => r = 0) (fun _ => (fu F (N0 + 164) (.inr (12, [.ref (N0 + 165), .int 1, .ref (N0 + 181), .int 0, .int 0, .int 0, .int (-1), .ref (ql 24), .ref (N0 + 182), .ref (N0 + 187), .ref (N0 + 208), .ref (N0 + 209), .ref (N0 + 210), .ref (N0 + 211), .ref (N0 + 212), .int 0, .ref (N0 + 213), .ref (N0 + 218), .ref (N0 + 223), .ref (N0 + 224), .ref (N0 + 225), .ref (N0 + 226), .ref (N0 + 227), .int 0, .int 0, .ref (N0 + 228), .null, .int (-1), .int 0, .int 0, .int 0])))) (fun _ => n)) 0 0 (fA N0) := by
  refine fx_start 7 rfl rfl (Nat.le_of_ble_eq_true rfl) ?_ rfl
  intro p e s m below meth c ls S hr hlocks hin hG hl
  have hl : lv_has ls 7 [(0, .ref (N0 + 164)), (1, .int 1), (2, .int a2), (3, .int c3)] := hl
  have lt_h0 := hG.1.lt h0
  have lt_h1 := hG.1.lt h1
  have lt_h2 := hG.1.lt h2
  refine lv_aload_n S.1 S.2.1 dX10_setLabel_0 rfl (lv_at hl 0 rfl) ?_
  refine lv_iload_n S.1 S.2.1 dX10_setLabel_1 rfl (lv_at hl 1 rfl) ?_
  refine lv_iload_n S.1 S.2.1 dX10_setLabel_2 rfl (lv_at hl 2 rfl) ?_
  refine fx_cVi (As := [.int 1, .int a2]) (rest := []) S hG (k142_X10_isNowhere g_a2_le_m1 (by omega) h0 h1 h2) h0 rfl (cwV 2 S.2.2.2.2 gX10_setLabel_X10_isNowhere rfl rfl rfl (by decide +kernel) ⟨Nat.le_of_ble_eq_true rfl, Nat.le_of_ble_eq_true rfl⟩) rfl hl.1 rfl (Nat.le_of_ble_eq_true rfl) dX10_setLabel_3 ⟨Nat.le_of_ble_eq_true rfl, Nat.le_of_ble_eq_true rfl⟩ (fun rv_1 _ H locs hp hG => ?_)
  subst rv_1
  refine lv_if_eq (tgt := 11) S.1 S.2.1 dX10_setLabel_6 (by decide) (fun c => absurd c (by decide)) (fun _ => ?_)
  refine lv_iconst (v := 0) S.1 S.2.1 dX10_setLabel_9 (by decide) ?_
  exact fx_iret S hr hlocks () hG (rfl) dX10_setLabel_10
theorem k298_X7_setLabel {n : Nat} {c3 : Int32} (g_c3_le_96 : c3 ≤ 96) (hst : l.stackTraces = false) (hn : N0 + 231 ≤ n) (h0 : F N0 = some (.inr (9, [.ref (N0 + 1), .ref (N0 + 2), .ref (N0 + 11), .ref (N0 + 13), .ref (N0 + 63), .ref (N0 + 65), .ref (N0 + 85), .int (-1), .int (-1), .int 32]))) (h1 : F (N0 + 1) = some (.inl (cTr, 3, .inr (.inr (.inr (.inr (va_up (va_up (va_up (fun _ => none) 0 (some (N0 + 143))) 1 (some (N0 + 150))) 2 (some (N0 + 157))))))))) (h2 : F (N0 + 150) = some (.inr (7, [.ref (N0 + 151), .ref (N0 + 152), .ref (N0 + 153), .ref (N0 + 154), .ref (N0 + 155), .ref (N0 + 156), .int 1]))) : vx_Met l yX7_setLabel wsX7_setLabel ({ frames := 7, cells := 1, slots := 6, locals := 103 }) (va_Pc [.ref N0, .int 1, .int 0, .int c3] (fP N0 D vwCl (fty cI cC cL cD cII cTr cTm cIt cB) (fen ql) F n)) (fNo N0 D vwCl (fty cI cC cL cD cII cTr cTm cIt cB) F n) (fXC N0 D vwCl (fty cI cC cL cD cII cTr cTm cIt cB) "java/lang/IllegalArgumentException" F n) 1 6 (fA N0) := by
  refine fx_startX 5 rfl rfl (Nat.le_of_ble_eq_true rfl) ?_ rfl
  intro p e s m below meth c ls S htab hlocks hG hl
  have hl : lv_has ls 5 [(0, .ref N0), (1, .int 1), (2, .int 0), (3, .int c3)] := hl
  have lt_h0 := hG.1.lt h0
  have lt_h1 := hG.1.lt h1
  have lt_h2 := hG.1.lt h2
  refine lv_aload_n S.1 S.2.1 dX7_setLabel_0 rfl (lv_at hl 0 rfl) ?_
  refine lv_iload_n S.1 S.2.1 dX7_setLabel_1 rfl (lv_at hl 1 rfl) ?_
  refine lv_iload_n S.1 S.2.1 dX7_setLabel_2 rfl (lv_at hl 2 rfl) ?_
  refine fx_cVr (As := [.int 1, .int 0]) (rest := []) S hG (k145_X7_treeWith (by omega) h0 h1 h2) h0 rfl (cwV 2 S.2.2.2.2 gX7_setLabel_X7_treeWith rfl rfl rfl (by decide +kernel) ⟨Nat.le_of_ble_eq_true rfl, Nat.le_of_ble_eq_true rfl⟩) rfl hl.1 rfl (Nat.le_of_ble_eq_true rfl) dX7_setLabel_3 ⟨Nat.le_of_ble_eq_true rfl, Nat.le_of_ble_eq_true rfl⟩ (fun rv_1 _ H locs hp hG => ?_)
  subst rv_1
  refine lv_astore (lv' := [(4, .ref (N0 + 150)), (0, .ref N0), (1, .int 1), (2, .int 0), (3, .int c3)]) S.1 S.2.1 dX7_setLabel_6 hl (by decide) rfl (fun ls hl => ?_)
  refine lv_aload_n S.1 S.2.1 dX7_setLabel_8 rfl (lv_at hl 1 rfl) ?_
  refine lv_iload_n S.1 S.2.1 dX7_setLabel_9 rfl (lv_at hl 4 rfl) ?_
  refine fx_xV (As := [.int c3]) (rest := []) S hG (k271_X7_needLabel g_c3_le_96 hst (by omega)) h0 rfl (cwV 1 S.2.2.2.2 gX7_setLabel_X7_needLabel rfl rfl rfl (by decide +kernel) ⟨Nat.le_of_ble_eq_true rfl, Nat.le_of_ble_eq_true rfl⟩) rfl hl.1 rfl (Nat.le_of_ble_eq_true rfl) dX7_setLabel_10 ⟨Nat.le_of_ble_eq_true rfl, Nat.le_of_ble_eq_true rfl⟩ (fun ceq_2 q_2 H locs n_3 hn_3 hG h1q_2 h2q_2 h3q_2 => ?_)
  exact fx_out htab hlocks hG (by omega) h1q_2 h2q_2 h3q_2 (by decide) (by decide)
theorem k299_L_setLabel {n : Nat} {c3 : Int32} (g_c3_le_96 : c3 ≤ 96) (hst : l.stackTraces = false) (hn : N0 + 231 ≤ n) (h0 : F N0 = some (.inr (9, [.ref (N0 + 1), .ref (N0 + 2), .ref (N0 + 11), .ref (N0 + 13), .ref (N0 + 63), .ref (N0 + 65), .ref (N0 + 85), .int (-1), .int (-1), .int 32]))) (h1 : F (N0 + 1) = some (.inl (cTr, 3, .inr (.inr (.inr (.inr (va_up (va_up (va_up (fun _ => none) 0 (some (N0 + 143))) 1 (some (N0 + 150))) 2 (some (N0 + 157))))))))) (h2 : F (N0 + 150) = some (.inr (7, [.ref (N0 + 151), .ref (N0 + 152), .ref (N0 + 153), .ref (N0 + 154), .ref (N0 + 155), .ref (N0 + 156), .int 1]))) : Met l yL_setLabel wsL_setLabel ({ frames := 8, cells := 1, slots := 6, locals := 127 }) (va_Pc [.ref N0, .int 1, .int 0, .int c3, .ref (N0 + 229)] (fP N0 D vwCl (fty cI cC cL cD cII cTr cTm cIt cB) (fen ql) F n)) (fQi N0 D vwCl (fty cI cC cL cD cII cTr cTm cIt cB) (fun (r : Int32) (u : Nat) => r = 2 ∧ n ≤ u) (fun _ => F) (fun u => u)) 1 6 (fA N0) := by
  refine fx_startW (hh := [(0, 12, 15, 19), (0, 12, 19, 21)]) 6 rfl rfl (Nat.le_of_ble_eq_true rfl) ?_ rfl
  intro p e s m below meth c ls S htab hr hlocks hG hl
  have hl : lv_has ls 6 [(0, .ref N0), (1, .int 1), (2, .int 0), (3, .int c3), (4, .ref (N0 + 229))] := hl
  have lt_h0 := hG.1.lt h0
  have lt_h1 := hG.1.lt h1
  have lt_h2 := hG.1.lt h2
  refine lv_aload S.1 S.2.1 dL_setLabel_0 (lv_at hl 4 rfl) ?_
  refine lv_iconst (v := 0) S.1 S.2.1 dL_setLabel_2 (by decide) ?_
  refine lv_aload_n S.1 S.2.1 dL_setLabel_3 rfl (lv_at hl 0 rfl) ?_
  refine lv_iload_n S.1 S.2.1 dL_setLabel_4 rfl (lv_at hl 1 rfl) ?_
  refine lv_iload_n S.1 S.2.1 dL_setLabel_5 rfl (lv_at hl 2 rfl) ?_
  refine lv_iload_n S.1 S.2.1 dL_setLabel_6 rfl (lv_at hl 3 rfl) ?_
  refine fx_xV (As := [.int 1, .int 0, .int c3]) (rest := [.int 0, .ref (N0 + 229)]) S hG (k298_X7_setLabel g_c3_le_96 hst (by omega) h0 h1 h2) h0 rfl (cwV 3 S.2.2.2.2 gL_setLabel_X7_setLabel rfl rfl rfl (by decide +kernel) ⟨Nat.le_of_ble_eq_true rfl, Nat.le_of_ble_eq_true rfl⟩) rfl hl.1 rfl (Nat.le_of_ble_eq_true rfl) dL_setLabel_7 ⟨Nat.le_of_ble_eq_true rfl, Nat.le_of_ble_eq_true rfl⟩ (fun ceq_1 q_1 H locs n_2 hn_2 hG h1q_1 h2q_1 h3q_1 => ?_)
  refine fx_catch (hh := [(0, 12, 15, 19), (0, 12, 19, 21)]) S htab hG h1q_1 h2q_1 h3q_1 [⟨0, 12, 15, 19⟩] ⟨0, 12, 19, 21⟩ [] rfl [] (fun z hz => by
    simp only [List.mem_cons, List.not_mem_nil, or_false] at hz
    rcases hz with rfl
    · exact ⟨by decide, "java/lang/IndexOutOfBoundsException", by decide +kernel, List.mem_of_getElem? (i := 5) rfl⟩) (by decide) (by decide) (by decide +kernel) (List.mem_of_getElem? (i := 1) rfl) ?_
  refine lv_astore (lv' := [(5, .ref q_1), (0, .ref N0), (1, .int 1), (2, .int 0), (3, .int c3), (4, .ref (N0 + 229))]) S.1 S.2.1 dL_setLabel_19 hl (by decide) rfl (fun ls hl => ?_)
  refine lv_iconst (v := 2) S.1 S.2.1 dL_setLabel_21 (by decide) ?_
  exact fx_iret S hr hlocks n_2 hG (⟨rfl, hn_2⟩) dL_setLabel_22
theorem k300_X10_setLabel {n : Nat} {c3 : Int32} (g_c3_le_96 : c3 ≤ 96) (hn : N0 + 231 ≤ n) (h0 : F (N0 + 164) = some (.inr (12, [.ref (N0 + 165), .int 0, .ref (N0 + 181), .int 0, .int 0, .int 0, .int (-1), .ref (ql 24), .ref (N0 + 182), .ref (N0 + 187), .ref (N0 + 208), .ref (N0 + 209), .ref (N0 + 210), .ref (N0 + 211), .ref (N0 + 212), .int 0, .ref (N0 + 213), .ref (N0 + 218), .ref (N0 + 223), .ref (N0 + 224), .ref (N0 + 225), .ref (N0 + 226), .ref (N0 + 227), .int 0, .int 0, .ref (N0 + 228), .null, .int (-1), .int 0, .int 0, .int 0]))) (h1 : F (N0 + 165) = some (.inl (cTm, 3, .inr (.inr (.inr (.inr (va_up (va_up (va_up (fun _ => none) 0 (some (N0 + 166))) 1 (some (N0 + 171))) 2 (some (N0 + 176))))))))) (h2 : F (N0 + 171) = some (.inr (11, [.ref (N0 + 172), .ref (N0 + 173), .ref (N0 + 174), .ref (N0 + 175), .int 1]))) : Met l yX10_setLabel wsX10_setLabel ({ frames := 4, cells := 0, slots := 0, locals := 86 }) (va_Pc [.ref (N0 + 164), .int 1, .int 0, .int c3] (fP N0 D vwCl (fty cI cC cL cD cII cTr cTm cIt cB) (fen ql) F n)) (fQi N0 D vwCl (fty cI cC cL cD cII cTr cTm cIt cB) (fun (r : Int32) (_ : Unit) => r = 0) (fun _ => (fu F (N0 + 164) (.inr (12, [.ref (N0 + 165), .int 2, .ref (N0 + 181), .int 0, .int 0, .int 0, .int (-1), .ref (ql 24), .ref (N0 + 182), .ref (N0 + 187), .ref (N0 + 208), .ref (N0 + 209), .ref (N0 + 210), .ref (N0 + 211), .ref (N0 + 212), .int 0, .ref (N0 + 213), .ref (N0 + 218), .ref (N0 + 223), .ref (N0 + 224), .ref (N0 + 225), .ref (N0 + 226), .ref (N0 + 227), .int 0, .int 0, .ref (N0 + 228), .null, .int (-1), .int 0, .int 0, .int 0])))) (fun _ => n)) 0 0 (fA N0) := by
  refine fx_start 7 rfl rfl (Nat.le_of_ble_eq_true rfl) ?_ rfl
  intro p e s m below meth c ls S hr hlocks hin hG hl
  have hl : lv_has ls 7 [(0, .ref (N0 + 164)), (1, .int 1), (2, .int 0), (3, .int c3)] := hl
  have lt_h0 := hG.1.lt h0
  have lt_h1 := hG.1.lt h1
  have lt_h2 := hG.1.lt h2
  refine lv_aload_n S.1 S.2.1 dX10_setLabel_0 rfl (lv_at hl 0 rfl) ?_
  refine lv_iload_n S.1 S.2.1 dX10_setLabel_1 rfl (lv_at hl 1 rfl) ?_
  refine lv_iload_n S.1 S.2.1 dX10_setLabel_2 rfl (lv_at hl 2 rfl) ?_
  refine fx_cVi (As := [.int 1, .int 0]) (rest := []) S hG (k149_X10_isNowhere (by omega) h0 h1 h2) h0 rfl (cwV 2 S.2.2.2.2 gX10_setLabel_X10_isNowhere rfl rfl rfl (by decide +kernel) ⟨Nat.le_of_ble_eq_true rfl, Nat.le_of_ble_eq_true rfl⟩) rfl hl.1 rfl (Nat.le_of_ble_eq_true rfl) dX10_setLabel_3 ⟨Nat.le_of_ble_eq_true rfl, Nat.le_of_ble_eq_true rfl⟩ (fun rv_1 _ H locs hp hG => ?_)
  subst rv_1
  refine lv_if_eq (tgt := 11) S.1 S.2.1 dX10_setLabel_6 (by decide) (fun _ => ?_) (fun c => absurd (by decide) c)
  refine lv_iload_n S.1 S.2.1 dX10_setLabel_11 rfl (lv_at hl 3 rfl) ?_
  refine fx_cSi (As := [.int c3]) (rest := []) S hG (k275_X10_isLabel g_c3_le_96 (by omega)) (cwS 1 S.2.2.2.2 gX10_setLabel_X10_isLabel rfl rfl rfl (by decide +kernel) ⟨Nat.le_of_ble_eq_true rfl, Nat.le_of_ble_eq_true rfl⟩) rfl hl.1 rfl (Nat.le_of_ble_eq_true rfl) dX10_setLabel_12 ⟨Nat.le_of_ble_eq_true rfl, Nat.le_of_ble_eq_true rfl⟩ (fun rv_2 _ H locs hp hG => ?_)
  subst rv_2
  refine lv_if_ne (tgt := 24) S.1 S.2.1 dX10_setLabel_15 (by decide) (fun c => absurd (by decide) c) (fun _ => ?_)
  refine lv_aload_n S.1 S.2.1 dX10_setLabel_18 rfl (lv_at hl 0 rfl) ?_
  refine lv_iconst (v := 2) S.1 S.2.1 dX10_setLabel_19 (by decide) ?_
  refine fx_cVi (As := [.int 2]) (rest := []) S hG (k99_X10_fails (by omega) fu_s) fu_s rfl (cwV 1 S.2.2.2.2 gX10_setLabel_X10_fails rfl rfl rfl (by decide +kernel) ⟨Nat.le_of_ble_eq_true rfl, Nat.le_of_ble_eq_true rfl⟩) rfl hl.1 rfl (Nat.le_of_ble_eq_true rfl) dX10_setLabel_20 ⟨Nat.le_of_ble_eq_true rfl, Nat.le_of_ble_eq_true rfl⟩ (fun rv_3 _ H locs hp hG => ?_)
  subst rv_3
  have hG : fG N0 D vwCl (fty cI cC cL cD cII cTr cTm cIt cB) (fen ql) s (fu F (N0 + 164) (.inr (12, [.ref (N0 + 165), .int 2, .ref (N0 + 181), .int 0, .int 0, .int 0, .int (-1), .ref (ql 24), .ref (N0 + 182), .ref (N0 + 187), .ref (N0 + 208), .ref (N0 + 209), .ref (N0 + 210), .ref (N0 + 211), .ref (N0 + 212), .int 0, .ref (N0 + 213), .ref (N0 + 218), .ref (N0 + 223), .ref (N0 + 224), .ref (N0 + 225), .ref (N0 + 226), .ref (N0 + 227), .int 0, .int 0, .ref (N0 + 228), .null, .int (-1), .int 0, .int 0, .int 0]))) n H locs := hG.weak (fun a e h => by
    rcases fu_cases h with ⟨rfl, he⟩ | ⟨hne0, h⟩
    · cases he; exact fu_s
    · exact (fu_at (by omega) (fu_at (by omega) h)))
  exact fx_iret S hr hlocks () hG (rfl) dX10_setLabel_23
theorem k301_X5_countLabel {n : Nat} {c3 : Int32} (hn : N0 + 231 ≤ n) (h0 : F (N0 + 150) = some (.inr (7, [.ref (N0 + 151), .ref (N0 + 152), .ref (N0 + 153), .ref (N0 + 154), .ref (N0 + 155), .ref (N0 + 156), .int 1]))) (h1 : F (N0 + 151) = some (.inl (cC, 20, .inl (upd (upd (fun _ => 0) 0 97) 0 c3)))) : Met l yX5_countLabel wsX5_countLabel ({ frames := 0, cells := 0, slots := 0, locals := 0 }) (va_Pc [.ref (N0 + 150), .int c3] (fP N0 D vwCl (fty cI cC cL cD cII cTr cTm cIt cB) (fen ql) F n)) (fQi N0 D vwCl (fty cI cC cL cD cII cTr cTm cIt cB) (fun (r : Int32) (_ : Unit) => r = 1) (fun _ => F) (fun _ => n)) 0 0 (fA N0) := by
  refine fx_start 4 rfl rfl (Nat.le_of_ble_eq_true rfl) ?_ rfl
  intro p e s m below meth c ls S hr hlocks hin hG hl
  have hl : lv_has ls 4 [(0, .ref (N0 + 150)), (1, .int c3)] := hl
  have lt_h0 := hG.1.lt h0
  have lt_h1 := hG.1.lt h1
  refine lv_iconst (v := 0) S.1 S.2.1 dX5_countLabel_0 (by decide) ?_
  refine lv_istore_n (lv' := [(2, .int 0), (0, .ref (N0 + 150)), (1, .int c3)]) S.1 S.2.1 dX5_countLabel_1 rfl hl (by decide) rfl (fun ls hl => ?_)
  refine lv_iconst (v := 0) S.1 S.2.1 dX5_countLabel_2 (by decide) ?_
  refine lv_istore_n (lv' := [(3, .int 0), (2, .int 0), (0, .ref (N0 + 150)), (1, .int c3)]) S.1 S.2.1 dX5_countLabel_3 rfl hl (by decide) rfl (fun ls hl => ?_)
  refine lv_iload_n S.1 S.2.1 dX5_countLabel_4 rfl (lv_at hl 0 rfl) ?_
  refine lv_aload_n S.1 S.2.1 dX5_countLabel_5 rfl (lv_at hl 2 rfl) ?_
  refine gx_get (C := RX5) (T := TX5) (N := 7) S hG h0 i_X5_countLabel_X5 rfl 6 (by decide) (by decide +kernel) rfl dX5_countLabel_6 ?_
  refine lv_icmp_ge (tgt := 31) S.1 S.2.1 dX5_countLabel_9 (by decide) (fun c => absurd c (by decide)) (fun _ => ?_)
  refine lv_aload_n S.1 S.2.1 dX5_countLabel_12 rfl (lv_at hl 2 rfl) ?_
  refine gx_get (C := RX5) (T := TX5) (N := 7) S hG h0 i_X5_countLabel_X5 rfl 0 (by decide) (by decide +kernel) rfl dX5_countLabel_13 ?_
  refine lv_iload_n S.1 S.2.1 dX5_countLabel_16 rfl (lv_at hl 0 rfl) ?_
  refine gx_cald (v := c3) S hG 1 h1 rfl (fin_l (by decide)) (rfl) dX5_countLabel_17 ?_
  refine lv_iload_n S.1 S.2.1 dX5_countLabel_18 rfl (lv_at hl 3 rfl) ?_
  refine lv_icmp_ne (tgt := 25) S.1 S.2.1 dX5_countLabel_19 (by decide) (fun c => absurd (rfl) c) (fun _ => ?_)
  refine lv_iinc (v := 1) (lv' := [(2, .int 1), (3, .int 0), (0, .ref (N0 + 150)), (1, .int c3)]) S.1 S.2.1 dX5_countLabel_22 hl (k := 1) rfl (by decide) (by decide) rfl (fun ls hl => ?_)
  refine lv_iinc (v := 1) (lv' := [(3, .int 1), (2, .int 1), (0, .ref (N0 + 150)), (1, .int c3)]) S.1 S.2.1 dX5_countLabel_25 hl (k := 1) rfl (by decide) (by decide) rfl (fun ls hl => ?_)
  refine lv_goto (tgt := 4) S.1 S.2.1 dX5_countLabel_28 (by decide) ?_
  refine lv_iload_n S.1 S.2.1 dX5_countLabel_4 rfl (lv_at hl 0 rfl) ?_
  refine lv_aload_n S.1 S.2.1 dX5_countLabel_5 rfl (lv_at hl 2 rfl) ?_
  refine gx_get (C := RX5) (T := TX5) (N := 7) S hG h0 i_X5_countLabel_X5 rfl 6 (by decide) (by decide +kernel) rfl dX5_countLabel_6 ?_
  refine lv_icmp_ge (tgt := 31) S.1 S.2.1 dX5_countLabel_9 (by decide) (fun _ => ?_) (fun c => absurd (by decide) c)
  refine lv_iload_n S.1 S.2.1 dX5_countLabel_31 rfl (lv_at hl 1 rfl) ?_
  exact fx_iret S hr hlocks () hG (rfl) dX5_countLabel_32
theorem k302_X7_setLabel {n : Nat} {c3 : Int32} (g_c3_ge_97 : 97 ≤ c3) (g_c3_le_122 : c3 ≤ 122) (hv3 : vp_nar .char c3 = c3) (hn : N0 + 231 ≤ n) (h0 : F N0 = some (.inr (9, [.ref (N0 + 1), .ref (N0 + 2), .ref (N0 + 11), .ref (N0 + 13), .ref (N0 + 63), .ref (N0 + 65), .ref (N0 + 85), .int (-1), .int (-1), .int 32]))) (h1 : F (N0 + 1) = some (.inl (cTr, 3, .inr (.inr (.inr (.inr (va_up (va_up (va_up (fun _ => none) 0 (some (N0 + 143))) 1 (some (N0 + 150))) 2 (some (N0 + 157))))))))) (h2 : F (N0 + 150) = some (.inr (7, [.ref (N0 + 151), .ref (N0 + 152), .ref (N0 + 153), .ref (N0 + 154), .ref (N0 + 155), .ref (N0 + 156), .int 1]))) (h3 : F (N0 + 151) = some (.inl (cC, 20, .inl (upd (fun _ => 0) 0 97)))) : Met l yX7_setLabel wsX7_setLabel ({ frames := 2, cells := 0, slots := 0, locals := 44 }) (va_Pc [.ref N0, .int 1, .int 0, .int c3] (fP N0 D vwCl (fty cI cC cL cD cII cTr cTm cIt cB) (fen ql) F n)) (fQi N0 D vwCl (fty cI cC cL cD cII cTr cTm cIt cB) (fun (r : Int32) (_ : Unit) => r = 1) (fun _ => (fu F (N0 + 151) (.inl (cC, 20, .inl (upd (upd (fun _ => 0) 0 97) 0 c3))))) (fun _ => n)) 0 0 (fA N0) := by
  refine fx_start 5 rfl rfl (Nat.le_of_ble_eq_true rfl) ?_ rfl
  intro p e s m below meth c ls S hr hlocks hin hG hl
  have hl : lv_has ls 5 [(0, .ref N0), (1, .int 1), (2, .int 0), (3, .int c3)] := hl
  have lt_h0 := hG.1.lt h0
  have lt_h1 := hG.1.lt h1
  have lt_h2 := hG.1.lt h2
  have lt_h3 := hG.1.lt h3
  refine lv_aload_n S.1 S.2.1 dX7_setLabel_0 rfl (lv_at hl 0 rfl) ?_
  refine lv_iload_n S.1 S.2.1 dX7_setLabel_1 rfl (lv_at hl 1 rfl) ?_
  refine lv_iload_n S.1 S.2.1 dX7_setLabel_2 rfl (lv_at hl 2 rfl) ?_
  refine fx_cVr (As := [.int 1, .int 0]) (rest := []) S hG (k145_X7_treeWith (by omega) h0 h1 h2) h0 rfl (cwV 2 S.2.2.2.2 gX7_setLabel_X7_treeWith rfl rfl rfl (by decide +kernel) ⟨Nat.le_of_ble_eq_true rfl, Nat.le_of_ble_eq_true rfl⟩) rfl hl.1 rfl (Nat.le_of_ble_eq_true rfl) dX7_setLabel_3 ⟨Nat.le_of_ble_eq_true rfl, Nat.le_of_ble_eq_true rfl⟩ (fun rv_1 _ H locs hp hG => ?_)
  subst rv_1
  refine lv_astore (lv' := [(4, .ref (N0 + 150)), (0, .ref N0), (1, .int 1), (2, .int 0), (3, .int c3)]) S.1 S.2.1 dX7_setLabel_6 hl (by decide) rfl (fun ls hl => ?_)
  refine lv_aload_n S.1 S.2.1 dX7_setLabel_8 rfl (lv_at hl 1 rfl) ?_
  refine lv_iload_n S.1 S.2.1 dX7_setLabel_9 rfl (lv_at hl 4 rfl) ?_
  refine fx_cVv (As := [.int c3]) (rest := []) S hG (k278_X7_needLabel g_c3_ge_97 g_c3_le_122 (by omega)) h0 rfl (cwV 1 S.2.2.2.2 gX7_setLabel_X7_needLabel rfl rfl rfl (by decide +kernel) ⟨Nat.le_of_ble_eq_true rfl, Nat.le_of_ble_eq_true rfl⟩) rfl hl.1 rfl (Nat.le_of_ble_eq_true rfl) dX7_setLabel_10 ⟨Nat.le_of_ble_eq_true rfl, Nat.le_of_ble_eq_true rfl⟩ (fun _ H locs hp hG => ?_)
  refine lv_aload S.1 S.2.1 dX7_setLabel_13 (lv_at hl 0 rfl) ?_
  refine gx_get (C := RX5) (T := TX5) (N := 7) S hG h2 i_X7_setLabel_X5 rfl 0 (by decide) (by decide +kernel) rfl dX7_setLabel_15 ?_
  refine lv_iload_n S.1 S.2.1 dX7_setLabel_18 rfl (lv_at hl 3 rfl) ?_
  refine lv_iload_n S.1 S.2.1 dX7_setLabel_19 rfl (lv_at hl 4 rfl) ?_
  refine gx_cast (f' := upd (upd (fun _ => 0) 0 97) 0 c3) S hG 1 h3 rfl (fin_l (by decide)) dX7_setLabel_20 (by rw [hv3]; rfl) (fun H locs hG => ?_)
  refine lv_aload S.1 S.2.1 dX7_setLabel_21 (lv_at hl 0 rfl) ?_
  refine lv_iload_n S.1 S.2.1 dX7_setLabel_23 rfl (lv_at hl 4 rfl) ?_
  refine fx_cVi (As := [.int c3]) (rest := []) S hG (k301_X5_countLabel (by omega) (fu_at (by omega) h2) fu_s) (fu_at (by omega) h2) rfl (cwV 1 S.2.2.2.2 gX7_setLabel_X5_countLabel rfl rfl rfl (by decide +kernel) ⟨Nat.le_of_ble_eq_true rfl, Nat.le_of_ble_eq_true rfl⟩) rfl hl.1 rfl (Nat.le_of_ble_eq_true rfl) dX7_setLabel_24 ⟨Nat.le_of_ble_eq_true rfl, Nat.le_of_ble_eq_true rfl⟩ (fun rv_3 _ H locs hp hG => ?_)
  subst rv_3
  exact fx_iret S hr hlocks () hG (rfl) dX7_setLabel_27
theorem k303_L_setLabel {n : Nat} {c3 : Int32} (g_c3_ge_97 : 97 ≤ c3) (g_c3_le_122 : c3 ≤ 122) (hv3 : vp_nar .char c3 = c3) (hn : N0 + 231 ≤ n) (h0 : F N0 = some (.inr (9, [.ref (N0 + 1), .ref (N0 + 2), .ref (N0 + 11), .ref (N0 + 13), .ref (N0 + 63), .ref (N0 + 65), .ref (N0 + 85), .int (-1), .int (-1), .int 32]))) (h1 : F (N0 + 1) = some (.inl (cTr, 3, .inr (.inr (.inr (.inr (va_up (va_up (va_up (fun _ => none) 0 (some (N0 + 143))) 1 (some (N0 + 150))) 2 (some (N0 + 157))))))))) (h2 : F (N0 + 150) = some (.inr (7, [.ref (N0 + 151), .ref (N0 + 152), .ref (N0 + 153), .ref (N0 + 154), .ref (N0 + 155), .ref (N0 + 156), .int 1]))) (h3 : F (N0 + 151) = some (.inl (cC, 20, .inl (upd (fun _ => 0) 0 97)))) (h4 : F (N0 + 229) = some (.inl (cL, 1, .inr (.inl (fun _ => 0))))) : Met l yL_setLabel wsL_setLabel ({ frames := 3, cells := 0, slots := 0, locals := 68 }) (va_Pc [.ref N0, .int 1, .int 0, .int c3, .ref (N0 + 229)] (fP N0 D vwCl (fty cI cC cL cD cII cTr cTm cIt cB) (fen ql) F n)) (fQi N0 D vwCl (fty cI cC cL cD cII cTr cTm cIt cB) (fun (r : Int32) (_ : Unit) => r = 0) (fun _ => (fu (fu F (N0 + 151) (.inl (cC, 20, .inl (upd (upd (fun _ => 0) 0 97) 0 c3)))) (N0 + 229) (.inl (cL, 1, .inr (.inl (vp_updL (fun _ => 0) 0 1)))))) (fun _ => n)) 0 0 (fA N0) := by
  refine fx_startW (hh := [(0, 12, 15, 19), (0, 12, 19, 21)]) 6 rfl rfl (Nat.le_of_ble_eq_true rfl) ?_ rfl
  intro p e s m below meth c ls S htab hr hlocks hG hl
  have hl : lv_has ls 6 [(0, .ref N0), (1, .int 1), (2, .int 0), (3, .int c3), (4, .ref (N0 + 229))] := hl
  have lt_h0 := hG.1.lt h0
  have lt_h1 := hG.1.lt h1
  have lt_h2 := hG.1.lt h2
  have lt_h3 := hG.1.lt h3
  have lt_h4 := hG.1.lt h4
  refine lv_aload S.1 S.2.1 dL_setLabel_0 (lv_at hl 4 rfl) ?_
  refine lv_iconst (v := 0) S.1 S.2.1 dL_setLabel_2 (by decide) ?_
  refine lv_aload_n S.1 S.2.1 dL_setLabel_3 rfl (lv_at hl 0 rfl) ?_
  refine lv_iload_n S.1 S.2.1 dL_setLabel_4 rfl (lv_at hl 1 rfl) ?_
  refine lv_iload_n S.1 S.2.1 dL_setLabel_5 rfl (lv_at hl 2 rfl) ?_
  refine lv_iload_n S.1 S.2.1 dL_setLabel_6 rfl (lv_at hl 3 rfl) ?_
  refine fx_cVi (As := [.int 1, .int 0, .int c3]) (rest := [.int 0, .ref (N0 + 229)]) S hG (k302_X7_setLabel g_c3_ge_97 g_c3_le_122 hv3 (by omega) h0 h1 h2 h3) h0 rfl (cwV 3 S.2.2.2.2 gL_setLabel_X7_setLabel rfl rfl rfl (by decide +kernel) ⟨Nat.le_of_ble_eq_true rfl, Nat.le_of_ble_eq_true rfl⟩) rfl hl.1 rfl (Nat.le_of_ble_eq_true rfl) dL_setLabel_7 ⟨Nat.le_of_ble_eq_true rfl, Nat.le_of_ble_eq_true rfl⟩ (fun rv_1 _ H locs hp hG => ?_)
  subst rv_1
  refine lv_i2l (v := 1) S.1 S.2.1 dL_setLabel_10 (by decide) ?_
  refine gx_last (f' := vp_updL (fun _ => 0) 0 1) S hG 2 (fu_at (by omega) h4) rfl (fin_l (by decide)) dL_setLabel_11 rfl (fun H locs hG => ?_)
  refine lv_goto (tgt := 23) S.1 S.2.1 dL_setLabel_12 (by decide) ?_
  refine lv_iconst (v := 0) S.1 S.2.1 dL_setLabel_23 (by decide) ?_
  exact fx_iret S hr hlocks () hG (rfl) dL_setLabel_24
theorem k304_X10_setLabel {n : Nat} {c3 : Int32} (g_c3_ge_97 : 97 ≤ c3) (g_c3_le_122 : c3 ≤ 122) (hn : N0 + 231 ≤ n) (h0 : F (N0 + 164) = some (.inr (12, [.ref (N0 + 165), .int 0, .ref (N0 + 181), .int 0, .int 0, .int 0, .int (-1), .ref (ql 24), .ref (N0 + 182), .ref (N0 + 187), .ref (N0 + 208), .ref (N0 + 209), .ref (N0 + 210), .ref (N0 + 211), .ref (N0 + 212), .int 0, .ref (N0 + 213), .ref (N0 + 218), .ref (N0 + 223), .ref (N0 + 224), .ref (N0 + 225), .ref (N0 + 226), .ref (N0 + 227), .int 0, .int 0, .ref (N0 + 228), .null, .int (-1), .int 0, .int 0, .int 0]))) (h1 : F (N0 + 165) = some (.inl (cTm, 3, .inr (.inr (.inr (.inr (va_up (va_up (va_up (fun _ => none) 0 (some (N0 + 166))) 1 (some (N0 + 171))) 2 (some (N0 + 176))))))))) (h2 : F (N0 + 171) = some (.inr (11, [.ref (N0 + 172), .ref (N0 + 173), .ref (N0 + 174), .ref (N0 + 175), .int 1]))) (h3 : F (N0 + 172) = some (.inl (cI, 20, .inl (upd (fun _ => 0) 0 97)))) : Met l yX10_setLabel wsX10_setLabel ({ frames := 4, cells := 0, slots := 0, locals := 86 }) (va_Pc [.ref (N0 + 164), .int 1, .int 0, .int c3] (fP N0 D vwCl (fty cI cC cL cD cII cTr cTm cIt cB) (fen ql) F n)) (fQi N0 D vwCl (fty cI cC cL cD cII cTr cTm cIt cB) (fun (r : Int32) (_ : Unit) => r = 1) (fun _ => (fu (fu F (N0 + 164) (.inr (12, [.ref (N0 + 165), .int 0, .ref (N0 + 181), .int 0, .int 0, .int 0, .int (-1), .ref (ql 24), .ref (N0 + 182), .ref (N0 + 187), .ref (N0 + 208), .ref (N0 + 209), .ref (N0 + 210), .ref (N0 + 211), .ref (N0 + 212), .int 0, .ref (N0 + 213), .ref (N0 + 218), .ref (N0 + 223), .ref (N0 + 224), .ref (N0 + 225), .ref (N0 + 226), .ref (N0 + 227), .int 0, .int 0, .ref (N0 + 228), .null, .int (-1), .int 0, .int 0, .int 0]))) (N0 + 172) (.inl (cI, 20, .inl (upd (upd (fun _ => 0) 0 97) 0 c3))))) (fun _ => n)) 0 0 (fA N0) := by
  refine fx_start 7 rfl rfl (Nat.le_of_ble_eq_true rfl) ?_ rfl
  intro p e s m below meth c ls S hr hlocks hin hG hl
  have hl : lv_has ls 7 [(0, .ref (N0 + 164)), (1, .int 1), (2, .int 0), (3, .int c3)] := hl
  have lt_h0 := hG.1.lt h0
  have lt_h1 := hG.1.lt h1
  have lt_h2 := hG.1.lt h2
  have lt_h3 := hG.1.lt h3
  refine lv_aload_n S.1 S.2.1 dX10_setLabel_0 rfl (lv_at hl 0 rfl) ?_
  refine lv_iload_n S.1 S.2.1 dX10_setLabel_1 rfl (lv_at hl 1 rfl) ?_
  refine lv_iload_n S.1 S.2.1 dX10_setLabel_2 rfl (lv_at hl 2 rfl) ?_
  refine fx_cVi (As := [.int 1, .int 0]) (rest := []) S hG (k149_X10_isNowhere (by omega) h0 h1 h2) h0 rfl (cwV 2 S.2.2.2.2 gX10_setLabel_X10_isNowhere rfl rfl rfl (by decide +kernel) ⟨Nat.le_of_ble_eq_true rfl, Nat.le_of_ble_eq_true rfl⟩) rfl hl.1 rfl (Nat.le_of_ble_eq_true rfl) dX10_setLabel_3 ⟨Nat.le_of_ble_eq_true rfl, Nat.le_of_ble_eq_true rfl⟩ (fun rv_1 _ H locs hp hG => ?_)
  subst rv_1
  refine lv_if_eq (tgt := 11) S.1 S.2.1 dX10_setLabel_6 (by decide) (fun _ => ?_) (fun c => absurd (by decide) c)
  refine lv_iload_n S.1 S.2.1 dX10_setLabel_11 rfl (lv_at hl 3 rfl) ?_
  refine fx_cSi (As := [.int c3]) (rest := []) S hG (k283_X10_isLabel g_c3_ge_97 g_c3_le_122 (by omega)) (cwS 1 S.2.2.2.2 gX10_setLabel_X10_isLabel rfl rfl rfl (by decide +kernel) ⟨Nat.le_of_ble_eq_true rfl, Nat.le_of_ble_eq_true rfl⟩) rfl hl.1 rfl (Nat.le_of_ble_eq_true rfl) dX10_setLabel_12 ⟨Nat.le_of_ble_eq_true rfl, Nat.le_of_ble_eq_true rfl⟩ (fun rv_2 _ H locs hp hG => ?_)
  subst rv_2
  refine lv_if_ne (tgt := 24) S.1 S.2.1 dX10_setLabel_15 (by decide) (fun _ => ?_) (fun c => absurd c (by decide))
  refine lv_aload_n S.1 S.2.1 dX10_setLabel_24 rfl (lv_at hl 0 rfl) ?_
  refine gx_get (C := RX10) (T := TX10) (N := 31) S hG fu_s i_X10_setLabel_X10 rfl 0 (by decide) (by decide +kernel) rfl dX10_setLabel_25 ?_
  refine lv_iload_n S.1 S.2.1 dX10_setLabel_28 rfl (lv_at hl 1 rfl) ?_
  refine gx_aldq (x := (N0 + 171)) S hG 6 rfl (fu_at (by omega) h1) rfl (fin_l (by decide)) (rfl) dX10_setLabel_29 ?_
  refine lv_astore (lv' := [(4, .ref (N0 + 171)), (0, .ref (N0 + 164)), (1, .int 1), (2, .int 0), (3, .int c3)]) S.1 S.2.1 dX10_setLabel_30 hl (by decide) rfl (fun ls hl => ?_)
  refine lv_aload S.1 S.2.1 dX10_setLabel_32 (lv_at hl 0 rfl) ?_
  refine gx_getN (C := RX9) (T := TX9) (N := 5) S hG (fu_at (by omega) h2) i_X10_setLabel_X9 rfl 0 (by decide) (List.mem_of_getElem? (i := 1) rfl) rfl dX10_setLabel_34 ?_
  refine lv_iload_n S.1 S.2.1 dX10_setLabel_37 rfl (lv_at hl 3 rfl) ?_
  refine lv_iload_n S.1 S.2.1 dX10_setLabel_38 rfl (lv_at hl 4 rfl) ?_
  refine gx_iast (f' := upd (upd (fun _ => 0) 0 97) 0 c3) S hG 0 (fu_at (by omega) h3) rfl (fin_l (by decide)) dX10_setLabel_39 (rfl) (fun H locs hG => ?_)
  refine lv_iconst (v := 0) S.1 S.2.1 dX10_setLabel_40 (by decide) ?_
  refine lv_istore (lv' := [(5, .int 0), (4, .ref (N0 + 171)), (0, .ref (N0 + 164)), (1, .int 1), (2, .int 0), (3, .int c3)]) S.1 S.2.1 dX10_setLabel_41 hl (by decide) rfl (fun ls hl => ?_)
  refine lv_iconst (v := 0) S.1 S.2.1 dX10_setLabel_43 (by decide) ?_
  refine lv_istore (lv' := [(6, .int 0), (5, .int 0), (4, .ref (N0 + 171)), (0, .ref (N0 + 164)), (1, .int 1), (2, .int 0), (3, .int c3)]) S.1 S.2.1 dX10_setLabel_44 hl (by decide) rfl (fun ls hl => ?_)
  refine lv_iload S.1 S.2.1 dX10_setLabel_46 (lv_at hl 0 rfl) ?_
  refine lv_aload S.1 S.2.1 dX10_setLabel_48 (lv_at hl 2 rfl) ?_
  refine gx_getN (C := RX9) (T := TX9) (N := 5) S hG (fu_at (by omega) (fu_at (by omega) h2)) i_X10_setLabel_X9 rfl 4 (by decide) (List.mem_of_getElem? (i := 4) rfl) rfl dX10_setLabel_50 ?_
  refine lv_icmp_ge (tgt := 84) S.1 S.2.1 dX10_setLabel_53 (by decide) (fun c => absurd c (by decide)) (fun _ => ?_)
  refine lv_iload S.1 S.2.1 dX10_setLabel_56 (lv_at hl 1 rfl) ?_
  refine lv_aload S.1 S.2.1 dX10_setLabel_58 (lv_at hl 2 rfl) ?_
  refine gx_getN (C := RX9) (T := TX9) (N := 5) S hG (fu_at (by omega) (fu_at (by omega) h2)) i_X10_setLabel_X9 rfl 0 (by decide) (List.mem_of_getElem? (i := 1) rfl) rfl dX10_setLabel_60 ?_
  refine lv_iload S.1 S.2.1 dX10_setLabel_63 (lv_at hl 0 rfl) ?_
  refine gx_iald (v := c3) S hG 0 fu_s rfl (fin_l (by decide)) (rfl) dX10_setLabel_65 ?_
  refine lv_iload_n S.1 S.2.1 dX10_setLabel_66 rfl (lv_at hl 6 rfl) ?_
  refine lv_icmp_ne (tgt := 74) S.1 S.2.1 dX10_setLabel_67 (by decide) (fun c => absurd (rfl) c) (fun _ => ?_)
  refine lv_iconst (v := 1) S.1 S.2.1 dX10_setLabel_70 (by decide) ?_
  refine lv_goto (tgt := 75) S.1 S.2.1 dX10_setLabel_71 (by decide) ?_
  refine lv_iadd S.1 S.2.1 dX10_setLabel_75 ?_
  refine fx_topi (y := 1) (by decide) ?_
  refine lv_istore (lv' := [(5, .int 1), (6, .int 0), (4, .ref (N0 + 171)), (0, .ref (N0 + 164)), (1, .int 1), (2, .int 0), (3, .int c3)]) S.1 S.2.1 dX10_setLabel_76 hl (by decide) rfl (fun ls hl => ?_)
  refine lv_iinc (v := 1) (lv' := [(6, .int 1), (5, .int 1), (4, .ref (N0 + 171)), (0, .ref (N0 + 164)), (1, .int 1), (2, .int 0), (3, .int c3)]) S.1 S.2.1 dX10_setLabel_78 hl (k := 1) rfl (by decide) (by decide) rfl (fun ls hl => ?_)
  refine lv_goto (tgt := 46) S.1 S.2.1 dX10_setLabel_81 (by decide) ?_
  refine lv_iload S.1 S.2.1 dX10_setLabel_46 (lv_at hl 0 rfl) ?_
  refine lv_aload S.1 S.2.1 dX10_setLabel_48 (lv_at hl 2 rfl) ?_
  refine gx_getN (C := RX9) (T := TX9) (N := 5) S hG (fu_at (by omega) (fu_at (by omega) h2)) i_X10_setLabel_X9 rfl 4 (by decide) (List.mem_of_getElem? (i := 4) rfl) rfl dX10_setLabel_50 ?_
  refine lv_icmp_ge (tgt := 84) S.1 S.2.1 dX10_setLabel_53 (by decide) (fun _ => ?_) (fun c => absurd (by decide) c)
  refine lv_iload S.1 S.2.1 dX10_setLabel_84 (lv_at hl 1 rfl) ?_
  exact fx_iret S hr hlocks () hG (rfl) dX10_setLabel_86
theorem k305_X7_setLabel {n : Nat} {c3 : Int32} (g_c3_ge_123 : 123 ≤ c3) (hst : l.stackTraces = false) (hn : N0 + 231 ≤ n) (h0 : F N0 = some (.inr (9, [.ref (N0 + 1), .ref (N0 + 2), .ref (N0 + 11), .ref (N0 + 13), .ref (N0 + 63), .ref (N0 + 65), .ref (N0 + 85), .int (-1), .int (-1), .int 32]))) (h1 : F (N0 + 1) = some (.inl (cTr, 3, .inr (.inr (.inr (.inr (va_up (va_up (va_up (fun _ => none) 0 (some (N0 + 143))) 1 (some (N0 + 150))) 2 (some (N0 + 157))))))))) (h2 : F (N0 + 150) = some (.inr (7, [.ref (N0 + 151), .ref (N0 + 152), .ref (N0 + 153), .ref (N0 + 154), .ref (N0 + 155), .ref (N0 + 156), .int 1]))) : vx_Met l yX7_setLabel wsX7_setLabel ({ frames := 7, cells := 1, slots := 6, locals := 103 }) (va_Pc [.ref N0, .int 1, .int 0, .int c3] (fP N0 D vwCl (fty cI cC cL cD cII cTr cTm cIt cB) (fen ql) F n)) (fNo N0 D vwCl (fty cI cC cL cD cII cTr cTm cIt cB) F n) (fXC N0 D vwCl (fty cI cC cL cD cII cTr cTm cIt cB) "java/lang/IllegalArgumentException" F n) 1 6 (fA N0) := by
  refine fx_startX 5 rfl rfl (Nat.le_of_ble_eq_true rfl) ?_ rfl
  intro p e s m below meth c ls S htab hlocks hG hl
  have hl : lv_has ls 5 [(0, .ref N0), (1, .int 1), (2, .int 0), (3, .int c3)] := hl
  have lt_h0 := hG.1.lt h0
  have lt_h1 := hG.1.lt h1
  have lt_h2 := hG.1.lt h2
  refine lv_aload_n S.1 S.2.1 dX7_setLabel_0 rfl (lv_at hl 0 rfl) ?_
  refine lv_iload_n S.1 S.2.1 dX7_setLabel_1 rfl (lv_at hl 1 rfl) ?_
  refine lv_iload_n S.1 S.2.1 dX7_setLabel_2 rfl (lv_at hl 2 rfl) ?_
  refine fx_cVr (As := [.int 1, .int 0]) (rest := []) S hG (k145_X7_treeWith (by omega) h0 h1 h2) h0 rfl (cwV 2 S.2.2.2.2 gX7_setLabel_X7_treeWith rfl rfl rfl (by decide +kernel) ⟨Nat.le_of_ble_eq_true rfl, Nat.le_of_ble_eq_true rfl⟩) rfl hl.1 rfl (Nat.le_of_ble_eq_true rfl) dX7_setLabel_3 ⟨Nat.le_of_ble_eq_true rfl, Nat.le_of_ble_eq_true rfl⟩ (fun rv_1 _ H locs hp hG => ?_)
  subst rv_1
  refine lv_astore (lv' := [(4, .ref (N0 + 150)), (0, .ref N0), (1, .int 1), (2, .int 0), (3, .int c3)]) S.1 S.2.1 dX7_setLabel_6 hl (by decide) rfl (fun ls hl => ?_)
  refine lv_aload_n S.1 S.2.1 dX7_setLabel_8 rfl (lv_at hl 1 rfl) ?_
  refine lv_iload_n S.1 S.2.1 dX7_setLabel_9 rfl (lv_at hl 4 rfl) ?_
  refine fx_xV (As := [.int c3]) (rest := []) S hG (k286_X7_needLabel g_c3_ge_123 hst (by omega)) h0 rfl (cwV 1 S.2.2.2.2 gX7_setLabel_X7_needLabel rfl rfl rfl (by decide +kernel) ⟨Nat.le_of_ble_eq_true rfl, Nat.le_of_ble_eq_true rfl⟩) rfl hl.1 rfl (Nat.le_of_ble_eq_true rfl) dX7_setLabel_10 ⟨Nat.le_of_ble_eq_true rfl, Nat.le_of_ble_eq_true rfl⟩ (fun ceq_2 q_2 H locs n_3 hn_3 hG h1q_2 h2q_2 h3q_2 => ?_)
  exact fx_out htab hlocks hG (by omega) h1q_2 h2q_2 h3q_2 (by decide) (by decide)
theorem k306_L_setLabel {n : Nat} {c3 : Int32} (g_c3_ge_123 : 123 ≤ c3) (hst : l.stackTraces = false) (hn : N0 + 231 ≤ n) (h0 : F N0 = some (.inr (9, [.ref (N0 + 1), .ref (N0 + 2), .ref (N0 + 11), .ref (N0 + 13), .ref (N0 + 63), .ref (N0 + 65), .ref (N0 + 85), .int (-1), .int (-1), .int 32]))) (h1 : F (N0 + 1) = some (.inl (cTr, 3, .inr (.inr (.inr (.inr (va_up (va_up (va_up (fun _ => none) 0 (some (N0 + 143))) 1 (some (N0 + 150))) 2 (some (N0 + 157))))))))) (h2 : F (N0 + 150) = some (.inr (7, [.ref (N0 + 151), .ref (N0 + 152), .ref (N0 + 153), .ref (N0 + 154), .ref (N0 + 155), .ref (N0 + 156), .int 1]))) : Met l yL_setLabel wsL_setLabel ({ frames := 8, cells := 1, slots := 6, locals := 127 }) (va_Pc [.ref N0, .int 1, .int 0, .int c3, .ref (N0 + 229)] (fP N0 D vwCl (fty cI cC cL cD cII cTr cTm cIt cB) (fen ql) F n)) (fQi N0 D vwCl (fty cI cC cL cD cII cTr cTm cIt cB) (fun (r : Int32) (u : Nat) => r = 2 ∧ n ≤ u) (fun _ => F) (fun u => u)) 1 6 (fA N0) := by
  refine fx_startW (hh := [(0, 12, 15, 19), (0, 12, 19, 21)]) 6 rfl rfl (Nat.le_of_ble_eq_true rfl) ?_ rfl
  intro p e s m below meth c ls S htab hr hlocks hG hl
  have hl : lv_has ls 6 [(0, .ref N0), (1, .int 1), (2, .int 0), (3, .int c3), (4, .ref (N0 + 229))] := hl
  have lt_h0 := hG.1.lt h0
  have lt_h1 := hG.1.lt h1
  have lt_h2 := hG.1.lt h2
  refine lv_aload S.1 S.2.1 dL_setLabel_0 (lv_at hl 4 rfl) ?_
  refine lv_iconst (v := 0) S.1 S.2.1 dL_setLabel_2 (by decide) ?_
  refine lv_aload_n S.1 S.2.1 dL_setLabel_3 rfl (lv_at hl 0 rfl) ?_
  refine lv_iload_n S.1 S.2.1 dL_setLabel_4 rfl (lv_at hl 1 rfl) ?_
  refine lv_iload_n S.1 S.2.1 dL_setLabel_5 rfl (lv_at hl 2 rfl) ?_
  refine lv_iload_n S.1 S.2.1 dL_setLabel_6 rfl (lv_at hl 3 rfl) ?_
  refine fx_xV (As := [.int 1, .int 0, .int c3]) (rest := [.int 0, .ref (N0 + 229)]) S hG (k305_X7_setLabel g_c3_ge_123 hst (by omega) h0 h1 h2) h0 rfl (cwV 3 S.2.2.2.2 gL_setLabel_X7_setLabel rfl rfl rfl (by decide +kernel) ⟨Nat.le_of_ble_eq_true rfl, Nat.le_of_ble_eq_true rfl⟩) rfl hl.1 rfl (Nat.le_of_ble_eq_true rfl) dL_setLabel_7 ⟨Nat.le_of_ble_eq_true rfl, Nat.le_of_ble_eq_true rfl⟩ (fun ceq_1 q_1 H locs n_2 hn_2 hG h1q_1 h2q_1 h3q_1 => ?_)
  refine fx_catch (hh := [(0, 12, 15, 19), (0, 12, 19, 21)]) S htab hG h1q_1 h2q_1 h3q_1 [⟨0, 12, 15, 19⟩] ⟨0, 12, 19, 21⟩ [] rfl [] (fun z hz => by
    simp only [List.mem_cons, List.not_mem_nil, or_false] at hz
    rcases hz with rfl
    · exact ⟨by decide, "java/lang/IndexOutOfBoundsException", by decide +kernel, List.mem_of_getElem? (i := 5) rfl⟩) (by decide) (by decide) (by decide +kernel) (List.mem_of_getElem? (i := 1) rfl) ?_
  refine lv_astore (lv' := [(5, .ref q_1), (0, .ref N0), (1, .int 1), (2, .int 0), (3, .int c3), (4, .ref (N0 + 229))]) S.1 S.2.1 dL_setLabel_19 hl (by decide) rfl (fun ls hl => ?_)
  refine lv_iconst (v := 2) S.1 S.2.1 dL_setLabel_21 (by decide) ?_
  exact fx_iret S hr hlocks n_2 hG (⟨rfl, hn_2⟩) dL_setLabel_22
theorem k307_X10_setLabel {n : Nat} {c3 : Int32} (g_c3_ge_123 : 123 ≤ c3) (hn : N0 + 231 ≤ n) (h0 : F (N0 + 164) = some (.inr (12, [.ref (N0 + 165), .int 0, .ref (N0 + 181), .int 0, .int 0, .int 0, .int (-1), .ref (ql 24), .ref (N0 + 182), .ref (N0 + 187), .ref (N0 + 208), .ref (N0 + 209), .ref (N0 + 210), .ref (N0 + 211), .ref (N0 + 212), .int 0, .ref (N0 + 213), .ref (N0 + 218), .ref (N0 + 223), .ref (N0 + 224), .ref (N0 + 225), .ref (N0 + 226), .ref (N0 + 227), .int 0, .int 0, .ref (N0 + 228), .null, .int (-1), .int 0, .int 0, .int 0]))) (h1 : F (N0 + 165) = some (.inl (cTm, 3, .inr (.inr (.inr (.inr (va_up (va_up (va_up (fun _ => none) 0 (some (N0 + 166))) 1 (some (N0 + 171))) 2 (some (N0 + 176))))))))) (h2 : F (N0 + 171) = some (.inr (11, [.ref (N0 + 172), .ref (N0 + 173), .ref (N0 + 174), .ref (N0 + 175), .int 1]))) : Met l yX10_setLabel wsX10_setLabel ({ frames := 4, cells := 0, slots := 0, locals := 86 }) (va_Pc [.ref (N0 + 164), .int 1, .int 0, .int c3] (fP N0 D vwCl (fty cI cC cL cD cII cTr cTm cIt cB) (fen ql) F n)) (fQi N0 D vwCl (fty cI cC cL cD cII cTr cTm cIt cB) (fun (r : Int32) (_ : Unit) => r = 0) (fun _ => (fu F (N0 + 164) (.inr (12, [.ref (N0 + 165), .int 2, .ref (N0 + 181), .int 0, .int 0, .int 0, .int (-1), .ref (ql 24), .ref (N0 + 182), .ref (N0 + 187), .ref (N0 + 208), .ref (N0 + 209), .ref (N0 + 210), .ref (N0 + 211), .ref (N0 + 212), .int 0, .ref (N0 + 213), .ref (N0 + 218), .ref (N0 + 223), .ref (N0 + 224), .ref (N0 + 225), .ref (N0 + 226), .ref (N0 + 227), .int 0, .int 0, .ref (N0 + 228), .null, .int (-1), .int 0, .int 0, .int 0])))) (fun _ => n)) 0 0 (fA N0) := by
  refine fx_start 7 rfl rfl (Nat.le_of_ble_eq_true rfl) ?_ rfl
  intro p e s m below meth c ls S hr hlocks hin hG hl
  have hl : lv_has ls 7 [(0, .ref (N0 + 164)), (1, .int 1), (2, .int 0), (3, .int c3)] := hl
  have lt_h0 := hG.1.lt h0
  have lt_h1 := hG.1.lt h1
  have lt_h2 := hG.1.lt h2
  refine lv_aload_n S.1 S.2.1 dX10_setLabel_0 rfl (lv_at hl 0 rfl) ?_
  refine lv_iload_n S.1 S.2.1 dX10_setLabel_1 rfl (lv_at hl 1 rfl) ?_
  refine lv_iload_n S.1 S.2.1 dX10_setLabel_2 rfl (lv_at hl 2 rfl) ?_
  refine fx_cVi (As := [.int 1, .int 0]) (rest := []) S hG (k149_X10_isNowhere (by omega) h0 h1 h2) h0 rfl (cwV 2 S.2.2.2.2 gX10_setLabel_X10_isNowhere rfl rfl rfl (by decide +kernel) ⟨Nat.le_of_ble_eq_true rfl, Nat.le_of_ble_eq_true rfl⟩) rfl hl.1 rfl (Nat.le_of_ble_eq_true rfl) dX10_setLabel_3 ⟨Nat.le_of_ble_eq_true rfl, Nat.le_of_ble_eq_true rfl⟩ (fun rv_1 _ H locs hp hG => ?_)
  subst rv_1
  refine lv_if_eq (tgt := 11) S.1 S.2.1 dX10_setLabel_6 (by decide) (fun _ => ?_) (fun c => absurd (by decide) c)
  refine lv_iload_n S.1 S.2.1 dX10_setLabel_11 rfl (lv_at hl 3 rfl) ?_
  refine fx_cSi (As := [.int c3]) (rest := []) S hG (k290_X10_isLabel g_c3_ge_123 (by omega)) (cwS 1 S.2.2.2.2 gX10_setLabel_X10_isLabel rfl rfl rfl (by decide +kernel) ⟨Nat.le_of_ble_eq_true rfl, Nat.le_of_ble_eq_true rfl⟩) rfl hl.1 rfl (Nat.le_of_ble_eq_true rfl) dX10_setLabel_12 ⟨Nat.le_of_ble_eq_true rfl, Nat.le_of_ble_eq_true rfl⟩ (fun rv_2 _ H locs hp hG => ?_)
  subst rv_2
  refine lv_if_ne (tgt := 24) S.1 S.2.1 dX10_setLabel_15 (by decide) (fun c => absurd (by decide) c) (fun _ => ?_)
  refine lv_aload_n S.1 S.2.1 dX10_setLabel_18 rfl (lv_at hl 0 rfl) ?_
  refine lv_iconst (v := 2) S.1 S.2.1 dX10_setLabel_19 (by decide) ?_
  refine fx_cVi (As := [.int 2]) (rest := []) S hG (k99_X10_fails (by omega) fu_s) fu_s rfl (cwV 1 S.2.2.2.2 gX10_setLabel_X10_fails rfl rfl rfl (by decide +kernel) ⟨Nat.le_of_ble_eq_true rfl, Nat.le_of_ble_eq_true rfl⟩) rfl hl.1 rfl (Nat.le_of_ble_eq_true rfl) dX10_setLabel_20 ⟨Nat.le_of_ble_eq_true rfl, Nat.le_of_ble_eq_true rfl⟩ (fun rv_3 _ H locs hp hG => ?_)
  subst rv_3
  have hG : fG N0 D vwCl (fty cI cC cL cD cII cTr cTm cIt cB) (fen ql) s (fu F (N0 + 164) (.inr (12, [.ref (N0 + 165), .int 2, .ref (N0 + 181), .int 0, .int 0, .int 0, .int (-1), .ref (ql 24), .ref (N0 + 182), .ref (N0 + 187), .ref (N0 + 208), .ref (N0 + 209), .ref (N0 + 210), .ref (N0 + 211), .ref (N0 + 212), .int 0, .ref (N0 + 213), .ref (N0 + 218), .ref (N0 + 223), .ref (N0 + 224), .ref (N0 + 225), .ref (N0 + 226), .ref (N0 + 227), .int 0, .int 0, .ref (N0 + 228), .null, .int (-1), .int 0, .int 0, .int 0]))) n H locs := hG.weak (fun a e h => by
    rcases fu_cases h with ⟨rfl, he⟩ | ⟨hne0, h⟩
    · cases he; exact fu_s
    · exact (fu_at (by omega) (fu_at (by omega) h)))
  exact fx_iret S hr hlocks () hG (rfl) dX10_setLabel_23
theorem k308_X7_setLabel {n : Nat} {a2 : Int32} {c3 : Int32} (g_a2_ge_1 : 1 ≤ a2) (hst : l.stackTraces = false) (hn : N0 + 231 ≤ n) (h0 : F N0 = some (.inr (9, [.ref (N0 + 1), .ref (N0 + 2), .ref (N0 + 11), .ref (N0 + 13), .ref (N0 + 63), .ref (N0 + 65), .ref (N0 + 85), .int (-1), .int (-1), .int 32]))) (h1 : F (N0 + 1) = some (.inl (cTr, 3, .inr (.inr (.inr (.inr (va_up (va_up (va_up (fun _ => none) 0 (some (N0 + 143))) 1 (some (N0 + 150))) 2 (some (N0 + 157))))))))) (h2 : F (N0 + 150) = some (.inr (7, [.ref (N0 + 151), .ref (N0 + 152), .ref (N0 + 153), .ref (N0 + 154), .ref (N0 + 155), .ref (N0 + 156), .int 1]))) : vx_Met l yX7_setLabel wsX7_setLabel ({ frames := 7, cells := 1, slots := 6, locals := 105 }) (va_Pc [.ref N0, .int 1, .int a2, .int c3] (fP N0 D vwCl (fty cI cC cL cD cII cTr cTm cIt cB) (fen ql) F n)) (fNo N0 D vwCl (fty cI cC cL cD cII cTr cTm cIt cB) F n) (fXC N0 D vwCl (fty cI cC cL cD cII cTr cTm cIt cB) "java/lang/IndexOutOfBoundsException" F n) 1 6 (fA N0) := by
  refine fx_startX 5 rfl rfl (Nat.le_of_ble_eq_true rfl) ?_ rfl
  intro p e s m below meth c ls S htab hlocks hG hl
  have hl : lv_has ls 5 [(0, .ref N0), (1, .int 1), (2, .int a2), (3, .int c3)] := hl
  have lt_h0 := hG.1.lt h0
  have lt_h1 := hG.1.lt h1
  have lt_h2 := hG.1.lt h2
  refine lv_aload_n S.1 S.2.1 dX7_setLabel_0 rfl (lv_at hl 0 rfl) ?_
  refine lv_iload_n S.1 S.2.1 dX7_setLabel_1 rfl (lv_at hl 1 rfl) ?_
  refine lv_iload_n S.1 S.2.1 dX7_setLabel_2 rfl (lv_at hl 2 rfl) ?_
  refine fx_xV (As := [.int 1, .int a2]) (rest := []) S hG (k175_X7_treeWith g_a2_ge_1 hst (by omega) h0 h1 h2) h0 rfl (cwV 2 S.2.2.2.2 gX7_setLabel_X7_treeWith rfl rfl rfl (by decide +kernel) ⟨Nat.le_of_ble_eq_true rfl, Nat.le_of_ble_eq_true rfl⟩) rfl hl.1 rfl (Nat.le_of_ble_eq_true rfl) dX7_setLabel_3 ⟨Nat.le_of_ble_eq_true rfl, Nat.le_of_ble_eq_true rfl⟩ (fun ceq_1 q_1 H locs n_2 hn_2 hG h1q_1 h2q_1 h3q_1 => ?_)
  exact fx_out htab hlocks hG (by omega) h1q_1 h2q_1 h3q_1 (by decide) (by decide)
theorem k309_L_setLabel {n : Nat} {a2 : Int32} {c3 : Int32} (g_a2_ge_1 : 1 ≤ a2) (hst : l.stackTraces = false) (hn : N0 + 231 ≤ n) (h0 : F N0 = some (.inr (9, [.ref (N0 + 1), .ref (N0 + 2), .ref (N0 + 11), .ref (N0 + 13), .ref (N0 + 63), .ref (N0 + 65), .ref (N0 + 85), .int (-1), .int (-1), .int 32]))) (h1 : F (N0 + 1) = some (.inl (cTr, 3, .inr (.inr (.inr (.inr (va_up (va_up (va_up (fun _ => none) 0 (some (N0 + 143))) 1 (some (N0 + 150))) 2 (some (N0 + 157))))))))) (h2 : F (N0 + 150) = some (.inr (7, [.ref (N0 + 151), .ref (N0 + 152), .ref (N0 + 153), .ref (N0 + 154), .ref (N0 + 155), .ref (N0 + 156), .int 1]))) : Met l yL_setLabel wsL_setLabel ({ frames := 8, cells := 1, slots := 6, locals := 129 }) (va_Pc [.ref N0, .int 1, .int a2, .int c3, .ref (N0 + 229)] (fP N0 D vwCl (fty cI cC cL cD cII cTr cTm cIt cB) (fen ql) F n)) (fQi N0 D vwCl (fty cI cC cL cD cII cTr cTm cIt cB) (fun (r : Int32) (u : Nat) => r = 1 ∧ n ≤ u) (fun _ => F) (fun u => u)) 1 6 (fA N0) := by
  refine fx_startW (hh := [(0, 12, 15, 19), (0, 12, 19, 21)]) 6 rfl rfl (Nat.le_of_ble_eq_true rfl) ?_ rfl
  intro p e s m below meth c ls S htab hr hlocks hG hl
  have hl : lv_has ls 6 [(0, .ref N0), (1, .int 1), (2, .int a2), (3, .int c3), (4, .ref (N0 + 229))] := hl
  have lt_h0 := hG.1.lt h0
  have lt_h1 := hG.1.lt h1
  have lt_h2 := hG.1.lt h2
  refine lv_aload S.1 S.2.1 dL_setLabel_0 (lv_at hl 4 rfl) ?_
  refine lv_iconst (v := 0) S.1 S.2.1 dL_setLabel_2 (by decide) ?_
  refine lv_aload_n S.1 S.2.1 dL_setLabel_3 rfl (lv_at hl 0 rfl) ?_
  refine lv_iload_n S.1 S.2.1 dL_setLabel_4 rfl (lv_at hl 1 rfl) ?_
  refine lv_iload_n S.1 S.2.1 dL_setLabel_5 rfl (lv_at hl 2 rfl) ?_
  refine lv_iload_n S.1 S.2.1 dL_setLabel_6 rfl (lv_at hl 3 rfl) ?_
  refine fx_xV (As := [.int 1, .int a2, .int c3]) (rest := [.int 0, .ref (N0 + 229)]) S hG (k308_X7_setLabel g_a2_ge_1 hst (by omega) h0 h1 h2) h0 rfl (cwV 3 S.2.2.2.2 gL_setLabel_X7_setLabel rfl rfl rfl (by decide +kernel) ⟨Nat.le_of_ble_eq_true rfl, Nat.le_of_ble_eq_true rfl⟩) rfl hl.1 rfl (Nat.le_of_ble_eq_true rfl) dL_setLabel_7 ⟨Nat.le_of_ble_eq_true rfl, Nat.le_of_ble_eq_true rfl⟩ (fun ceq_1 q_1 H locs n_2 hn_2 hG h1q_1 h2q_1 h3q_1 => ?_)
  refine fx_catch (hh := [(0, 12, 15, 19), (0, 12, 19, 21)]) S htab hG h1q_1 h2q_1 h3q_1 [] ⟨0, 12, 15, 19⟩ [⟨0, 12, 19, 21⟩] rfl [] (fun z hz => absurd hz List.not_mem_nil) (by decide) (by decide) (by decide +kernel) (List.mem_of_getElem? (i := 2) rfl) ?_
  refine lv_astore (lv' := [(5, .ref q_1), (0, .ref N0), (1, .int 1), (2, .int a2), (3, .int c3), (4, .ref (N0 + 229))]) S.1 S.2.1 dL_setLabel_15 hl (by decide) rfl (fun ls hl => ?_)
  refine lv_iconst (v := 1) S.1 S.2.1 dL_setLabel_17 (by decide) ?_
  exact fx_iret S hr hlocks n_2 hG (⟨rfl, hn_2⟩) dL_setLabel_18
theorem k310_X10_setLabel {n : Nat} {a2 : Int32} {c3 : Int32} (g_a2_ge_1 : 1 ≤ a2) (hn : N0 + 231 ≤ n) (h0 : F (N0 + 164) = some (.inr (12, [.ref (N0 + 165), .int 0, .ref (N0 + 181), .int 0, .int 0, .int 0, .int (-1), .ref (ql 24), .ref (N0 + 182), .ref (N0 + 187), .ref (N0 + 208), .ref (N0 + 209), .ref (N0 + 210), .ref (N0 + 211), .ref (N0 + 212), .int 0, .ref (N0 + 213), .ref (N0 + 218), .ref (N0 + 223), .ref (N0 + 224), .ref (N0 + 225), .ref (N0 + 226), .ref (N0 + 227), .int 0, .int 0, .ref (N0 + 228), .null, .int (-1), .int 0, .int 0, .int 0]))) (h1 : F (N0 + 165) = some (.inl (cTm, 3, .inr (.inr (.inr (.inr (va_up (va_up (va_up (fun _ => none) 0 (some (N0 + 166))) 1 (some (N0 + 171))) 2 (some (N0 + 176))))))))) (h2 : F (N0 + 171) = some (.inr (11, [.ref (N0 + 172), .ref (N0 + 173), .ref (N0 + 174), .ref (N0 + 175), .int 1]))) : Met l yX10_setLabel wsX10_setLabel ({ frames := 4, cells := 0, slots := 0, locals := 86 }) (va_Pc [.ref (N0 + 164), .int 1, .int a2, .int c3] (fP N0 D vwCl (fty cI cC cL cD cII cTr cTm cIt cB) (fen ql) F n)) (fQi N0 D vwCl (fty cI cC cL cD cII cTr cTm cIt cB) (fun (r : Int32) (_ : Unit) => r = 0) (fun _ => (fu F (N0 + 164) (.inr (12, [.ref (N0 + 165), .int 1, .ref (N0 + 181), .int 0, .int 0, .int 0, .int (-1), .ref (ql 24), .ref (N0 + 182), .ref (N0 + 187), .ref (N0 + 208), .ref (N0 + 209), .ref (N0 + 210), .ref (N0 + 211), .ref (N0 + 212), .int 0, .ref (N0 + 213), .ref (N0 + 218), .ref (N0 + 223), .ref (N0 + 224), .ref (N0 + 225), .ref (N0 + 226), .ref (N0 + 227), .int 0, .int 0, .ref (N0 + 228), .null, .int (-1), .int 0, .int 0, .int 0])))) (fun _ => n)) 0 0 (fA N0) := by
  refine fx_start 7 rfl rfl (Nat.le_of_ble_eq_true rfl) ?_ rfl
  intro p e s m below meth c ls S hr hlocks hin hG hl
  have hl : lv_has ls 7 [(0, .ref (N0 + 164)), (1, .int 1), (2, .int a2), (3, .int c3)] := hl
  have lt_h0 := hG.1.lt h0
  have lt_h1 := hG.1.lt h1
  have lt_h2 := hG.1.lt h2
  refine lv_aload_n S.1 S.2.1 dX10_setLabel_0 rfl (lv_at hl 0 rfl) ?_
  refine lv_iload_n S.1 S.2.1 dX10_setLabel_1 rfl (lv_at hl 1 rfl) ?_
  refine lv_iload_n S.1 S.2.1 dX10_setLabel_2 rfl (lv_at hl 2 rfl) ?_
  refine fx_cVi (As := [.int 1, .int a2]) (rest := []) S hG (k179_X10_isNowhere g_a2_ge_1 (by omega) h0 h1 h2) h0 rfl (cwV 2 S.2.2.2.2 gX10_setLabel_X10_isNowhere rfl rfl rfl (by decide +kernel) ⟨Nat.le_of_ble_eq_true rfl, Nat.le_of_ble_eq_true rfl⟩) rfl hl.1 rfl (Nat.le_of_ble_eq_true rfl) dX10_setLabel_3 ⟨Nat.le_of_ble_eq_true rfl, Nat.le_of_ble_eq_true rfl⟩ (fun rv_1 _ H locs hp hG => ?_)
  subst rv_1
  refine lv_if_eq (tgt := 11) S.1 S.2.1 dX10_setLabel_6 (by decide) (fun c => absurd c (by decide)) (fun _ => ?_)
  refine lv_iconst (v := 0) S.1 S.2.1 dX10_setLabel_9 (by decide) ?_
  exact fx_iret S hr hlocks () hG (rfl) dX10_setLabel_10
theorem k311_X7_setLabel {n : Nat} {a2 : Int32} {c3 : Int32} (g_a2_le_m1 : a2 ≤ (-1)) (hst : l.stackTraces = false) (hn : N0 + 231 ≤ n) (h0 : F N0 = some (.inr (9, [.ref (N0 + 1), .ref (N0 + 2), .ref (N0 + 11), .ref (N0 + 13), .ref (N0 + 63), .ref (N0 + 65), .ref (N0 + 85), .int (-1), .int (-1), .int 32]))) (h1 : F (N0 + 1) = some (.inl (cTr, 3, .inr (.inr (.inr (.inr (va_up (va_up (va_up (fun _ => none) 0 (some (N0 + 143))) 1 (some (N0 + 150))) 2 (some (N0 + 157))))))))) (h2 : F (N0 + 157) = some (.inr (7, [.ref (N0 + 158), .ref (N0 + 159), .ref (N0 + 160), .ref (N0 + 161), .ref (N0 + 162), .ref (N0 + 163), .int 1]))) : vx_Met l yX7_setLabel wsX7_setLabel ({ frames := 7, cells := 1, slots := 6, locals := 105 }) (va_Pc [.ref N0, .int 2, .int a2, .int c3] (fP N0 D vwCl (fty cI cC cL cD cII cTr cTm cIt cB) (fen ql) F n)) (fNo N0 D vwCl (fty cI cC cL cD cII cTr cTm cIt cB) F n) (fXC N0 D vwCl (fty cI cC cL cD cII cTr cTm cIt cB) "java/lang/IndexOutOfBoundsException" F n) 1 6 (fA N0) := by
  refine fx_startX 5 rfl rfl (Nat.le_of_ble_eq_true rfl) ?_ rfl
  intro p e s m below meth c ls S htab hlocks hG hl
  have hl : lv_has ls 5 [(0, .ref N0), (1, .int 2), (2, .int a2), (3, .int c3)] := hl
  have lt_h0 := hG.1.lt h0
  have lt_h1 := hG.1.lt h1
  have lt_h2 := hG.1.lt h2
  refine lv_aload_n S.1 S.2.1 dX7_setLabel_0 rfl (lv_at hl 0 rfl) ?_
  refine lv_iload_n S.1 S.2.1 dX7_setLabel_1 rfl (lv_at hl 1 rfl) ?_
  refine lv_iload_n S.1 S.2.1 dX7_setLabel_2 rfl (lv_at hl 2 rfl) ?_
  refine fx_xV (As := [.int 2, .int a2]) (rest := []) S hG (k182_X7_treeWith g_a2_le_m1 hst (by omega) h0 h1 h2) h0 rfl (cwV 2 S.2.2.2.2 gX7_setLabel_X7_treeWith rfl rfl rfl (by decide +kernel) ⟨Nat.le_of_ble_eq_true rfl, Nat.le_of_ble_eq_true rfl⟩) rfl hl.1 rfl (Nat.le_of_ble_eq_true rfl) dX7_setLabel_3 ⟨Nat.le_of_ble_eq_true rfl, Nat.le_of_ble_eq_true rfl⟩ (fun ceq_1 q_1 H locs n_2 hn_2 hG h1q_1 h2q_1 h3q_1 => ?_)
  exact fx_out htab hlocks hG (by omega) h1q_1 h2q_1 h3q_1 (by decide) (by decide)
theorem k312_L_setLabel {n : Nat} {a2 : Int32} {c3 : Int32} (g_a2_le_m1 : a2 ≤ (-1)) (hst : l.stackTraces = false) (hn : N0 + 231 ≤ n) (h0 : F N0 = some (.inr (9, [.ref (N0 + 1), .ref (N0 + 2), .ref (N0 + 11), .ref (N0 + 13), .ref (N0 + 63), .ref (N0 + 65), .ref (N0 + 85), .int (-1), .int (-1), .int 32]))) (h1 : F (N0 + 1) = some (.inl (cTr, 3, .inr (.inr (.inr (.inr (va_up (va_up (va_up (fun _ => none) 0 (some (N0 + 143))) 1 (some (N0 + 150))) 2 (some (N0 + 157))))))))) (h2 : F (N0 + 157) = some (.inr (7, [.ref (N0 + 158), .ref (N0 + 159), .ref (N0 + 160), .ref (N0 + 161), .ref (N0 + 162), .ref (N0 + 163), .int 1]))) : Met l yL_setLabel wsL_setLabel ({ frames := 8, cells := 1, slots := 6, locals := 129 }) (va_Pc [.ref N0, .int 2, .int a2, .int c3, .ref (N0 + 229)] (fP N0 D vwCl (fty cI cC cL cD cII cTr cTm cIt cB) (fen ql) F n)) (fQi N0 D vwCl (fty cI cC cL cD cII cTr cTm cIt cB) (fun (r : Int32) (u : Nat) => r = 1 ∧ n ≤ u) (fun _ => F) (fun u => u)) 1 6 (fA N0) := by
  refine fx_startW (hh := [(0, 12, 15, 19), (0, 12, 19, 21)]) 6 rfl rfl (Nat.le_of_ble_eq_true rfl) ?_ rfl
  intro p e s m below meth c ls S htab hr hlocks hG hl
  have hl : lv_has ls 6 [(0, .ref N0), (1, .int 2), (2, .int a2), (3, .int c3), (4, .ref (N0 + 229))] := hl
  have lt_h0 := hG.1.lt h0
  have lt_h1 := hG.1.lt h1
  have lt_h2 := hG.1.lt h2
  refine lv_aload S.1 S.2.1 dL_setLabel_0 (lv_at hl 4 rfl) ?_
  refine lv_iconst (v := 0) S.1 S.2.1 dL_setLabel_2 (by decide) ?_
  refine lv_aload_n S.1 S.2.1 dL_setLabel_3 rfl (lv_at hl 0 rfl) ?_
  refine lv_iload_n S.1 S.2.1 dL_setLabel_4 rfl (lv_at hl 1 rfl) ?_
  refine lv_iload_n S.1 S.2.1 dL_setLabel_5 rfl (lv_at hl 2 rfl) ?_
  refine lv_iload_n S.1 S.2.1 dL_setLabel_6 rfl (lv_at hl 3 rfl) ?_
  refine fx_xV (As := [.int 2, .int a2, .int c3]) (rest := [.int 0, .ref (N0 + 229)]) S hG (k311_X7_setLabel g_a2_le_m1 hst (by omega) h0 h1 h2) h0 rfl (cwV 3 S.2.2.2.2 gL_setLabel_X7_setLabel rfl rfl rfl (by decide +kernel) ⟨Nat.le_of_ble_eq_true rfl, Nat.le_of_ble_eq_true rfl⟩) rfl hl.1 rfl (Nat.le_of_ble_eq_true rfl) dL_setLabel_7 ⟨Nat.le_of_ble_eq_true rfl, Nat.le_of_ble_eq_true rfl⟩ (fun ceq_1 q_1 H locs n_2 hn_2 hG h1q_1 h2q_1 h3q_1 => ?_)
  refine fx_catch (hh := [(0, 12, 15, 19), (0, 12, 19, 21)]) S htab hG h1q_1 h2q_1 h3q_1 [] ⟨0, 12, 15, 19⟩ [⟨0, 12, 19, 21⟩] rfl [] (fun z hz => absurd hz List.not_mem_nil) (by decide) (by decide) (by decide +kernel) (List.mem_of_getElem? (i := 2) rfl) ?_
  refine lv_astore (lv' := [(5, .ref q_1), (0, .ref N0), (1, .int 2), (2, .int a2), (3, .int c3), (4, .ref (N0 + 229))]) S.1 S.2.1 dL_setLabel_15 hl (by decide) rfl (fun ls hl => ?_)
  refine lv_iconst (v := 1) S.1 S.2.1 dL_setLabel_17 (by decide) ?_
  exact fx_iret S hr hlocks n_2 hG (⟨rfl, hn_2⟩) dL_setLabel_18
theorem k313_X10_setLabel {n : Nat} {a2 : Int32} {c3 : Int32} (g_a2_le_m1 : a2 ≤ (-1)) (hn : N0 + 231 ≤ n) (h0 : F (N0 + 164) = some (.inr (12, [.ref (N0 + 165), .int 0, .ref (N0 + 181), .int 0, .int 0, .int 0, .int (-1), .ref (ql 24), .ref (N0 + 182), .ref (N0 + 187), .ref (N0 + 208), .ref (N0 + 209), .ref (N0 + 210), .ref (N0 + 211), .ref (N0 + 212), .int 0, .ref (N0 + 213), .ref (N0 + 218), .ref (N0 + 223), .ref (N0 + 224), .ref (N0 + 225), .ref (N0 + 226), .ref (N0 + 227), .int 0, .int 0, .ref (N0 + 228), .null, .int (-1), .int 0, .int 0, .int 0]))) (h1 : F (N0 + 165) = some (.inl (cTm, 3, .inr (.inr (.inr (.inr (va_up (va_up (va_up (fun _ => none) 0 (some (N0 + 166))) 1 (some (N0 + 171))) 2 (some (N0 + 176))))))))) (h2 : F (N0 + 176) = some (.inr (11, [.ref (N0 + 177), .ref (N0 + 178), .ref (N0 + 179), .ref (N0 + 180), .int 1]))) : Met l yX10_setLabel wsX10_setLabel ({ frames := 4, cells := 0, slots := 0, locals := 86 }) (va_Pc [.ref (N0 + 164), .int 2, .int a2, .int c3] (fP N0 D vwCl (fty cI cC cL cD cII cTr cTm cIt cB) (fen ql) F n)) (fQi N0 D vwCl (fty cI cC cL cD cII cTr cTm cIt cB) (fun (r : Int32) (_ : Unit) => r = 0) (fun _ => (fu F (N0 + 164) (.inr (12, [.ref (N0 + 165), .int 1, .ref (N0 + 181), .int 0, .int 0, .int 0, .int (-1), .ref (ql 24), .ref (N0 + 182), .ref (N0 + 187), .ref (N0 + 208), .ref (N0 + 209), .ref (N0 + 210), .ref (N0 + 211), .ref (N0 + 212), .int 0, .ref (N0 + 213), .ref (N0 + 218), .ref (N0 + 223), .ref (N0 + 224), .ref (N0 + 225), .ref (N0 + 226), .ref (N0 + 227), .int 0, .int 0, .ref (N0 + 228), .null, .int (-1), .int 0, .int 0, .int 0])))) (fun _ => n)) 0 0 (fA N0) := by
  refine fx_start 7 rfl rfl (Nat.le_of_ble_eq_true rfl) ?_ rfl
  intro p e s m below meth c ls S hr hlocks hin hG hl
  have hl : lv_has ls 7 [(0, .ref (N0 + 164)), (1, .int 2), (2, .int a2), (3, .int c3)] := hl
  have lt_h0 := hG.1.lt h0
  have lt_h1 := hG.1.lt h1
  have lt_h2 := hG.1.lt h2
  refine lv_aload_n S.1 S.2.1 dX10_setLabel_0 rfl (lv_at hl 0 rfl) ?_
  refine lv_iload_n S.1 S.2.1 dX10_setLabel_1 rfl (lv_at hl 1 rfl) ?_
  refine lv_iload_n S.1 S.2.1 dX10_setLabel_2 rfl (lv_at hl 2 rfl) ?_
  refine fx_cVi (As := [.int 2, .int a2]) (rest := []) S hG (k186_X10_isNowhere g_a2_le_m1 (by omega) h0 h1 h2) h0 rfl (cwV 2 S.2.2.2.2 gX10_setLabel_X10_isNowhere rfl rfl rfl (by decide +kernel) ⟨Nat.le_of_ble_eq_true rfl, Nat.le_of_ble_eq_true rfl⟩) rfl hl.1 rfl (Nat.le_of_ble_eq_true rfl) dX10_setLabel_3 ⟨Nat.le_of_ble_eq_true rfl, Nat.le_of_ble_eq_true rfl⟩ (fun rv_1 _ H locs hp hG => ?_)
  subst rv_1
  refine lv_if_eq (tgt := 11) S.1 S.2.1 dX10_setLabel_6 (by decide) (fun c => absurd c (by decide)) (fun _ => ?_)
  refine lv_iconst (v := 0) S.1 S.2.1 dX10_setLabel_9 (by decide) ?_
  exact fx_iret S hr hlocks () hG (rfl) dX10_setLabel_10
theorem k314_X7_setLabel {n : Nat} {c3 : Int32} (g_c3_le_96 : c3 ≤ 96) (hst : l.stackTraces = false) (hn : N0 + 231 ≤ n) (h0 : F N0 = some (.inr (9, [.ref (N0 + 1), .ref (N0 + 2), .ref (N0 + 11), .ref (N0 + 13), .ref (N0 + 63), .ref (N0 + 65), .ref (N0 + 85), .int (-1), .int (-1), .int 32]))) (h1 : F (N0 + 1) = some (.inl (cTr, 3, .inr (.inr (.inr (.inr (va_up (va_up (va_up (fun _ => none) 0 (some (N0 + 143))) 1 (some (N0 + 150))) 2 (some (N0 + 157))))))))) (h2 : F (N0 + 157) = some (.inr (7, [.ref (N0 + 158), .ref (N0 + 159), .ref (N0 + 160), .ref (N0 + 161), .ref (N0 + 162), .ref (N0 + 163), .int 1]))) : vx_Met l yX7_setLabel wsX7_setLabel ({ frames := 7, cells := 1, slots := 6, locals := 103 }) (va_Pc [.ref N0, .int 2, .int 0, .int c3] (fP N0 D vwCl (fty cI cC cL cD cII cTr cTm cIt cB) (fen ql) F n)) (fNo N0 D vwCl (fty cI cC cL cD cII cTr cTm cIt cB) F n) (fXC N0 D vwCl (fty cI cC cL cD cII cTr cTm cIt cB) "java/lang/IllegalArgumentException" F n) 1 6 (fA N0) := by
  refine fx_startX 5 rfl rfl (Nat.le_of_ble_eq_true rfl) ?_ rfl
  intro p e s m below meth c ls S htab hlocks hG hl
  have hl : lv_has ls 5 [(0, .ref N0), (1, .int 2), (2, .int 0), (3, .int c3)] := hl
  have lt_h0 := hG.1.lt h0
  have lt_h1 := hG.1.lt h1
  have lt_h2 := hG.1.lt h2
  refine lv_aload_n S.1 S.2.1 dX7_setLabel_0 rfl (lv_at hl 0 rfl) ?_
  refine lv_iload_n S.1 S.2.1 dX7_setLabel_1 rfl (lv_at hl 1 rfl) ?_
  refine lv_iload_n S.1 S.2.1 dX7_setLabel_2 rfl (lv_at hl 2 rfl) ?_
  refine fx_cVr (As := [.int 2, .int 0]) (rest := []) S hG (k189_X7_treeWith (by omega) h0 h1 h2) h0 rfl (cwV 2 S.2.2.2.2 gX7_setLabel_X7_treeWith rfl rfl rfl (by decide +kernel) ⟨Nat.le_of_ble_eq_true rfl, Nat.le_of_ble_eq_true rfl⟩) rfl hl.1 rfl (Nat.le_of_ble_eq_true rfl) dX7_setLabel_3 ⟨Nat.le_of_ble_eq_true rfl, Nat.le_of_ble_eq_true rfl⟩ (fun rv_1 _ H locs hp hG => ?_)
  subst rv_1
  refine lv_astore (lv' := [(4, .ref (N0 + 157)), (0, .ref N0), (1, .int 2), (2, .int 0), (3, .int c3)]) S.1 S.2.1 dX7_setLabel_6 hl (by decide) rfl (fun ls hl => ?_)
  refine lv_aload_n S.1 S.2.1 dX7_setLabel_8 rfl (lv_at hl 1 rfl) ?_
  refine lv_iload_n S.1 S.2.1 dX7_setLabel_9 rfl (lv_at hl 4 rfl) ?_
  refine fx_xV (As := [.int c3]) (rest := []) S hG (k271_X7_needLabel g_c3_le_96 hst (by omega)) h0 rfl (cwV 1 S.2.2.2.2 gX7_setLabel_X7_needLabel rfl rfl rfl (by decide +kernel) ⟨Nat.le_of_ble_eq_true rfl, Nat.le_of_ble_eq_true rfl⟩) rfl hl.1 rfl (Nat.le_of_ble_eq_true rfl) dX7_setLabel_10 ⟨Nat.le_of_ble_eq_true rfl, Nat.le_of_ble_eq_true rfl⟩ (fun ceq_2 q_2 H locs n_3 hn_3 hG h1q_2 h2q_2 h3q_2 => ?_)
  exact fx_out htab hlocks hG (by omega) h1q_2 h2q_2 h3q_2 (by decide) (by decide)
theorem k315_L_setLabel {n : Nat} {c3 : Int32} (g_c3_le_96 : c3 ≤ 96) (hst : l.stackTraces = false) (hn : N0 + 231 ≤ n) (h0 : F N0 = some (.inr (9, [.ref (N0 + 1), .ref (N0 + 2), .ref (N0 + 11), .ref (N0 + 13), .ref (N0 + 63), .ref (N0 + 65), .ref (N0 + 85), .int (-1), .int (-1), .int 32]))) (h1 : F (N0 + 1) = some (.inl (cTr, 3, .inr (.inr (.inr (.inr (va_up (va_up (va_up (fun _ => none) 0 (some (N0 + 143))) 1 (some (N0 + 150))) 2 (some (N0 + 157))))))))) (h2 : F (N0 + 157) = some (.inr (7, [.ref (N0 + 158), .ref (N0 + 159), .ref (N0 + 160), .ref (N0 + 161), .ref (N0 + 162), .ref (N0 + 163), .int 1]))) : Met l yL_setLabel wsL_setLabel ({ frames := 8, cells := 1, slots := 6, locals := 127 }) (va_Pc [.ref N0, .int 2, .int 0, .int c3, .ref (N0 + 229)] (fP N0 D vwCl (fty cI cC cL cD cII cTr cTm cIt cB) (fen ql) F n)) (fQi N0 D vwCl (fty cI cC cL cD cII cTr cTm cIt cB) (fun (r : Int32) (u : Nat) => r = 2 ∧ n ≤ u) (fun _ => F) (fun u => u)) 1 6 (fA N0) := by
  refine fx_startW (hh := [(0, 12, 15, 19), (0, 12, 19, 21)]) 6 rfl rfl (Nat.le_of_ble_eq_true rfl) ?_ rfl
  intro p e s m below meth c ls S htab hr hlocks hG hl
  have hl : lv_has ls 6 [(0, .ref N0), (1, .int 2), (2, .int 0), (3, .int c3), (4, .ref (N0 + 229))] := hl
  have lt_h0 := hG.1.lt h0
  have lt_h1 := hG.1.lt h1
  have lt_h2 := hG.1.lt h2
  refine lv_aload S.1 S.2.1 dL_setLabel_0 (lv_at hl 4 rfl) ?_
  refine lv_iconst (v := 0) S.1 S.2.1 dL_setLabel_2 (by decide) ?_
  refine lv_aload_n S.1 S.2.1 dL_setLabel_3 rfl (lv_at hl 0 rfl) ?_
  refine lv_iload_n S.1 S.2.1 dL_setLabel_4 rfl (lv_at hl 1 rfl) ?_
  refine lv_iload_n S.1 S.2.1 dL_setLabel_5 rfl (lv_at hl 2 rfl) ?_
  refine lv_iload_n S.1 S.2.1 dL_setLabel_6 rfl (lv_at hl 3 rfl) ?_
  refine fx_xV (As := [.int 2, .int 0, .int c3]) (rest := [.int 0, .ref (N0 + 229)]) S hG (k314_X7_setLabel g_c3_le_96 hst (by omega) h0 h1 h2) h0 rfl (cwV 3 S.2.2.2.2 gL_setLabel_X7_setLabel rfl rfl rfl (by decide +kernel) ⟨Nat.le_of_ble_eq_true rfl, Nat.le_of_ble_eq_true rfl⟩) rfl hl.1 rfl (Nat.le_of_ble_eq_true rfl) dL_setLabel_7 ⟨Nat.le_of_ble_eq_true rfl, Nat.le_of_ble_eq_true rfl⟩ (fun ceq_1 q_1 H locs n_2 hn_2 hG h1q_1 h2q_1 h3q_1 => ?_)
  refine fx_catch (hh := [(0, 12, 15, 19), (0, 12, 19, 21)]) S htab hG h1q_1 h2q_1 h3q_1 [⟨0, 12, 15, 19⟩] ⟨0, 12, 19, 21⟩ [] rfl [] (fun z hz => by
    simp only [List.mem_cons, List.not_mem_nil, or_false] at hz
    rcases hz with rfl
    · exact ⟨by decide, "java/lang/IndexOutOfBoundsException", by decide +kernel, List.mem_of_getElem? (i := 5) rfl⟩) (by decide) (by decide) (by decide +kernel) (List.mem_of_getElem? (i := 1) rfl) ?_
  refine lv_astore (lv' := [(5, .ref q_1), (0, .ref N0), (1, .int 2), (2, .int 0), (3, .int c3), (4, .ref (N0 + 229))]) S.1 S.2.1 dL_setLabel_19 hl (by decide) rfl (fun ls hl => ?_)
  refine lv_iconst (v := 2) S.1 S.2.1 dL_setLabel_21 (by decide) ?_
  exact fx_iret S hr hlocks n_2 hG (⟨rfl, hn_2⟩) dL_setLabel_22
theorem k316_X10_setLabel {n : Nat} {c3 : Int32} (g_c3_le_96 : c3 ≤ 96) (hn : N0 + 231 ≤ n) (h0 : F (N0 + 164) = some (.inr (12, [.ref (N0 + 165), .int 0, .ref (N0 + 181), .int 0, .int 0, .int 0, .int (-1), .ref (ql 24), .ref (N0 + 182), .ref (N0 + 187), .ref (N0 + 208), .ref (N0 + 209), .ref (N0 + 210), .ref (N0 + 211), .ref (N0 + 212), .int 0, .ref (N0 + 213), .ref (N0 + 218), .ref (N0 + 223), .ref (N0 + 224), .ref (N0 + 225), .ref (N0 + 226), .ref (N0 + 227), .int 0, .int 0, .ref (N0 + 228), .null, .int (-1), .int 0, .int 0, .int 0]))) (h1 : F (N0 + 165) = some (.inl (cTm, 3, .inr (.inr (.inr (.inr (va_up (va_up (va_up (fun _ => none) 0 (some (N0 + 166))) 1 (some (N0 + 171))) 2 (some (N0 + 176))))))))) (h2 : F (N0 + 176) = some (.inr (11, [.ref (N0 + 177), .ref (N0 + 178), .ref (N0 + 179), .ref (N0 + 180), .int 1]))) : Met l yX10_setLabel wsX10_setLabel ({ frames := 4, cells := 0, slots := 0, locals := 86 }) (va_Pc [.ref (N0 + 164), .int 2, .int 0, .int c3] (fP N0 D vwCl (fty cI cC cL cD cII cTr cTm cIt cB) (fen ql) F n)) (fQi N0 D vwCl (fty cI cC cL cD cII cTr cTm cIt cB) (fun (r : Int32) (_ : Unit) => r = 0) (fun _ => (fu F (N0 + 164) (.inr (12, [.ref (N0 + 165), .int 2, .ref (N0 + 181), .int 0, .int 0, .int 0, .int (-1), .ref (ql 24), .ref (N0 + 182), .ref (N0 + 187), .ref (N0 + 208), .ref (N0 + 209), .ref (N0 + 210), .ref (N0 + 211), .ref (N0 + 212), .int 0, .ref (N0 + 213), .ref (N0 + 218), .ref (N0 + 223), .ref (N0 + 224), .ref (N0 + 225), .ref (N0 + 226), .ref (N0 + 227), .int 0, .int 0, .ref (N0 + 228), .null, .int (-1), .int 0, .int 0, .int 0])))) (fun _ => n)) 0 0 (fA N0) := by
  refine fx_start 7 rfl rfl (Nat.le_of_ble_eq_true rfl) ?_ rfl
  intro p e s m below meth c ls S hr hlocks hin hG hl
  have hl : lv_has ls 7 [(0, .ref (N0 + 164)), (1, .int 2), (2, .int 0), (3, .int c3)] := hl
  have lt_h0 := hG.1.lt h0
  have lt_h1 := hG.1.lt h1
  have lt_h2 := hG.1.lt h2
  refine lv_aload_n S.1 S.2.1 dX10_setLabel_0 rfl (lv_at hl 0 rfl) ?_
  refine lv_iload_n S.1 S.2.1 dX10_setLabel_1 rfl (lv_at hl 1 rfl) ?_
  refine lv_iload_n S.1 S.2.1 dX10_setLabel_2 rfl (lv_at hl 2 rfl) ?_
  refine fx_cVi (As := [.int 2, .int 0]) (rest := []) S hG (k193_X10_isNowhere (by omega) h0 h1 h2) h0 rfl (cwV 2 S.2.2.2.2 gX10_setLabel_X10_isNowhere rfl rfl rfl (by decide +kernel) ⟨Nat.le_of_ble_eq_true rfl, Nat.le_of_ble_eq_true rfl⟩) rfl hl.1 rfl (Nat.le_of_ble_eq_true rfl) dX10_setLabel_3 ⟨Nat.le_of_ble_eq_true rfl, Nat.le_of_ble_eq_true rfl⟩ (fun rv_1 _ H locs hp hG => ?_)
  subst rv_1
  refine lv_if_eq (tgt := 11) S.1 S.2.1 dX10_setLabel_6 (by decide) (fun _ => ?_) (fun c => absurd (by decide) c)
  refine lv_iload_n S.1 S.2.1 dX10_setLabel_11 rfl (lv_at hl 3 rfl) ?_
  refine fx_cSi (As := [.int c3]) (rest := []) S hG (k275_X10_isLabel g_c3_le_96 (by omega)) (cwS 1 S.2.2.2.2 gX10_setLabel_X10_isLabel rfl rfl rfl (by decide +kernel) ⟨Nat.le_of_ble_eq_true rfl, Nat.le_of_ble_eq_true rfl⟩) rfl hl.1 rfl (Nat.le_of_ble_eq_true rfl) dX10_setLabel_12 ⟨Nat.le_of_ble_eq_true rfl, Nat.le_of_ble_eq_true rfl⟩ (fun rv_2 _ H locs hp hG => ?_)
  subst rv_2
  refine lv_if_ne (tgt := 24) S.1 S.2.1 dX10_setLabel_15 (by decide) (fun c => absurd (by decide) c) (fun _ => ?_)
  refine lv_aload_n S.1 S.2.1 dX10_setLabel_18 rfl (lv_at hl 0 rfl) ?_
  refine lv_iconst (v := 2) S.1 S.2.1 dX10_setLabel_19 (by decide) ?_
  refine fx_cVi (As := [.int 2]) (rest := []) S hG (k99_X10_fails (by omega) fu_s) fu_s rfl (cwV 1 S.2.2.2.2 gX10_setLabel_X10_fails rfl rfl rfl (by decide +kernel) ⟨Nat.le_of_ble_eq_true rfl, Nat.le_of_ble_eq_true rfl⟩) rfl hl.1 rfl (Nat.le_of_ble_eq_true rfl) dX10_setLabel_20 ⟨Nat.le_of_ble_eq_true rfl, Nat.le_of_ble_eq_true rfl⟩ (fun rv_3 _ H locs hp hG => ?_)
  subst rv_3
  have hG : fG N0 D vwCl (fty cI cC cL cD cII cTr cTm cIt cB) (fen ql) s (fu F (N0 + 164) (.inr (12, [.ref (N0 + 165), .int 2, .ref (N0 + 181), .int 0, .int 0, .int 0, .int (-1), .ref (ql 24), .ref (N0 + 182), .ref (N0 + 187), .ref (N0 + 208), .ref (N0 + 209), .ref (N0 + 210), .ref (N0 + 211), .ref (N0 + 212), .int 0, .ref (N0 + 213), .ref (N0 + 218), .ref (N0 + 223), .ref (N0 + 224), .ref (N0 + 225), .ref (N0 + 226), .ref (N0 + 227), .int 0, .int 0, .ref (N0 + 228), .null, .int (-1), .int 0, .int 0, .int 0]))) n H locs := hG.weak (fun a e h => by
    rcases fu_cases h with ⟨rfl, he⟩ | ⟨hne0, h⟩
    · cases he; exact fu_s
    · exact (fu_at (by omega) (fu_at (by omega) h)))
  exact fx_iret S hr hlocks () hG (rfl) dX10_setLabel_23
theorem k317_X5_countLabel {n : Nat} {c3 : Int32} (hn : N0 + 231 ≤ n) (h0 : F (N0 + 157) = some (.inr (7, [.ref (N0 + 158), .ref (N0 + 159), .ref (N0 + 160), .ref (N0 + 161), .ref (N0 + 162), .ref (N0 + 163), .int 1]))) (h1 : F (N0 + 158) = some (.inl (cC, 20, .inl (upd (upd (fun _ => 0) 0 97) 0 c3)))) : Met l yX5_countLabel wsX5_countLabel ({ frames := 0, cells := 0, slots := 0, locals := 0 }) (va_Pc [.ref (N0 + 157), .int c3] (fP N0 D vwCl (fty cI cC cL cD cII cTr cTm cIt cB) (fen ql) F n)) (fQi N0 D vwCl (fty cI cC cL cD cII cTr cTm cIt cB) (fun (r : Int32) (_ : Unit) => r = 1) (fun _ => F) (fun _ => n)) 0 0 (fA N0) := by
  refine fx_start 4 rfl rfl (Nat.le_of_ble_eq_true rfl) ?_ rfl
  intro p e s m below meth c ls S hr hlocks hin hG hl
  have hl : lv_has ls 4 [(0, .ref (N0 + 157)), (1, .int c3)] := hl
  have lt_h0 := hG.1.lt h0
  have lt_h1 := hG.1.lt h1
  refine lv_iconst (v := 0) S.1 S.2.1 dX5_countLabel_0 (by decide) ?_
  refine lv_istore_n (lv' := [(2, .int 0), (0, .ref (N0 + 157)), (1, .int c3)]) S.1 S.2.1 dX5_countLabel_1 rfl hl (by decide) rfl (fun ls hl => ?_)
  refine lv_iconst (v := 0) S.1 S.2.1 dX5_countLabel_2 (by decide) ?_
  refine lv_istore_n (lv' := [(3, .int 0), (2, .int 0), (0, .ref (N0 + 157)), (1, .int c3)]) S.1 S.2.1 dX5_countLabel_3 rfl hl (by decide) rfl (fun ls hl => ?_)
  refine lv_iload_n S.1 S.2.1 dX5_countLabel_4 rfl (lv_at hl 0 rfl) ?_
  refine lv_aload_n S.1 S.2.1 dX5_countLabel_5 rfl (lv_at hl 2 rfl) ?_
  refine gx_get (C := RX5) (T := TX5) (N := 7) S hG h0 i_X5_countLabel_X5 rfl 6 (by decide) (by decide +kernel) rfl dX5_countLabel_6 ?_
  refine lv_icmp_ge (tgt := 31) S.1 S.2.1 dX5_countLabel_9 (by decide) (fun c => absurd c (by decide)) (fun _ => ?_)
  refine lv_aload_n S.1 S.2.1 dX5_countLabel_12 rfl (lv_at hl 2 rfl) ?_
  refine gx_get (C := RX5) (T := TX5) (N := 7) S hG h0 i_X5_countLabel_X5 rfl 0 (by decide) (by decide +kernel) rfl dX5_countLabel_13 ?_
  refine lv_iload_n S.1 S.2.1 dX5_countLabel_16 rfl (lv_at hl 0 rfl) ?_
  refine gx_cald (v := c3) S hG 1 h1 rfl (fin_l (by decide)) (rfl) dX5_countLabel_17 ?_
  refine lv_iload_n S.1 S.2.1 dX5_countLabel_18 rfl (lv_at hl 3 rfl) ?_
  refine lv_icmp_ne (tgt := 25) S.1 S.2.1 dX5_countLabel_19 (by decide) (fun c => absurd (rfl) c) (fun _ => ?_)
  refine lv_iinc (v := 1) (lv' := [(2, .int 1), (3, .int 0), (0, .ref (N0 + 157)), (1, .int c3)]) S.1 S.2.1 dX5_countLabel_22 hl (k := 1) rfl (by decide) (by decide) rfl (fun ls hl => ?_)
  refine lv_iinc (v := 1) (lv' := [(3, .int 1), (2, .int 1), (0, .ref (N0 + 157)), (1, .int c3)]) S.1 S.2.1 dX5_countLabel_25 hl (k := 1) rfl (by decide) (by decide) rfl (fun ls hl => ?_)
  refine lv_goto (tgt := 4) S.1 S.2.1 dX5_countLabel_28 (by decide) ?_
  refine lv_iload_n S.1 S.2.1 dX5_countLabel_4 rfl (lv_at hl 0 rfl) ?_
  refine lv_aload_n S.1 S.2.1 dX5_countLabel_5 rfl (lv_at hl 2 rfl) ?_
  refine gx_get (C := RX5) (T := TX5) (N := 7) S hG h0 i_X5_countLabel_X5 rfl 6 (by decide) (by decide +kernel) rfl dX5_countLabel_6 ?_
  refine lv_icmp_ge (tgt := 31) S.1 S.2.1 dX5_countLabel_9 (by decide) (fun _ => ?_) (fun c => absurd (by decide) c)
  refine lv_iload_n S.1 S.2.1 dX5_countLabel_31 rfl (lv_at hl 1 rfl) ?_
  exact fx_iret S hr hlocks () hG (rfl) dX5_countLabel_32
theorem k318_X7_setLabel {n : Nat} {c3 : Int32} (g_c3_ge_97 : 97 ≤ c3) (g_c3_le_122 : c3 ≤ 122) (hv3 : vp_nar .char c3 = c3) (hn : N0 + 231 ≤ n) (h0 : F N0 = some (.inr (9, [.ref (N0 + 1), .ref (N0 + 2), .ref (N0 + 11), .ref (N0 + 13), .ref (N0 + 63), .ref (N0 + 65), .ref (N0 + 85), .int (-1), .int (-1), .int 32]))) (h1 : F (N0 + 1) = some (.inl (cTr, 3, .inr (.inr (.inr (.inr (va_up (va_up (va_up (fun _ => none) 0 (some (N0 + 143))) 1 (some (N0 + 150))) 2 (some (N0 + 157))))))))) (h2 : F (N0 + 157) = some (.inr (7, [.ref (N0 + 158), .ref (N0 + 159), .ref (N0 + 160), .ref (N0 + 161), .ref (N0 + 162), .ref (N0 + 163), .int 1]))) (h3 : F (N0 + 158) = some (.inl (cC, 20, .inl (upd (fun _ => 0) 0 97)))) : Met l yX7_setLabel wsX7_setLabel ({ frames := 2, cells := 0, slots := 0, locals := 44 }) (va_Pc [.ref N0, .int 2, .int 0, .int c3] (fP N0 D vwCl (fty cI cC cL cD cII cTr cTm cIt cB) (fen ql) F n)) (fQi N0 D vwCl (fty cI cC cL cD cII cTr cTm cIt cB) (fun (r : Int32) (_ : Unit) => r = 1) (fun _ => (fu F (N0 + 158) (.inl (cC, 20, .inl (upd (upd (fun _ => 0) 0 97) 0 c3))))) (fun _ => n)) 0 0 (fA N0) := by
  refine fx_start 5 rfl rfl (Nat.le_of_ble_eq_true rfl) ?_ rfl
  intro p e s m below meth c ls S hr hlocks hin hG hl
  have hl : lv_has ls 5 [(0, .ref N0), (1, .int 2), (2, .int 0), (3, .int c3)] := hl
  have lt_h0 := hG.1.lt h0
  have lt_h1 := hG.1.lt h1
  have lt_h2 := hG.1.lt h2
  have lt_h3 := hG.1.lt h3
  refine lv_aload_n S.1 S.2.1 dX7_setLabel_0 rfl (lv_at hl 0 rfl) ?_
  refine lv_iload_n S.1 S.2.1 dX7_setLabel_1 rfl (lv_at hl 1 rfl) ?_
  refine lv_iload_n S.1 S.2.1 dX7_setLabel_2 rfl (lv_at hl 2 rfl) ?_
  refine fx_cVr (As := [.int 2, .int 0]) (rest := []) S hG (k189_X7_treeWith (by omega) h0 h1 h2) h0 rfl (cwV 2 S.2.2.2.2 gX7_setLabel_X7_treeWith rfl rfl rfl (by decide +kernel) ⟨Nat.le_of_ble_eq_true rfl, Nat.le_of_ble_eq_true rfl⟩) rfl hl.1 rfl (Nat.le_of_ble_eq_true rfl) dX7_setLabel_3 ⟨Nat.le_of_ble_eq_true rfl, Nat.le_of_ble_eq_true rfl⟩ (fun rv_1 _ H locs hp hG => ?_)
  subst rv_1
  refine lv_astore (lv' := [(4, .ref (N0 + 157)), (0, .ref N0), (1, .int 2), (2, .int 0), (3, .int c3)]) S.1 S.2.1 dX7_setLabel_6 hl (by decide) rfl (fun ls hl => ?_)
  refine lv_aload_n S.1 S.2.1 dX7_setLabel_8 rfl (lv_at hl 1 rfl) ?_
  refine lv_iload_n S.1 S.2.1 dX7_setLabel_9 rfl (lv_at hl 4 rfl) ?_
  refine fx_cVv (As := [.int c3]) (rest := []) S hG (k278_X7_needLabel g_c3_ge_97 g_c3_le_122 (by omega)) h0 rfl (cwV 1 S.2.2.2.2 gX7_setLabel_X7_needLabel rfl rfl rfl (by decide +kernel) ⟨Nat.le_of_ble_eq_true rfl, Nat.le_of_ble_eq_true rfl⟩) rfl hl.1 rfl (Nat.le_of_ble_eq_true rfl) dX7_setLabel_10 ⟨Nat.le_of_ble_eq_true rfl, Nat.le_of_ble_eq_true rfl⟩ (fun _ H locs hp hG => ?_)
  refine lv_aload S.1 S.2.1 dX7_setLabel_13 (lv_at hl 0 rfl) ?_
  refine gx_get (C := RX5) (T := TX5) (N := 7) S hG h2 i_X7_setLabel_X5 rfl 0 (by decide) (by decide +kernel) rfl dX7_setLabel_15 ?_
  refine lv_iload_n S.1 S.2.1 dX7_setLabel_18 rfl (lv_at hl 3 rfl) ?_
  refine lv_iload_n S.1 S.2.1 dX7_setLabel_19 rfl (lv_at hl 4 rfl) ?_
  refine gx_cast (f' := upd (upd (fun _ => 0) 0 97) 0 c3) S hG 1 h3 rfl (fin_l (by decide)) dX7_setLabel_20 (by rw [hv3]; rfl) (fun H locs hG => ?_)
  refine lv_aload S.1 S.2.1 dX7_setLabel_21 (lv_at hl 0 rfl) ?_
  refine lv_iload_n S.1 S.2.1 dX7_setLabel_23 rfl (lv_at hl 4 rfl) ?_
  refine fx_cVi (As := [.int c3]) (rest := []) S hG (k317_X5_countLabel (by omega) (fu_at (by omega) h2) fu_s) (fu_at (by omega) h2) rfl (cwV 1 S.2.2.2.2 gX7_setLabel_X5_countLabel rfl rfl rfl (by decide +kernel) ⟨Nat.le_of_ble_eq_true rfl, Nat.le_of_ble_eq_true rfl⟩) rfl hl.1 rfl (Nat.le_of_ble_eq_true rfl) dX7_setLabel_24 ⟨Nat.le_of_ble_eq_true rfl, Nat.le_of_ble_eq_true rfl⟩ (fun rv_3 _ H locs hp hG => ?_)
  subst rv_3
  exact fx_iret S hr hlocks () hG (rfl) dX7_setLabel_27
theorem k319_L_setLabel {n : Nat} {c3 : Int32} (g_c3_ge_97 : 97 ≤ c3) (g_c3_le_122 : c3 ≤ 122) (hv3 : vp_nar .char c3 = c3) (hn : N0 + 231 ≤ n) (h0 : F N0 = some (.inr (9, [.ref (N0 + 1), .ref (N0 + 2), .ref (N0 + 11), .ref (N0 + 13), .ref (N0 + 63), .ref (N0 + 65), .ref (N0 + 85), .int (-1), .int (-1), .int 32]))) (h1 : F (N0 + 1) = some (.inl (cTr, 3, .inr (.inr (.inr (.inr (va_up (va_up (va_up (fun _ => none) 0 (some (N0 + 143))) 1 (some (N0 + 150))) 2 (some (N0 + 157))))))))) (h2 : F (N0 + 157) = some (.inr (7, [.ref (N0 + 158), .ref (N0 + 159), .ref (N0 + 160), .ref (N0 + 161), .ref (N0 + 162), .ref (N0 + 163), .int 1]))) (h3 : F (N0 + 158) = some (.inl (cC, 20, .inl (upd (fun _ => 0) 0 97)))) (h4 : F (N0 + 229) = some (.inl (cL, 1, .inr (.inl (fun _ => 0))))) : Met l yL_setLabel wsL_setLabel ({ frames := 3, cells := 0, slots := 0, locals := 68 }) (va_Pc [.ref N0, .int 2, .int 0, .int c3, .ref (N0 + 229)] (fP N0 D vwCl (fty cI cC cL cD cII cTr cTm cIt cB) (fen ql) F n)) (fQi N0 D vwCl (fty cI cC cL cD cII cTr cTm cIt cB) (fun (r : Int32) (_ : Unit) => r = 0) (fun _ => (fu (fu F (N0 + 158) (.inl (cC, 20, .inl (upd (upd (fun _ => 0) 0 97) 0 c3)))) (N0 + 229) (.inl (cL, 1, .inr (.inl (vp_updL (fun _ => 0) 0 1)))))) (fun _ => n)) 0 0 (fA N0) := by
  refine fx_startW (hh := [(0, 12, 15, 19), (0, 12, 19, 21)]) 6 rfl rfl (Nat.le_of_ble_eq_true rfl) ?_ rfl
  intro p e s m below meth c ls S htab hr hlocks hG hl
  have hl : lv_has ls 6 [(0, .ref N0), (1, .int 2), (2, .int 0), (3, .int c3), (4, .ref (N0 + 229))] := hl
  have lt_h0 := hG.1.lt h0
  have lt_h1 := hG.1.lt h1
  have lt_h2 := hG.1.lt h2
  have lt_h3 := hG.1.lt h3
  have lt_h4 := hG.1.lt h4
  refine lv_aload S.1 S.2.1 dL_setLabel_0 (lv_at hl 4 rfl) ?_
  refine lv_iconst (v := 0) S.1 S.2.1 dL_setLabel_2 (by decide) ?_
  refine lv_aload_n S.1 S.2.1 dL_setLabel_3 rfl (lv_at hl 0 rfl) ?_
  refine lv_iload_n S.1 S.2.1 dL_setLabel_4 rfl (lv_at hl 1 rfl) ?_
  refine lv_iload_n S.1 S.2.1 dL_setLabel_5 rfl (lv_at hl 2 rfl) ?_
  refine lv_iload_n S.1 S.2.1 dL_setLabel_6 rfl (lv_at hl 3 rfl) ?_
  refine fx_cVi (As := [.int 2, .int 0, .int c3]) (rest := [.int 0, .ref (N0 + 229)]) S hG (k318_X7_setLabel g_c3_ge_97 g_c3_le_122 hv3 (by omega) h0 h1 h2 h3) h0 rfl (cwV 3 S.2.2.2.2 gL_setLabel_X7_setLabel rfl rfl rfl (by decide +kernel) ⟨Nat.le_of_ble_eq_true rfl, Nat.le_of_ble_eq_true rfl⟩) rfl hl.1 rfl (Nat.le_of_ble_eq_true rfl) dL_setLabel_7 ⟨Nat.le_of_ble_eq_true rfl, Nat.le_of_ble_eq_true rfl⟩ (fun rv_1 _ H locs hp hG => ?_)
  subst rv_1
  refine lv_i2l (v := 1) S.1 S.2.1 dL_setLabel_10 (by decide) ?_
  refine gx_last (f' := vp_updL (fun _ => 0) 0 1) S hG 2 (fu_at (by omega) h4) rfl (fin_l (by decide)) dL_setLabel_11 rfl (fun H locs hG => ?_)
  refine lv_goto (tgt := 23) S.1 S.2.1 dL_setLabel_12 (by decide) ?_
  refine lv_iconst (v := 0) S.1 S.2.1 dL_setLabel_23 (by decide) ?_
  exact fx_iret S hr hlocks () hG (rfl) dL_setLabel_24
theorem k320_X10_setLabel {n : Nat} {c3 : Int32} (g_c3_ge_97 : 97 ≤ c3) (g_c3_le_122 : c3 ≤ 122) (hn : N0 + 231 ≤ n) (h0 : F (N0 + 164) = some (.inr (12, [.ref (N0 + 165), .int 0, .ref (N0 + 181), .int 0, .int 0, .int 0, .int (-1), .ref (ql 24), .ref (N0 + 182), .ref (N0 + 187), .ref (N0 + 208), .ref (N0 + 209), .ref (N0 + 210), .ref (N0 + 211), .ref (N0 + 212), .int 0, .ref (N0 + 213), .ref (N0 + 218), .ref (N0 + 223), .ref (N0 + 224), .ref (N0 + 225), .ref (N0 + 226), .ref (N0 + 227), .int 0, .int 0, .ref (N0 + 228), .null, .int (-1), .int 0, .int 0, .int 0]))) (h1 : F (N0 + 165) = some (.inl (cTm, 3, .inr (.inr (.inr (.inr (va_up (va_up (va_up (fun _ => none) 0 (some (N0 + 166))) 1 (some (N0 + 171))) 2 (some (N0 + 176))))))))) (h2 : F (N0 + 176) = some (.inr (11, [.ref (N0 + 177), .ref (N0 + 178), .ref (N0 + 179), .ref (N0 + 180), .int 1]))) (h3 : F (N0 + 177) = some (.inl (cI, 20, .inl (upd (fun _ => 0) 0 97)))) : Met l yX10_setLabel wsX10_setLabel ({ frames := 4, cells := 0, slots := 0, locals := 86 }) (va_Pc [.ref (N0 + 164), .int 2, .int 0, .int c3] (fP N0 D vwCl (fty cI cC cL cD cII cTr cTm cIt cB) (fen ql) F n)) (fQi N0 D vwCl (fty cI cC cL cD cII cTr cTm cIt cB) (fun (r : Int32) (_ : Unit) => r = 1) (fun _ => (fu (fu F (N0 + 164) (.inr (12, [.ref (N0 + 165), .int 0, .ref (N0 + 181), .int 0, .int 0, .int 0, .int (-1), .ref (ql 24), .ref (N0 + 182), .ref (N0 + 187), .ref (N0 + 208), .ref (N0 + 209), .ref (N0 + 210), .ref (N0 + 211), .ref (N0 + 212), .int 0, .ref (N0 + 213), .ref (N0 + 218), .ref (N0 + 223), .ref (N0 + 224), .ref (N0 + 225), .ref (N0 + 226), .ref (N0 + 227), .int 0, .int 0, .ref (N0 + 228), .null, .int (-1), .int 0, .int 0, .int 0]))) (N0 + 177) (.inl (cI, 20, .inl (upd (upd (fun _ => 0) 0 97) 0 c3))))) (fun _ => n)) 0 0 (fA N0) := by
  refine fx_start 7 rfl rfl (Nat.le_of_ble_eq_true rfl) ?_ rfl
  intro p e s m below meth c ls S hr hlocks hin hG hl
  have hl : lv_has ls 7 [(0, .ref (N0 + 164)), (1, .int 2), (2, .int 0), (3, .int c3)] := hl
  have lt_h0 := hG.1.lt h0
  have lt_h1 := hG.1.lt h1
  have lt_h2 := hG.1.lt h2
  have lt_h3 := hG.1.lt h3
  refine lv_aload_n S.1 S.2.1 dX10_setLabel_0 rfl (lv_at hl 0 rfl) ?_
  refine lv_iload_n S.1 S.2.1 dX10_setLabel_1 rfl (lv_at hl 1 rfl) ?_
  refine lv_iload_n S.1 S.2.1 dX10_setLabel_2 rfl (lv_at hl 2 rfl) ?_
  refine fx_cVi (As := [.int 2, .int 0]) (rest := []) S hG (k193_X10_isNowhere (by omega) h0 h1 h2) h0 rfl (cwV 2 S.2.2.2.2 gX10_setLabel_X10_isNowhere rfl rfl rfl (by decide +kernel) ⟨Nat.le_of_ble_eq_true rfl, Nat.le_of_ble_eq_true rfl⟩) rfl hl.1 rfl (Nat.le_of_ble_eq_true rfl) dX10_setLabel_3 ⟨Nat.le_of_ble_eq_true rfl, Nat.le_of_ble_eq_true rfl⟩ (fun rv_1 _ H locs hp hG => ?_)
  subst rv_1
  refine lv_if_eq (tgt := 11) S.1 S.2.1 dX10_setLabel_6 (by decide) (fun _ => ?_) (fun c => absurd (by decide) c)
  refine lv_iload_n S.1 S.2.1 dX10_setLabel_11 rfl (lv_at hl 3 rfl) ?_
  refine fx_cSi (As := [.int c3]) (rest := []) S hG (k283_X10_isLabel g_c3_ge_97 g_c3_le_122 (by omega)) (cwS 1 S.2.2.2.2 gX10_setLabel_X10_isLabel rfl rfl rfl (by decide +kernel) ⟨Nat.le_of_ble_eq_true rfl, Nat.le_of_ble_eq_true rfl⟩) rfl hl.1 rfl (Nat.le_of_ble_eq_true rfl) dX10_setLabel_12 ⟨Nat.le_of_ble_eq_true rfl, Nat.le_of_ble_eq_true rfl⟩ (fun rv_2 _ H locs hp hG => ?_)
  subst rv_2
  refine lv_if_ne (tgt := 24) S.1 S.2.1 dX10_setLabel_15 (by decide) (fun _ => ?_) (fun c => absurd c (by decide))
  refine lv_aload_n S.1 S.2.1 dX10_setLabel_24 rfl (lv_at hl 0 rfl) ?_
  refine gx_get (C := RX10) (T := TX10) (N := 31) S hG fu_s i_X10_setLabel_X10 rfl 0 (by decide) (by decide +kernel) rfl dX10_setLabel_25 ?_
  refine lv_iload_n S.1 S.2.1 dX10_setLabel_28 rfl (lv_at hl 1 rfl) ?_
  refine gx_aldq (x := (N0 + 176)) S hG 6 rfl (fu_at (by omega) h1) rfl (fin_l (by decide)) (rfl) dX10_setLabel_29 ?_
  refine lv_astore (lv' := [(4, .ref (N0 + 176)), (0, .ref (N0 + 164)), (1, .int 2), (2, .int 0), (3, .int c3)]) S.1 S.2.1 dX10_setLabel_30 hl (by decide) rfl (fun ls hl => ?_)
  refine lv_aload S.1 S.2.1 dX10_setLabel_32 (lv_at hl 0 rfl) ?_
  refine gx_getN (C := RX9) (T := TX9) (N := 5) S hG (fu_at (by omega) h2) i_X10_setLabel_X9 rfl 0 (by decide) (List.mem_of_getElem? (i := 1) rfl) rfl dX10_setLabel_34 ?_
  refine lv_iload_n S.1 S.2.1 dX10_setLabel_37 rfl (lv_at hl 3 rfl) ?_
  refine lv_iload_n S.1 S.2.1 dX10_setLabel_38 rfl (lv_at hl 4 rfl) ?_
  refine gx_iast (f' := upd (upd (fun _ => 0) 0 97) 0 c3) S hG 0 (fu_at (by omega) h3) rfl (fin_l (by decide)) dX10_setLabel_39 (rfl) (fun H locs hG => ?_)
  refine lv_iconst (v := 0) S.1 S.2.1 dX10_setLabel_40 (by decide) ?_
  refine lv_istore (lv' := [(5, .int 0), (4, .ref (N0 + 176)), (0, .ref (N0 + 164)), (1, .int 2), (2, .int 0), (3, .int c3)]) S.1 S.2.1 dX10_setLabel_41 hl (by decide) rfl (fun ls hl => ?_)
  refine lv_iconst (v := 0) S.1 S.2.1 dX10_setLabel_43 (by decide) ?_
  refine lv_istore (lv' := [(6, .int 0), (5, .int 0), (4, .ref (N0 + 176)), (0, .ref (N0 + 164)), (1, .int 2), (2, .int 0), (3, .int c3)]) S.1 S.2.1 dX10_setLabel_44 hl (by decide) rfl (fun ls hl => ?_)
  refine lv_iload S.1 S.2.1 dX10_setLabel_46 (lv_at hl 0 rfl) ?_
  refine lv_aload S.1 S.2.1 dX10_setLabel_48 (lv_at hl 2 rfl) ?_
  refine gx_getN (C := RX9) (T := TX9) (N := 5) S hG (fu_at (by omega) (fu_at (by omega) h2)) i_X10_setLabel_X9 rfl 4 (by decide) (List.mem_of_getElem? (i := 4) rfl) rfl dX10_setLabel_50 ?_
  refine lv_icmp_ge (tgt := 84) S.1 S.2.1 dX10_setLabel_53 (by decide) (fun c => absurd c (by decide)) (fun _ => ?_)
  refine lv_iload S.1 S.2.1 dX10_setLabel_56 (lv_at hl 1 rfl) ?_
  refine lv_aload S.1 S.2.1 dX10_setLabel_58 (lv_at hl 2 rfl) ?_
  refine gx_getN (C := RX9) (T := TX9) (N := 5) S hG (fu_at (by omega) (fu_at (by omega) h2)) i_X10_setLabel_X9 rfl 0 (by decide) (List.mem_of_getElem? (i := 1) rfl) rfl dX10_setLabel_60 ?_
  refine lv_iload S.1 S.2.1 dX10_setLabel_63 (lv_at hl 0 rfl) ?_
  refine gx_iald (v := c3) S hG 0 fu_s rfl (fin_l (by decide)) (rfl) dX10_setLabel_65 ?_
  refine lv_iload_n S.1 S.2.1 dX10_setLabel_66 rfl (lv_at hl 6 rfl) ?_
  refine lv_icmp_ne (tgt := 74) S.1 S.2.1 dX10_setLabel_67 (by decide) (fun c => absurd (rfl) c) (fun _ => ?_)
  refine lv_iconst (v := 1) S.1 S.2.1 dX10_setLabel_70 (by decide) ?_
  refine lv_goto (tgt := 75) S.1 S.2.1 dX10_setLabel_71 (by decide) ?_
  refine lv_iadd S.1 S.2.1 dX10_setLabel_75 ?_
  refine fx_topi (y := 1) (by decide) ?_
  refine lv_istore (lv' := [(5, .int 1), (6, .int 0), (4, .ref (N0 + 176)), (0, .ref (N0 + 164)), (1, .int 2), (2, .int 0), (3, .int c3)]) S.1 S.2.1 dX10_setLabel_76 hl (by decide) rfl (fun ls hl => ?_)
  refine lv_iinc (v := 1) (lv' := [(6, .int 1), (5, .int 1), (4, .ref (N0 + 176)), (0, .ref (N0 + 164)), (1, .int 2), (2, .int 0), (3, .int c3)]) S.1 S.2.1 dX10_setLabel_78 hl (k := 1) rfl (by decide) (by decide) rfl (fun ls hl => ?_)
  refine lv_goto (tgt := 46) S.1 S.2.1 dX10_setLabel_81 (by decide) ?_
  refine lv_iload S.1 S.2.1 dX10_setLabel_46 (lv_at hl 0 rfl) ?_
  refine lv_aload S.1 S.2.1 dX10_setLabel_48 (lv_at hl 2 rfl) ?_
  refine gx_getN (C := RX9) (T := TX9) (N := 5) S hG (fu_at (by omega) (fu_at (by omega) h2)) i_X10_setLabel_X9 rfl 4 (by decide) (List.mem_of_getElem? (i := 4) rfl) rfl dX10_setLabel_50 ?_
  refine lv_icmp_ge (tgt := 84) S.1 S.2.1 dX10_setLabel_53 (by decide) (fun _ => ?_) (fun c => absurd (by decide) c)
  refine lv_iload S.1 S.2.1 dX10_setLabel_84 (lv_at hl 1 rfl) ?_
  exact fx_iret S hr hlocks () hG (rfl) dX10_setLabel_86
theorem k321_X7_setLabel {n : Nat} {c3 : Int32} (g_c3_ge_123 : 123 ≤ c3) (hst : l.stackTraces = false) (hn : N0 + 231 ≤ n) (h0 : F N0 = some (.inr (9, [.ref (N0 + 1), .ref (N0 + 2), .ref (N0 + 11), .ref (N0 + 13), .ref (N0 + 63), .ref (N0 + 65), .ref (N0 + 85), .int (-1), .int (-1), .int 32]))) (h1 : F (N0 + 1) = some (.inl (cTr, 3, .inr (.inr (.inr (.inr (va_up (va_up (va_up (fun _ => none) 0 (some (N0 + 143))) 1 (some (N0 + 150))) 2 (some (N0 + 157))))))))) (h2 : F (N0 + 157) = some (.inr (7, [.ref (N0 + 158), .ref (N0 + 159), .ref (N0 + 160), .ref (N0 + 161), .ref (N0 + 162), .ref (N0 + 163), .int 1]))) : vx_Met l yX7_setLabel wsX7_setLabel ({ frames := 7, cells := 1, slots := 6, locals := 103 }) (va_Pc [.ref N0, .int 2, .int 0, .int c3] (fP N0 D vwCl (fty cI cC cL cD cII cTr cTm cIt cB) (fen ql) F n)) (fNo N0 D vwCl (fty cI cC cL cD cII cTr cTm cIt cB) F n) (fXC N0 D vwCl (fty cI cC cL cD cII cTr cTm cIt cB) "java/lang/IllegalArgumentException" F n) 1 6 (fA N0) := by
  refine fx_startX 5 rfl rfl (Nat.le_of_ble_eq_true rfl) ?_ rfl
  intro p e s m below meth c ls S htab hlocks hG hl
  have hl : lv_has ls 5 [(0, .ref N0), (1, .int 2), (2, .int 0), (3, .int c3)] := hl
  have lt_h0 := hG.1.lt h0
  have lt_h1 := hG.1.lt h1
  have lt_h2 := hG.1.lt h2
  refine lv_aload_n S.1 S.2.1 dX7_setLabel_0 rfl (lv_at hl 0 rfl) ?_
  refine lv_iload_n S.1 S.2.1 dX7_setLabel_1 rfl (lv_at hl 1 rfl) ?_
  refine lv_iload_n S.1 S.2.1 dX7_setLabel_2 rfl (lv_at hl 2 rfl) ?_
  refine fx_cVr (As := [.int 2, .int 0]) (rest := []) S hG (k189_X7_treeWith (by omega) h0 h1 h2) h0 rfl (cwV 2 S.2.2.2.2 gX7_setLabel_X7_treeWith rfl rfl rfl (by decide +kernel) ⟨Nat.le_of_ble_eq_true rfl, Nat.le_of_ble_eq_true rfl⟩) rfl hl.1 rfl (Nat.le_of_ble_eq_true rfl) dX7_setLabel_3 ⟨Nat.le_of_ble_eq_true rfl, Nat.le_of_ble_eq_true rfl⟩ (fun rv_1 _ H locs hp hG => ?_)
  subst rv_1
  refine lv_astore (lv' := [(4, .ref (N0 + 157)), (0, .ref N0), (1, .int 2), (2, .int 0), (3, .int c3)]) S.1 S.2.1 dX7_setLabel_6 hl (by decide) rfl (fun ls hl => ?_)
  refine lv_aload_n S.1 S.2.1 dX7_setLabel_8 rfl (lv_at hl 1 rfl) ?_
  refine lv_iload_n S.1 S.2.1 dX7_setLabel_9 rfl (lv_at hl 4 rfl) ?_
  refine fx_xV (As := [.int c3]) (rest := []) S hG (k286_X7_needLabel g_c3_ge_123 hst (by omega)) h0 rfl (cwV 1 S.2.2.2.2 gX7_setLabel_X7_needLabel rfl rfl rfl (by decide +kernel) ⟨Nat.le_of_ble_eq_true rfl, Nat.le_of_ble_eq_true rfl⟩) rfl hl.1 rfl (Nat.le_of_ble_eq_true rfl) dX7_setLabel_10 ⟨Nat.le_of_ble_eq_true rfl, Nat.le_of_ble_eq_true rfl⟩ (fun ceq_2 q_2 H locs n_3 hn_3 hG h1q_2 h2q_2 h3q_2 => ?_)
  exact fx_out htab hlocks hG (by omega) h1q_2 h2q_2 h3q_2 (by decide) (by decide)
theorem k322_L_setLabel {n : Nat} {c3 : Int32} (g_c3_ge_123 : 123 ≤ c3) (hst : l.stackTraces = false) (hn : N0 + 231 ≤ n) (h0 : F N0 = some (.inr (9, [.ref (N0 + 1), .ref (N0 + 2), .ref (N0 + 11), .ref (N0 + 13), .ref (N0 + 63), .ref (N0 + 65), .ref (N0 + 85), .int (-1), .int (-1), .int 32]))) (h1 : F (N0 + 1) = some (.inl (cTr, 3, .inr (.inr (.inr (.inr (va_up (va_up (va_up (fun _ => none) 0 (some (N0 + 143))) 1 (some (N0 + 150))) 2 (some (N0 + 157))))))))) (h2 : F (N0 + 157) = some (.inr (7, [.ref (N0 + 158), .ref (N0 + 159), .ref (N0 + 160), .ref (N0 + 161), .ref (N0 + 162), .ref (N0 + 163), .int 1]))) : Met l yL_setLabel wsL_setLabel ({ frames := 8, cells := 1, slots := 6, locals := 127 }) (va_Pc [.ref N0, .int 2, .int 0, .int c3, .ref (N0 + 229)] (fP N0 D vwCl (fty cI cC cL cD cII cTr cTm cIt cB) (fen ql) F n)) (fQi N0 D vwCl (fty cI cC cL cD cII cTr cTm cIt cB) (fun (r : Int32) (u : Nat) => r = 2 ∧ n ≤ u) (fun _ => F) (fun u => u)) 1 6 (fA N0) := by
  refine fx_startW (hh := [(0, 12, 15, 19), (0, 12, 19, 21)]) 6 rfl rfl (Nat.le_of_ble_eq_true rfl) ?_ rfl
  intro p e s m below meth c ls S htab hr hlocks hG hl
  have hl : lv_has ls 6 [(0, .ref N0), (1, .int 2), (2, .int 0), (3, .int c3), (4, .ref (N0 + 229))] := hl
  have lt_h0 := hG.1.lt h0
  have lt_h1 := hG.1.lt h1
  have lt_h2 := hG.1.lt h2
  refine lv_aload S.1 S.2.1 dL_setLabel_0 (lv_at hl 4 rfl) ?_
  refine lv_iconst (v := 0) S.1 S.2.1 dL_setLabel_2 (by decide) ?_
  refine lv_aload_n S.1 S.2.1 dL_setLabel_3 rfl (lv_at hl 0 rfl) ?_
  refine lv_iload_n S.1 S.2.1 dL_setLabel_4 rfl (lv_at hl 1 rfl) ?_
  refine lv_iload_n S.1 S.2.1 dL_setLabel_5 rfl (lv_at hl 2 rfl) ?_
  refine lv_iload_n S.1 S.2.1 dL_setLabel_6 rfl (lv_at hl 3 rfl) ?_
  refine fx_xV (As := [.int 2, .int 0, .int c3]) (rest := [.int 0, .ref (N0 + 229)]) S hG (k321_X7_setLabel g_c3_ge_123 hst (by omega) h0 h1 h2) h0 rfl (cwV 3 S.2.2.2.2 gL_setLabel_X7_setLabel rfl rfl rfl (by decide +kernel) ⟨Nat.le_of_ble_eq_true rfl, Nat.le_of_ble_eq_true rfl⟩) rfl hl.1 rfl (Nat.le_of_ble_eq_true rfl) dL_setLabel_7 ⟨Nat.le_of_ble_eq_true rfl, Nat.le_of_ble_eq_true rfl⟩ (fun ceq_1 q_1 H locs n_2 hn_2 hG h1q_1 h2q_1 h3q_1 => ?_)
  refine fx_catch (hh := [(0, 12, 15, 19), (0, 12, 19, 21)]) S htab hG h1q_1 h2q_1 h3q_1 [⟨0, 12, 15, 19⟩] ⟨0, 12, 19, 21⟩ [] rfl [] (fun z hz => by
    simp only [List.mem_cons, List.not_mem_nil, or_false] at hz
    rcases hz with rfl
    · exact ⟨by decide, "java/lang/IndexOutOfBoundsException", by decide +kernel, List.mem_of_getElem? (i := 5) rfl⟩) (by decide) (by decide) (by decide +kernel) (List.mem_of_getElem? (i := 1) rfl) ?_
  refine lv_astore (lv' := [(5, .ref q_1), (0, .ref N0), (1, .int 2), (2, .int 0), (3, .int c3), (4, .ref (N0 + 229))]) S.1 S.2.1 dL_setLabel_19 hl (by decide) rfl (fun ls hl => ?_)
  refine lv_iconst (v := 2) S.1 S.2.1 dL_setLabel_21 (by decide) ?_
  exact fx_iret S hr hlocks n_2 hG (⟨rfl, hn_2⟩) dL_setLabel_22
theorem k323_X10_setLabel {n : Nat} {c3 : Int32} (g_c3_ge_123 : 123 ≤ c3) (hn : N0 + 231 ≤ n) (h0 : F (N0 + 164) = some (.inr (12, [.ref (N0 + 165), .int 0, .ref (N0 + 181), .int 0, .int 0, .int 0, .int (-1), .ref (ql 24), .ref (N0 + 182), .ref (N0 + 187), .ref (N0 + 208), .ref (N0 + 209), .ref (N0 + 210), .ref (N0 + 211), .ref (N0 + 212), .int 0, .ref (N0 + 213), .ref (N0 + 218), .ref (N0 + 223), .ref (N0 + 224), .ref (N0 + 225), .ref (N0 + 226), .ref (N0 + 227), .int 0, .int 0, .ref (N0 + 228), .null, .int (-1), .int 0, .int 0, .int 0]))) (h1 : F (N0 + 165) = some (.inl (cTm, 3, .inr (.inr (.inr (.inr (va_up (va_up (va_up (fun _ => none) 0 (some (N0 + 166))) 1 (some (N0 + 171))) 2 (some (N0 + 176))))))))) (h2 : F (N0 + 176) = some (.inr (11, [.ref (N0 + 177), .ref (N0 + 178), .ref (N0 + 179), .ref (N0 + 180), .int 1]))) : Met l yX10_setLabel wsX10_setLabel ({ frames := 4, cells := 0, slots := 0, locals := 86 }) (va_Pc [.ref (N0 + 164), .int 2, .int 0, .int c3] (fP N0 D vwCl (fty cI cC cL cD cII cTr cTm cIt cB) (fen ql) F n)) (fQi N0 D vwCl (fty cI cC cL cD cII cTr cTm cIt cB) (fun (r : Int32) (_ : Unit) => r = 0) (fun _ => (fu F (N0 + 164) (.inr (12, [.ref (N0 + 165), .int 2, .ref (N0 + 181), .int 0, .int 0, .int 0, .int (-1), .ref (ql 24), .ref (N0 + 182), .ref (N0 + 187), .ref (N0 + 208), .ref (N0 + 209), .ref (N0 + 210), .ref (N0 + 211), .ref (N0 + 212), .int 0, .ref (N0 + 213), .ref (N0 + 218), .ref (N0 + 223), .ref (N0 + 224), .ref (N0 + 225), .ref (N0 + 226), .ref (N0 + 227), .int 0, .int 0, .ref (N0 + 228), .null, .int (-1), .int 0, .int 0, .int 0])))) (fun _ => n)) 0 0 (fA N0) := by
  refine fx_start 7 rfl rfl (Nat.le_of_ble_eq_true rfl) ?_ rfl
  intro p e s m below meth c ls S hr hlocks hin hG hl
  have hl : lv_has ls 7 [(0, .ref (N0 + 164)), (1, .int 2), (2, .int 0), (3, .int c3)] := hl
  have lt_h0 := hG.1.lt h0
  have lt_h1 := hG.1.lt h1
  have lt_h2 := hG.1.lt h2
  refine lv_aload_n S.1 S.2.1 dX10_setLabel_0 rfl (lv_at hl 0 rfl) ?_
  refine lv_iload_n S.1 S.2.1 dX10_setLabel_1 rfl (lv_at hl 1 rfl) ?_
  refine lv_iload_n S.1 S.2.1 dX10_setLabel_2 rfl (lv_at hl 2 rfl) ?_
  refine fx_cVi (As := [.int 2, .int 0]) (rest := []) S hG (k193_X10_isNowhere (by omega) h0 h1 h2) h0 rfl (cwV 2 S.2.2.2.2 gX10_setLabel_X10_isNowhere rfl rfl rfl (by decide +kernel) ⟨Nat.le_of_ble_eq_true rfl, Nat.le_of_ble_eq_true rfl⟩) rfl hl.1 rfl (Nat.le_of_ble_eq_true rfl) dX10_setLabel_3 ⟨Nat.le_of_ble_eq_true rfl, Nat.le_of_ble_eq_true rfl⟩ (fun rv_1 _ H locs hp hG => ?_)
  subst rv_1
  refine lv_if_eq (tgt := 11) S.1 S.2.1 dX10_setLabel_6 (by decide) (fun _ => ?_) (fun c => absurd (by decide) c)
  refine lv_iload_n S.1 S.2.1 dX10_setLabel_11 rfl (lv_at hl 3 rfl) ?_
  refine fx_cSi (As := [.int c3]) (rest := []) S hG (k290_X10_isLabel g_c3_ge_123 (by omega)) (cwS 1 S.2.2.2.2 gX10_setLabel_X10_isLabel rfl rfl rfl (by decide +kernel) ⟨Nat.le_of_ble_eq_true rfl, Nat.le_of_ble_eq_true rfl⟩) rfl hl.1 rfl (Nat.le_of_ble_eq_true rfl) dX10_setLabel_12 ⟨Nat.le_of_ble_eq_true rfl, Nat.le_of_ble_eq_true rfl⟩ (fun rv_2 _ H locs hp hG => ?_)
  subst rv_2
  refine lv_if_ne (tgt := 24) S.1 S.2.1 dX10_setLabel_15 (by decide) (fun c => absurd (by decide) c) (fun _ => ?_)
  refine lv_aload_n S.1 S.2.1 dX10_setLabel_18 rfl (lv_at hl 0 rfl) ?_
  refine lv_iconst (v := 2) S.1 S.2.1 dX10_setLabel_19 (by decide) ?_
  refine fx_cVi (As := [.int 2]) (rest := []) S hG (k99_X10_fails (by omega) fu_s) fu_s rfl (cwV 1 S.2.2.2.2 gX10_setLabel_X10_fails rfl rfl rfl (by decide +kernel) ⟨Nat.le_of_ble_eq_true rfl, Nat.le_of_ble_eq_true rfl⟩) rfl hl.1 rfl (Nat.le_of_ble_eq_true rfl) dX10_setLabel_20 ⟨Nat.le_of_ble_eq_true rfl, Nat.le_of_ble_eq_true rfl⟩ (fun rv_3 _ H locs hp hG => ?_)
  subst rv_3
  have hG : fG N0 D vwCl (fty cI cC cL cD cII cTr cTm cIt cB) (fen ql) s (fu F (N0 + 164) (.inr (12, [.ref (N0 + 165), .int 2, .ref (N0 + 181), .int 0, .int 0, .int 0, .int (-1), .ref (ql 24), .ref (N0 + 182), .ref (N0 + 187), .ref (N0 + 208), .ref (N0 + 209), .ref (N0 + 210), .ref (N0 + 211), .ref (N0 + 212), .int 0, .ref (N0 + 213), .ref (N0 + 218), .ref (N0 + 223), .ref (N0 + 224), .ref (N0 + 225), .ref (N0 + 226), .ref (N0 + 227), .int 0, .int 0, .ref (N0 + 228), .null, .int (-1), .int 0, .int 0, .int 0]))) n H locs := hG.weak (fun a e h => by
    rcases fu_cases h with ⟨rfl, he⟩ | ⟨hne0, h⟩
    · cases he; exact fu_s
    · exact (fu_at (by omega) (fu_at (by omega) h)))
  exact fx_iret S hr hlocks () hG (rfl) dX10_setLabel_23
theorem k324_X7_setLabel {n : Nat} {a2 : Int32} {c3 : Int32} (g_a2_ge_1 : 1 ≤ a2) (hst : l.stackTraces = false) (hn : N0 + 231 ≤ n) (h0 : F N0 = some (.inr (9, [.ref (N0 + 1), .ref (N0 + 2), .ref (N0 + 11), .ref (N0 + 13), .ref (N0 + 63), .ref (N0 + 65), .ref (N0 + 85), .int (-1), .int (-1), .int 32]))) (h1 : F (N0 + 1) = some (.inl (cTr, 3, .inr (.inr (.inr (.inr (va_up (va_up (va_up (fun _ => none) 0 (some (N0 + 143))) 1 (some (N0 + 150))) 2 (some (N0 + 157))))))))) (h2 : F (N0 + 157) = some (.inr (7, [.ref (N0 + 158), .ref (N0 + 159), .ref (N0 + 160), .ref (N0 + 161), .ref (N0 + 162), .ref (N0 + 163), .int 1]))) : vx_Met l yX7_setLabel wsX7_setLabel ({ frames := 7, cells := 1, slots := 6, locals := 105 }) (va_Pc [.ref N0, .int 2, .int a2, .int c3] (fP N0 D vwCl (fty cI cC cL cD cII cTr cTm cIt cB) (fen ql) F n)) (fNo N0 D vwCl (fty cI cC cL cD cII cTr cTm cIt cB) F n) (fXC N0 D vwCl (fty cI cC cL cD cII cTr cTm cIt cB) "java/lang/IndexOutOfBoundsException" F n) 1 6 (fA N0) := by
  refine fx_startX 5 rfl rfl (Nat.le_of_ble_eq_true rfl) ?_ rfl
  intro p e s m below meth c ls S htab hlocks hG hl
  have hl : lv_has ls 5 [(0, .ref N0), (1, .int 2), (2, .int a2), (3, .int c3)] := hl
  have lt_h0 := hG.1.lt h0
  have lt_h1 := hG.1.lt h1
  have lt_h2 := hG.1.lt h2
  refine lv_aload_n S.1 S.2.1 dX7_setLabel_0 rfl (lv_at hl 0 rfl) ?_
  refine lv_iload_n S.1 S.2.1 dX7_setLabel_1 rfl (lv_at hl 1 rfl) ?_
  refine lv_iload_n S.1 S.2.1 dX7_setLabel_2 rfl (lv_at hl 2 rfl) ?_
  refine fx_xV (As := [.int 2, .int a2]) (rest := []) S hG (k219_X7_treeWith g_a2_ge_1 hst (by omega) h0 h1 h2) h0 rfl (cwV 2 S.2.2.2.2 gX7_setLabel_X7_treeWith rfl rfl rfl (by decide +kernel) ⟨Nat.le_of_ble_eq_true rfl, Nat.le_of_ble_eq_true rfl⟩) rfl hl.1 rfl (Nat.le_of_ble_eq_true rfl) dX7_setLabel_3 ⟨Nat.le_of_ble_eq_true rfl, Nat.le_of_ble_eq_true rfl⟩ (fun ceq_1 q_1 H locs n_2 hn_2 hG h1q_1 h2q_1 h3q_1 => ?_)
  exact fx_out htab hlocks hG (by omega) h1q_1 h2q_1 h3q_1 (by decide) (by decide)
theorem k325_L_setLabel {n : Nat} {a2 : Int32} {c3 : Int32} (g_a2_ge_1 : 1 ≤ a2) (hst : l.stackTraces = false) (hn : N0 + 231 ≤ n) (h0 : F N0 = some (.inr (9, [.ref (N0 + 1), .ref (N0 + 2), .ref (N0 + 11), .ref (N0 + 13), .ref (N0 + 63), .ref (N0 + 65), .ref (N0 + 85), .int (-1), .int (-1), .int 32]))) (h1 : F (N0 + 1) = some (.inl (cTr, 3, .inr (.inr (.inr (.inr (va_up (va_up (va_up (fun _ => none) 0 (some (N0 + 143))) 1 (some (N0 + 150))) 2 (some (N0 + 157))))))))) (h2 : F (N0 + 157) = some (.inr (7, [.ref (N0 + 158), .ref (N0 + 159), .ref (N0 + 160), .ref (N0 + 161), .ref (N0 + 162), .ref (N0 + 163), .int 1]))) : Met l yL_setLabel wsL_setLabel ({ frames := 8, cells := 1, slots := 6, locals := 129 }) (va_Pc [.ref N0, .int 2, .int a2, .int c3, .ref (N0 + 229)] (fP N0 D vwCl (fty cI cC cL cD cII cTr cTm cIt cB) (fen ql) F n)) (fQi N0 D vwCl (fty cI cC cL cD cII cTr cTm cIt cB) (fun (r : Int32) (u : Nat) => r = 1 ∧ n ≤ u) (fun _ => F) (fun u => u)) 1 6 (fA N0) := by
  refine fx_startW (hh := [(0, 12, 15, 19), (0, 12, 19, 21)]) 6 rfl rfl (Nat.le_of_ble_eq_true rfl) ?_ rfl
  intro p e s m below meth c ls S htab hr hlocks hG hl
  have hl : lv_has ls 6 [(0, .ref N0), (1, .int 2), (2, .int a2), (3, .int c3), (4, .ref (N0 + 229))] := hl
  have lt_h0 := hG.1.lt h0
  have lt_h1 := hG.1.lt h1
  have lt_h2 := hG.1.lt h2
  refine lv_aload S.1 S.2.1 dL_setLabel_0 (lv_at hl 4 rfl) ?_
  refine lv_iconst (v := 0) S.1 S.2.1 dL_setLabel_2 (by decide) ?_
  refine lv_aload_n S.1 S.2.1 dL_setLabel_3 rfl (lv_at hl 0 rfl) ?_
  refine lv_iload_n S.1 S.2.1 dL_setLabel_4 rfl (lv_at hl 1 rfl) ?_
  refine lv_iload_n S.1 S.2.1 dL_setLabel_5 rfl (lv_at hl 2 rfl) ?_
  refine lv_iload_n S.1 S.2.1 dL_setLabel_6 rfl (lv_at hl 3 rfl) ?_
  refine fx_xV (As := [.int 2, .int a2, .int c3]) (rest := [.int 0, .ref (N0 + 229)]) S hG (k324_X7_setLabel g_a2_ge_1 hst (by omega) h0 h1 h2) h0 rfl (cwV 3 S.2.2.2.2 gL_setLabel_X7_setLabel rfl rfl rfl (by decide +kernel) ⟨Nat.le_of_ble_eq_true rfl, Nat.le_of_ble_eq_true rfl⟩) rfl hl.1 rfl (Nat.le_of_ble_eq_true rfl) dL_setLabel_7 ⟨Nat.le_of_ble_eq_true rfl, Nat.le_of_ble_eq_true rfl⟩ (fun ceq_1 q_1 H locs n_2 hn_2 hG h1q_1 h2q_1 h3q_1 => ?_)
  refine fx_catch (hh := [(0, 12, 15, 19), (0, 12, 19, 21)]) S htab hG h1q_1 h2q_1 h3q_1 [] ⟨0, 12, 15, 19⟩ [⟨0, 12, 19, 21⟩] rfl [] (fun z hz => absurd hz List.not_mem_nil) (by decide) (by decide) (by decide +kernel) (List.mem_of_getElem? (i := 2) rfl) ?_
  refine lv_astore (lv' := [(5, .ref q_1), (0, .ref N0), (1, .int 2), (2, .int a2), (3, .int c3), (4, .ref (N0 + 229))]) S.1 S.2.1 dL_setLabel_15 hl (by decide) rfl (fun ls hl => ?_)
  refine lv_iconst (v := 1) S.1 S.2.1 dL_setLabel_17 (by decide) ?_
  exact fx_iret S hr hlocks n_2 hG (⟨rfl, hn_2⟩) dL_setLabel_18
theorem k326_X10_setLabel {n : Nat} {a2 : Int32} {c3 : Int32} (g_a2_ge_1 : 1 ≤ a2) (hn : N0 + 231 ≤ n) (h0 : F (N0 + 164) = some (.inr (12, [.ref (N0 + 165), .int 0, .ref (N0 + 181), .int 0, .int 0, .int 0, .int (-1), .ref (ql 24), .ref (N0 + 182), .ref (N0 + 187), .ref (N0 + 208), .ref (N0 + 209), .ref (N0 + 210), .ref (N0 + 211), .ref (N0 + 212), .int 0, .ref (N0 + 213), .ref (N0 + 218), .ref (N0 + 223), .ref (N0 + 224), .ref (N0 + 225), .ref (N0 + 226), .ref (N0 + 227), .int 0, .int 0, .ref (N0 + 228), .null, .int (-1), .int 0, .int 0, .int 0]))) (h1 : F (N0 + 165) = some (.inl (cTm, 3, .inr (.inr (.inr (.inr (va_up (va_up (va_up (fun _ => none) 0 (some (N0 + 166))) 1 (some (N0 + 171))) 2 (some (N0 + 176))))))))) (h2 : F (N0 + 176) = some (.inr (11, [.ref (N0 + 177), .ref (N0 + 178), .ref (N0 + 179), .ref (N0 + 180), .int 1]))) : Met l yX10_setLabel wsX10_setLabel ({ frames := 4, cells := 0, slots := 0, locals := 86 }) (va_Pc [.ref (N0 + 164), .int 2, .int a2, .int c3] (fP N0 D vwCl (fty cI cC cL cD cII cTr cTm cIt cB) (fen ql) F n)) (fQi N0 D vwCl (fty cI cC cL cD cII cTr cTm cIt cB) (fun (r : Int32) (_ : Unit) => r = 0) (fun _ => (fu F (N0 + 164) (.inr (12, [.ref (N0 + 165), .int 1, .ref (N0 + 181), .int 0, .int 0, .int 0, .int (-1), .ref (ql 24), .ref (N0 + 182), .ref (N0 + 187), .ref (N0 + 208), .ref (N0 + 209), .ref (N0 + 210), .ref (N0 + 211), .ref (N0 + 212), .int 0, .ref (N0 + 213), .ref (N0 + 218), .ref (N0 + 223), .ref (N0 + 224), .ref (N0 + 225), .ref (N0 + 226), .ref (N0 + 227), .int 0, .int 0, .ref (N0 + 228), .null, .int (-1), .int 0, .int 0, .int 0])))) (fun _ => n)) 0 0 (fA N0) := by
  refine fx_start 7 rfl rfl (Nat.le_of_ble_eq_true rfl) ?_ rfl
  intro p e s m below meth c ls S hr hlocks hin hG hl
  have hl : lv_has ls 7 [(0, .ref (N0 + 164)), (1, .int 2), (2, .int a2), (3, .int c3)] := hl
  have lt_h0 := hG.1.lt h0
  have lt_h1 := hG.1.lt h1
  have lt_h2 := hG.1.lt h2
  refine lv_aload_n S.1 S.2.1 dX10_setLabel_0 rfl (lv_at hl 0 rfl) ?_
  refine lv_iload_n S.1 S.2.1 dX10_setLabel_1 rfl (lv_at hl 1 rfl) ?_
  refine lv_iload_n S.1 S.2.1 dX10_setLabel_2 rfl (lv_at hl 2 rfl) ?_
  refine fx_cVi (As := [.int 2, .int a2]) (rest := []) S hG (k223_X10_isNowhere g_a2_ge_1 (by omega) h0 h1 h2) h0 rfl (cwV 2 S.2.2.2.2 gX10_setLabel_X10_isNowhere rfl rfl rfl (by decide +kernel) ⟨Nat.le_of_ble_eq_true rfl, Nat.le_of_ble_eq_true rfl⟩) rfl hl.1 rfl (Nat.le_of_ble_eq_true rfl) dX10_setLabel_3 ⟨Nat.le_of_ble_eq_true rfl, Nat.le_of_ble_eq_true rfl⟩ (fun rv_1 _ H locs hp hG => ?_)
  subst rv_1
  refine lv_if_eq (tgt := 11) S.1 S.2.1 dX10_setLabel_6 (by decide) (fun c => absurd c (by decide)) (fun _ => ?_)
  refine lv_iconst (v := 0) S.1 S.2.1 dX10_setLabel_9 (by decide) ?_
  exact fx_iret S hr hlocks () hG (rfl) dX10_setLabel_10
theorem k327_X7_setLabel {n : Nat} {a1 : Int32} {a2 : Int32} {c3 : Int32} (g_a1_ge_3 : 3 ≤ a1) (hst : l.stackTraces = false) (hn : N0 + 231 ≤ n) (h0 : F N0 = some (.inr (9, [.ref (N0 + 1), .ref (N0 + 2), .ref (N0 + 11), .ref (N0 + 13), .ref (N0 + 63), .ref (N0 + 65), .ref (N0 + 85), .int (-1), .int (-1), .int 32]))) : vx_Met l yX7_setLabel wsX7_setLabel ({ frames := 8, cells := 1, slots := 6, locals := 126 }) (va_Pc [.ref N0, .int a1, .int a2, .int c3] (fP N0 D vwCl (fty cI cC cL cD cII cTr cTm cIt cB) (fen ql) F n)) (fNo N0 D vwCl (fty cI cC cL cD cII cTr cTm cIt cB) F n) (fXC N0 D vwCl (fty cI cC cL cD cII cTr cTm cIt cB) "java/lang/IndexOutOfBoundsException" F n) 1 6 (fA N0) := by
  refine fx_startX 5 rfl rfl (Nat.le_of_ble_eq_true rfl) ?_ rfl
  intro p e s m below meth c ls S htab hlocks hG hl
  have hl : lv_has ls 5 [(0, .ref N0), (1, .int a1), (2, .int a2), (3, .int c3)] := hl
  have lt_h0 := hG.1.lt h0
  refine lv_aload_n S.1 S.2.1 dX7_setLabel_0 rfl (lv_at hl 0 rfl) ?_
  refine lv_iload_n S.1 S.2.1 dX7_setLabel_1 rfl (lv_at hl 1 rfl) ?_
  refine lv_iload_n S.1 S.2.1 dX7_setLabel_2 rfl (lv_at hl 2 rfl) ?_
  refine fx_xV (As := [.int a1, .int a2]) (rest := []) S hG (k225_X7_treeWith g_a1_ge_3 hst (by omega) h0) h0 rfl (cwV 2 S.2.2.2.2 gX7_setLabel_X7_treeWith rfl rfl rfl (by decide +kernel) ⟨Nat.le_of_ble_eq_true rfl, Nat.le_of_ble_eq_true rfl⟩) rfl hl.1 rfl (Nat.le_of_ble_eq_true rfl) dX7_setLabel_3 ⟨Nat.le_of_ble_eq_true rfl, Nat.le_of_ble_eq_true rfl⟩ (fun ceq_1 q_1 H locs n_2 hn_2 hG h1q_1 h2q_1 h3q_1 => ?_)
  exact fx_out htab hlocks hG (by omega) h1q_1 h2q_1 h3q_1 (by decide) (by decide)
theorem k328_L_setLabel {n : Nat} {a1 : Int32} {a2 : Int32} {c3 : Int32} (g_a1_ge_3 : 3 ≤ a1) (hst : l.stackTraces = false) (hn : N0 + 231 ≤ n) (h0 : F N0 = some (.inr (9, [.ref (N0 + 1), .ref (N0 + 2), .ref (N0 + 11), .ref (N0 + 13), .ref (N0 + 63), .ref (N0 + 65), .ref (N0 + 85), .int (-1), .int (-1), .int 32]))) : Met l yL_setLabel wsL_setLabel ({ frames := 9, cells := 1, slots := 6, locals := 150 }) (va_Pc [.ref N0, .int a1, .int a2, .int c3, .ref (N0 + 229)] (fP N0 D vwCl (fty cI cC cL cD cII cTr cTm cIt cB) (fen ql) F n)) (fQi N0 D vwCl (fty cI cC cL cD cII cTr cTm cIt cB) (fun (r : Int32) (u : Nat) => r = 1 ∧ n ≤ u) (fun _ => F) (fun u => u)) 1 6 (fA N0) := by
  refine fx_startW (hh := [(0, 12, 15, 19), (0, 12, 19, 21)]) 6 rfl rfl (Nat.le_of_ble_eq_true rfl) ?_ rfl
  intro p e s m below meth c ls S htab hr hlocks hG hl
  have hl : lv_has ls 6 [(0, .ref N0), (1, .int a1), (2, .int a2), (3, .int c3), (4, .ref (N0 + 229))] := hl
  have lt_h0 := hG.1.lt h0
  refine lv_aload S.1 S.2.1 dL_setLabel_0 (lv_at hl 4 rfl) ?_
  refine lv_iconst (v := 0) S.1 S.2.1 dL_setLabel_2 (by decide) ?_
  refine lv_aload_n S.1 S.2.1 dL_setLabel_3 rfl (lv_at hl 0 rfl) ?_
  refine lv_iload_n S.1 S.2.1 dL_setLabel_4 rfl (lv_at hl 1 rfl) ?_
  refine lv_iload_n S.1 S.2.1 dL_setLabel_5 rfl (lv_at hl 2 rfl) ?_
  refine lv_iload_n S.1 S.2.1 dL_setLabel_6 rfl (lv_at hl 3 rfl) ?_
  refine fx_xV (As := [.int a1, .int a2, .int c3]) (rest := [.int 0, .ref (N0 + 229)]) S hG (k327_X7_setLabel g_a1_ge_3 hst (by omega) h0) h0 rfl (cwV 3 S.2.2.2.2 gL_setLabel_X7_setLabel rfl rfl rfl (by decide +kernel) ⟨Nat.le_of_ble_eq_true rfl, Nat.le_of_ble_eq_true rfl⟩) rfl hl.1 rfl (Nat.le_of_ble_eq_true rfl) dL_setLabel_7 ⟨Nat.le_of_ble_eq_true rfl, Nat.le_of_ble_eq_true rfl⟩ (fun ceq_1 q_1 H locs n_2 hn_2 hG h1q_1 h2q_1 h3q_1 => ?_)
  refine fx_catch (hh := [(0, 12, 15, 19), (0, 12, 19, 21)]) S htab hG h1q_1 h2q_1 h3q_1 [] ⟨0, 12, 15, 19⟩ [⟨0, 12, 19, 21⟩] rfl [] (fun z hz => absurd hz List.not_mem_nil) (by decide) (by decide) (by decide +kernel) (List.mem_of_getElem? (i := 2) rfl) ?_
  refine lv_astore (lv' := [(5, .ref q_1), (0, .ref N0), (1, .int a1), (2, .int a2), (3, .int c3), (4, .ref (N0 + 229))]) S.1 S.2.1 dL_setLabel_15 hl (by decide) rfl (fun ls hl => ?_)
  refine lv_iconst (v := 1) S.1 S.2.1 dL_setLabel_17 (by decide) ?_
  exact fx_iret S hr hlocks n_2 hG (⟨rfl, hn_2⟩) dL_setLabel_18
theorem k329_X10_setLabel {n : Nat} {a1 : Int32} {a2 : Int32} {c3 : Int32} (g_a1_ge_3 : 3 ≤ a1) (hn : N0 + 231 ≤ n) (h0 : F (N0 + 164) = some (.inr (12, [.ref (N0 + 165), .int 0, .ref (N0 + 181), .int 0, .int 0, .int 0, .int (-1), .ref (ql 24), .ref (N0 + 182), .ref (N0 + 187), .ref (N0 + 208), .ref (N0 + 209), .ref (N0 + 210), .ref (N0 + 211), .ref (N0 + 212), .int 0, .ref (N0 + 213), .ref (N0 + 218), .ref (N0 + 223), .ref (N0 + 224), .ref (N0 + 225), .ref (N0 + 226), .ref (N0 + 227), .int 0, .int 0, .ref (N0 + 228), .null, .int (-1), .int 0, .int 0, .int 0]))) : Met l yX10_setLabel wsX10_setLabel ({ frames := 4, cells := 0, slots := 0, locals := 86 }) (va_Pc [.ref (N0 + 164), .int a1, .int a2, .int c3] (fP N0 D vwCl (fty cI cC cL cD cII cTr cTm cIt cB) (fen ql) F n)) (fQi N0 D vwCl (fty cI cC cL cD cII cTr cTm cIt cB) (fun (r : Int32) (_ : Unit) => r = 0) (fun _ => (fu F (N0 + 164) (.inr (12, [.ref (N0 + 165), .int 1, .ref (N0 + 181), .int 0, .int 0, .int 0, .int (-1), .ref (ql 24), .ref (N0 + 182), .ref (N0 + 187), .ref (N0 + 208), .ref (N0 + 209), .ref (N0 + 210), .ref (N0 + 211), .ref (N0 + 212), .int 0, .ref (N0 + 213), .ref (N0 + 218), .ref (N0 + 223), .ref (N0 + 224), .ref (N0 + 225), .ref (N0 + 226), .ref (N0 + 227), .int 0, .int 0, .ref (N0 + 228), .null, .int (-1), .int 0, .int 0, .int 0])))) (fun _ => n)) 0 0 (fA N0) := by
  refine fx_start 7 rfl rfl (Nat.le_of_ble_eq_true rfl) ?_ rfl
  intro p e s m below meth c ls S hr hlocks hin hG hl
  have hl : lv_has ls 7 [(0, .ref (N0 + 164)), (1, .int a1), (2, .int a2), (3, .int c3)] := hl
  have lt_h0 := hG.1.lt h0
  refine lv_aload_n S.1 S.2.1 dX10_setLabel_0 rfl (lv_at hl 0 rfl) ?_
  refine lv_iload_n S.1 S.2.1 dX10_setLabel_1 rfl (lv_at hl 1 rfl) ?_
  refine lv_iload_n S.1 S.2.1 dX10_setLabel_2 rfl (lv_at hl 2 rfl) ?_
  refine fx_cVi (As := [.int a1, .int a2]) (rest := []) S hG (k229_X10_isNowhere g_a1_ge_3 (by omega) h0) h0 rfl (cwV 2 S.2.2.2.2 gX10_setLabel_X10_isNowhere rfl rfl rfl (by decide +kernel) ⟨Nat.le_of_ble_eq_true rfl, Nat.le_of_ble_eq_true rfl⟩) rfl hl.1 rfl (Nat.le_of_ble_eq_true rfl) dX10_setLabel_3 ⟨Nat.le_of_ble_eq_true rfl, Nat.le_of_ble_eq_true rfl⟩ (fun rv_1 _ H locs hp hG => ?_)
  subst rv_1
  refine lv_if_eq (tgt := 11) S.1 S.2.1 dX10_setLabel_6 (by decide) (fun c => absurd c (by decide)) (fun _ => ?_)
  refine lv_iconst (v := 0) S.1 S.2.1 dX10_setLabel_9 (by decide) ?_
  exact fx_iret S hr hlocks () hG (rfl) dX10_setLabel_10
theorem l8_0 {p : Program} {e : Env} {s : State} {m : MethodId} {below : List Frame} {meth : Method} {c : Code} {b : Nat} {xs : Nat → Int32} {H : Heap} {locs : List Loc} {ls : Array Slot} {n : Nat} {a1 a2 a3 c3 a4 : Int32} (hc3 : (a3.toUInt32 % 65536).toInt32 = c3) (g_a1_le_m1 : a1 ≤ (-1)) (S : CallFix p m c cL_law 9 s #[.ref b] wsL_law "TreeDifferLaw") (hr : meth.sig.returnType = ret) (hlocks : meth.locks = false) (hst : l.stackTraces = false) (hX : va_X b 5 xs s s.heap) (hbl : b < s.heap.size ∧ b < N0) (hN : s.heap.size = N0) (hn : N0 + 231 ≤ n) (hx1 : xs 1 = a1) (hx2 : xs 2 = a2) (hx3 : xs 3 = a3) (hx4 : xs 4 = a4) (h0 : F N0 = some (.inr (9, [.ref (N0 + 1), .ref (N0 + 2), .ref (N0 + 11), .ref (N0 + 13), .ref (N0 + 63), .ref (N0 + 65), .ref (N0 + 85), .int (-1), .int (-1), .int 32]))) (h1 : F (N0 + 164) = some (.inr (12, [.ref (N0 + 165), .int 0, .ref (N0 + 181), .int 0, .int 0, .int 0, .int (-1), .ref (ql 24), .ref (N0 + 182), .ref (N0 + 187), .ref (N0 + 208), .ref (N0 + 209), .ref (N0 + 210), .ref (N0 + 211), .ref (N0 + 212), .int 0, .ref (N0 + 213), .ref (N0 + 218), .ref (N0 + 223), .ref (N0 + 224), .ref (N0 + 225), .ref (N0 + 226), .ref (N0 + 227), .int 0, .int 0, .ref (N0 + 228), .null, .int (-1), .int 0, .int 0, .int 0]))) (hG : fG N0 D vwCl (fty cI cC cL cD cII cTr cTm cIt cB) (fen ql) s F n H locs) (hl : lv_has ls 9 [(0, .ref b), (1, .ref N0), (2, .ref (N0 + 164)), (3, .ref (N0 + 229)), (4, .ref (N0 + 230)), (5, .int 0)]) : W p l e { frames := 2048, cells := 600002, slots := 7302232, locals := 84000 } s m #[.ref b] below meth c H locs 231 4980 (lw_Z below #[.ref b] s) (F0 m 692 ls []) := by
  have lt_h0 := hG.1.lt h0
  have lt_h1 := hG.1.lt h1
  refine lv_aload_n S.1 S.2.1 dL_law_692 rfl (lv_at hl 1 rfl) ?_
  refine lv_aload_n S.1 S.2.1 dL_law_693 rfl (lv_at hl 0 rfl) ?_
  refine lv_iload S.1 S.2.1 dL_law_694 (lv_at hl 5 rfl) ?_
  refine lv_iconst (v := 1) S.1 S.2.1 dL_law_696 (by decide) ?_
  refine lv_iadd S.1 S.2.1 dL_law_697 ?_
  refine fx_topi (y := 1) (by decide) ?_
  refine gx_sld (v := a1) S hG hX hbl (fin_l (by decide)) hx1 dL_law_698 ?_
  refine lv_aload_n S.1 S.2.1 dL_law_699 rfl (lv_at hl 0 rfl) ?_
  refine lv_iload S.1 S.2.1 dL_law_700 (lv_at hl 5 rfl) ?_
  refine lv_iconst (v := 2) S.1 S.2.1 dL_law_702 (by decide) ?_
  refine lv_iadd S.1 S.2.1 dL_law_703 ?_
  refine fx_topi (y := 2) (by decide) ?_
  refine gx_sld (v := a2) S hG hX hbl (fin_l (by decide)) hx2 dL_law_704 ?_
  refine lv_aload_n S.1 S.2.1 dL_law_705 rfl (lv_at hl 0 rfl) ?_
  refine lv_iload S.1 S.2.1 dL_law_706 (lv_at hl 5 rfl) ?_
  refine lv_iconst (v := 3) S.1 S.2.1 dL_law_708 (by decide) ?_
  refine lv_iadd S.1 S.2.1 dL_law_709 ?_
  refine fx_topi (y := 3) (by decide) ?_
  refine gx_sld (v := a3) S hG hX hbl (fin_l (by decide)) hx3 dL_law_710 ?_
  refine lv_i2c (v := c3) S.1 S.2.1 dL_law_711 hc3 ?_
  refine lv_aload_n S.1 S.2.1 dL_law_712 rfl (lv_at hl 3 rfl) ?_
  refine fx_cTi (As := [.ref N0, .int a1, .int a2, .int c3, .ref (N0 + 229)]) (rest := []) S hG (k265_L_setLabel g_a1_le_m1 hst (by omega) h0) (vx_cwSW 5 S.2.2.2.2 gL_law_L_setLabel rfl rfl rfl (by decide +kernel) ⟨Nat.le_of_ble_eq_true rfl, Nat.le_of_ble_eq_true rfl⟩) rfl hl.1 rfl (Nat.le_of_ble_eq_true rfl) dL_law_713 ⟨Nat.le_of_ble_eq_true rfl, Nat.le_of_ble_eq_true rfl⟩ (fun rv_u_1 u_1 H locs hp hG => ?_)
  obtain ⟨rfl, hu_1⟩ := hp
  refine W.widen (k := 232) (n := 4986) (by decide) (by decide) ?_
  refine lv_istore (lv' := [(6, .int 1), (0, .ref b), (1, .ref N0), (2, .ref (N0 + 164)), (3, .ref (N0 + 229)), (4, .ref (N0 + 230)), (5, .int 0)]) S.1 S.2.1 dL_law_716 hl (by decide) rfl (fun ls hl => ?_)
  refine lv_aload_n S.1 S.2.1 dL_law_718 rfl (lv_at hl 3 rfl) ?_
  refine lv_aload_n S.1 S.2.1 dL_law_719 rfl (lv_at hl 1 rfl) ?_
  refine lv_iload S.1 S.2.1 dL_law_720 (lv_at hl 6 rfl) ?_
  refine lv_iconst (v := 1) S.1 S.2.1 dL_law_722 (by decide) ?_
  refine lv_iadd S.1 S.2.1 dL_law_723 ?_
  refine fx_topi (y := 1) (by decide) ?_
  refine gx_sld (v := a1) S hG hX hbl (fin_l (by decide)) hx1 dL_law_724 ?_
  refine lv_aload_n S.1 S.2.1 dL_law_725 rfl (lv_at hl 1 rfl) ?_
  refine lv_iload S.1 S.2.1 dL_law_726 (lv_at hl 6 rfl) ?_
  refine lv_iconst (v := 2) S.1 S.2.1 dL_law_728 (by decide) ?_
  refine lv_iadd S.1 S.2.1 dL_law_729 ?_
  refine fx_topi (y := 2) (by decide) ?_
  refine gx_sld (v := a2) S hG hX hbl (fin_l (by decide)) hx2 dL_law_730 ?_
  refine lv_aload_n S.1 S.2.1 dL_law_731 rfl (lv_at hl 1 rfl) ?_
  refine lv_iload S.1 S.2.1 dL_law_732 (lv_at hl 6 rfl) ?_
  refine lv_iconst (v := 3) S.1 S.2.1 dL_law_734 (by decide) ?_
  refine lv_iadd S.1 S.2.1 dL_law_735 ?_
  refine fx_topi (y := 3) (by decide) ?_
  refine gx_sld (v := a3) S hG hX hbl (fin_l (by decide)) hx3 dL_law_736 ?_
  refine lv_i2c (v := c3) S.1 S.2.1 dL_law_737 hc3 ?_
  refine fx_cVi (As := [.int a1, .int a2, .int c3]) (rest := []) S hG (k266_X10_setLabel g_a1_le_m1 (by omega) h1) h1 rfl (cwV 3 S.2.2.2.2 gL_law_X10_setLabel rfl rfl rfl (by decide +kernel) ⟨Nat.le_of_ble_eq_true rfl, Nat.le_of_ble_eq_true rfl⟩) rfl hl.1 rfl (Nat.le_of_ble_eq_true rfl) dL_law_738 ⟨Nat.le_of_ble_eq_true rfl, Nat.le_of_ble_eq_true rfl⟩ (fun rv_2 _ H locs hp hG => ?_)
  subst rv_2
  refine lv_istore (lv' := [(7, .int 0), (6, .int 1), (0, .ref b), (1, .ref N0), (2, .ref (N0 + 164)), (3, .ref (N0 + 229)), (4, .ref (N0 + 230)), (5, .int 0)]) S.1 S.2.1 dL_law_741 hl (by decide) rfl (fun ls hl => ?_)
  refine lv_aload_n S.1 S.2.1 dL_law_743 rfl (lv_at hl 4 rfl) ?_
  refine fx_cVi (As := []) (rest := []) S hG (k25_X10_thrown (by omega) fu_s) fu_s rfl (cwV 0 S.2.2.2.2 gL_law_X10_thrown rfl rfl rfl (by decide +kernel) ⟨Nat.le_of_ble_eq_true rfl, Nat.le_of_ble_eq_true rfl⟩) rfl hl.1 rfl (Nat.le_of_ble_eq_true rfl) dL_law_744 ⟨Nat.le_of_ble_eq_true rfl, Nat.le_of_ble_eq_true rfl⟩ (fun rv_3 _ H locs hp hG => ?_)
  subst rv_3
  refine lv_iload S.1 S.2.1 dL_law_747 (lv_at hl 1 rfl) ?_
  refine lv_icmp_eq (tgt := 754) S.1 S.2.1 dL_law_749 (by decide) (fun _ => ?_) (fun c => absurd (by decide) c)
  refine lv_iload S.1 S.2.1 dL_law_754 (lv_at hl 1 rfl) ?_
  refine lv_if_ne (tgt := 771) S.1 S.2.1 dL_law_756 (by decide) (fun _ => ?_) (fun c => absurd c (by decide))
  refine lv_goto (tgt := 2650) S.1 S.2.1 dL_law_771 (by decide) ?_
  refine lv_iinc (v := 5) (lv' := [(5, .int 5), (7, .int 0), (6, .int 1), (0, .ref b), (1, .ref N0), (2, .ref (N0 + 164)), (3, .ref (N0 + 229)), (4, .ref (N0 + 230))]) S.1 S.2.1 dL_law_2650 hl (k := 7) rfl (by decide) (by decide) rfl (fun ls hl => ?_)
  refine lv_goto (tgt := 28) S.1 S.2.1 dL_law_2653 (by decide) ?_
  refine lv_iload S.1 S.2.1 dL_law_28 (lv_at hl 0 rfl) ?_
  refine lv_aload_n S.1 S.2.1 dL_law_30 rfl (lv_at hl 3 rfl) ?_
  refine gx_slen (v := 5) S hG hX hbl rfl dL_law_31 ?_
  refine lv_iconst (v := 5) S.1 S.2.1 dL_law_32 (by decide) ?_
  refine lv_isub S.1 S.2.1 dL_law_33 ?_
  refine fx_topi (y := 0) (by decide) ?_
  refine lv_icmp_gt (tgt := 2656) S.1 S.2.1 dL_law_34 (by decide) (fun _ => ?_) (fun c => absurd (by decide) c)
  refine lv_iconst (v := 1) S.1 S.2.1 dL_law_2656 (by decide) ?_
  refine va_forget (fun q hq => by rw [hN]; exact hG.2.1.2.2 q hq) ?_
  refine W.widen (k := 600002) (n := 7302232) (by decide) (by decide) ?_
  exact lw_ret (d0 := s.drawn) (Drawn.sameBut.refl _ _) S.1 S.2.1 hr hlocks dL_law_2657
theorem l8_1 {p : Program} {e : Env} {s : State} {m : MethodId} {below : List Frame} {meth : Method} {c : Code} {b : Nat} {xs : Nat → Int32} {H : Heap} {locs : List Loc} {ls : Array Slot} {n : Nat} {a2 a3 c3 a4 : Int32} (hc3 : (a3.toUInt32 % 65536).toInt32 = c3) (g_a2_le_m1 : a2 ≤ (-1)) (S : CallFix p m c cL_law 9 s #[.ref b] wsL_law "TreeDifferLaw") (hr : meth.sig.returnType = ret) (hlocks : meth.locks = false) (hst : l.stackTraces = false) (hX : va_X b 5 xs s s.heap) (hbl : b < s.heap.size ∧ b < N0) (hN : s.heap.size = N0) (hn : N0 + 231 ≤ n) (hx1 : xs 1 = 0) (hx2 : xs 2 = a2) (hx3 : xs 3 = a3) (hx4 : xs 4 = a4) (h0 : F N0 = some (.inr (9, [.ref (N0 + 1), .ref (N0 + 2), .ref (N0 + 11), .ref (N0 + 13), .ref (N0 + 63), .ref (N0 + 65), .ref (N0 + 85), .int (-1), .int (-1), .int 32]))) (h1 : F (N0 + 1) = some (.inl (cTr, 3, .inr (.inr (.inr (.inr (va_up (va_up (va_up (fun _ => none) 0 (some (N0 + 143))) 1 (some (N0 + 150))) 2 (some (N0 + 157))))))))) (h2 : F (N0 + 143) = some (.inr (7, [.ref (N0 + 144), .ref (N0 + 145), .ref (N0 + 146), .ref (N0 + 147), .ref (N0 + 148), .ref (N0 + 149), .int 1]))) (h3 : F (N0 + 164) = some (.inr (12, [.ref (N0 + 165), .int 0, .ref (N0 + 181), .int 0, .int 0, .int 0, .int (-1), .ref (ql 24), .ref (N0 + 182), .ref (N0 + 187), .ref (N0 + 208), .ref (N0 + 209), .ref (N0 + 210), .ref (N0 + 211), .ref (N0 + 212), .int 0, .ref (N0 + 213), .ref (N0 + 218), .ref (N0 + 223), .ref (N0 + 224), .ref (N0 + 225), .ref (N0 + 226), .ref (N0 + 227), .int 0, .int 0, .ref (N0 + 228), .null, .int (-1), .int 0, .int 0, .int 0]))) (h4 : F (N0 + 165) = some (.inl (cTm, 3, .inr (.inr (.inr (.inr (va_up (va_up (va_up (fun _ => none) 0 (some (N0 + 166))) 1 (some (N0 + 171))) 2 (some (N0 + 176))))))))) (h5 : F (N0 + 166) = some (.inr (11, [.ref (N0 + 167), .ref (N0 + 168), .ref (N0 + 169), .ref (N0 + 170), .int 1]))) (hG : fG N0 D vwCl (fty cI cC cL cD cII cTr cTm cIt cB) (fen ql) s F n H locs) (hl : lv_has ls 9 [(0, .ref b), (1, .ref N0), (2, .ref (N0 + 164)), (3, .ref (N0 + 229)), (4, .ref (N0 + 230)), (5, .int 0)]) : W p l e { frames := 2048, cells := 600002, slots := 7302232, locals := 84000 } s m #[.ref b] below meth c H locs 231 4980 (lw_Z below #[.ref b] s) (F0 m 692 ls []) := by
  have lt_h0 := hG.1.lt h0
  have lt_h1 := hG.1.lt h1
  have lt_h2 := hG.1.lt h2
  have lt_h3 := hG.1.lt h3
  have lt_h4 := hG.1.lt h4
  have lt_h5 := hG.1.lt h5
  refine lv_aload_n S.1 S.2.1 dL_law_692 rfl (lv_at hl 1 rfl) ?_
  refine lv_aload_n S.1 S.2.1 dL_law_693 rfl (lv_at hl 0 rfl) ?_
  refine lv_iload S.1 S.2.1 dL_law_694 (lv_at hl 5 rfl) ?_
  refine lv_iconst (v := 1) S.1 S.2.1 dL_law_696 (by decide) ?_
  refine lv_iadd S.1 S.2.1 dL_law_697 ?_
  refine fx_topi (y := 1) (by decide) ?_
  refine gx_sld (v := 0) S hG hX hbl (fin_l (by decide)) hx1 dL_law_698 ?_
  refine lv_aload_n S.1 S.2.1 dL_law_699 rfl (lv_at hl 0 rfl) ?_
  refine lv_iload S.1 S.2.1 dL_law_700 (lv_at hl 5 rfl) ?_
  refine lv_iconst (v := 2) S.1 S.2.1 dL_law_702 (by decide) ?_
  refine lv_iadd S.1 S.2.1 dL_law_703 ?_
  refine fx_topi (y := 2) (by decide) ?_
  refine gx_sld (v := a2) S hG hX hbl (fin_l (by decide)) hx2 dL_law_704 ?_
  refine lv_aload_n S.1 S.2.1 dL_law_705 rfl (lv_at hl 0 rfl) ?_
  refine lv_iload S.1 S.2.1 dL_law_706 (lv_at hl 5 rfl) ?_
  refine lv_iconst (v := 3) S.1 S.2.1 dL_law_708 (by decide) ?_
  refine lv_iadd S.1 S.2.1 dL_law_709 ?_
  refine fx_topi (y := 3) (by decide) ?_
  refine gx_sld (v := a3) S hG hX hbl (fin_l (by decide)) hx3 dL_law_710 ?_
  refine lv_i2c (v := c3) S.1 S.2.1 dL_law_711 hc3 ?_
  refine lv_aload_n S.1 S.2.1 dL_law_712 rfl (lv_at hl 3 rfl) ?_
  refine fx_cTi (As := [.ref N0, .int 0, .int a2, .int c3, .ref (N0 + 229)]) (rest := []) S hG (k268_L_setLabel g_a2_le_m1 hst (by omega) h0 h1 h2) (vx_cwSW 5 S.2.2.2.2 gL_law_L_setLabel rfl rfl rfl (by decide +kernel) ⟨Nat.le_of_ble_eq_true rfl, Nat.le_of_ble_eq_true rfl⟩) rfl hl.1 rfl (Nat.le_of_ble_eq_true rfl) dL_law_713 ⟨Nat.le_of_ble_eq_true rfl, Nat.le_of_ble_eq_true rfl⟩ (fun rv_u_1 u_1 H locs hp hG => ?_)
  obtain ⟨rfl, hu_1⟩ := hp
  refine W.widen (k := 232) (n := 4986) (by decide) (by decide) ?_
  refine lv_istore (lv' := [(6, .int 1), (0, .ref b), (1, .ref N0), (2, .ref (N0 + 164)), (3, .ref (N0 + 229)), (4, .ref (N0 + 230)), (5, .int 0)]) S.1 S.2.1 dL_law_716 hl (by decide) rfl (fun ls hl => ?_)
  refine lv_aload_n S.1 S.2.1 dL_law_718 rfl (lv_at hl 3 rfl) ?_
  refine lv_aload_n S.1 S.2.1 dL_law_719 rfl (lv_at hl 1 rfl) ?_
  refine lv_iload S.1 S.2.1 dL_law_720 (lv_at hl 6 rfl) ?_
  refine lv_iconst (v := 1) S.1 S.2.1 dL_law_722 (by decide) ?_
  refine lv_iadd S.1 S.2.1 dL_law_723 ?_
  refine fx_topi (y := 1) (by decide) ?_
  refine gx_sld (v := 0) S hG hX hbl (fin_l (by decide)) hx1 dL_law_724 ?_
  refine lv_aload_n S.1 S.2.1 dL_law_725 rfl (lv_at hl 1 rfl) ?_
  refine lv_iload S.1 S.2.1 dL_law_726 (lv_at hl 6 rfl) ?_
  refine lv_iconst (v := 2) S.1 S.2.1 dL_law_728 (by decide) ?_
  refine lv_iadd S.1 S.2.1 dL_law_729 ?_
  refine fx_topi (y := 2) (by decide) ?_
  refine gx_sld (v := a2) S hG hX hbl (fin_l (by decide)) hx2 dL_law_730 ?_
  refine lv_aload_n S.1 S.2.1 dL_law_731 rfl (lv_at hl 1 rfl) ?_
  refine lv_iload S.1 S.2.1 dL_law_732 (lv_at hl 6 rfl) ?_
  refine lv_iconst (v := 3) S.1 S.2.1 dL_law_734 (by decide) ?_
  refine lv_iadd S.1 S.2.1 dL_law_735 ?_
  refine fx_topi (y := 3) (by decide) ?_
  refine gx_sld (v := a3) S hG hX hbl (fin_l (by decide)) hx3 dL_law_736 ?_
  refine lv_i2c (v := c3) S.1 S.2.1 dL_law_737 hc3 ?_
  refine fx_cVi (As := [.int 0, .int a2, .int c3]) (rest := []) S hG (k269_X10_setLabel g_a2_le_m1 (by omega) h3 h4 h5) h3 rfl (cwV 3 S.2.2.2.2 gL_law_X10_setLabel rfl rfl rfl (by decide +kernel) ⟨Nat.le_of_ble_eq_true rfl, Nat.le_of_ble_eq_true rfl⟩) rfl hl.1 rfl (Nat.le_of_ble_eq_true rfl) dL_law_738 ⟨Nat.le_of_ble_eq_true rfl, Nat.le_of_ble_eq_true rfl⟩ (fun rv_2 _ H locs hp hG => ?_)
  subst rv_2
  refine lv_istore (lv' := [(7, .int 0), (6, .int 1), (0, .ref b), (1, .ref N0), (2, .ref (N0 + 164)), (3, .ref (N0 + 229)), (4, .ref (N0 + 230)), (5, .int 0)]) S.1 S.2.1 dL_law_741 hl (by decide) rfl (fun ls hl => ?_)
  refine lv_aload_n S.1 S.2.1 dL_law_743 rfl (lv_at hl 4 rfl) ?_
  refine fx_cVi (As := []) (rest := []) S hG (k25_X10_thrown (by omega) fu_s) fu_s rfl (cwV 0 S.2.2.2.2 gL_law_X10_thrown rfl rfl rfl (by decide +kernel) ⟨Nat.le_of_ble_eq_true rfl, Nat.le_of_ble_eq_true rfl⟩) rfl hl.1 rfl (Nat.le_of_ble_eq_true rfl) dL_law_744 ⟨Nat.le_of_ble_eq_true rfl, Nat.le_of_ble_eq_true rfl⟩ (fun rv_3 _ H locs hp hG => ?_)
  subst rv_3
  refine lv_iload S.1 S.2.1 dL_law_747 (lv_at hl 1 rfl) ?_
  refine lv_icmp_eq (tgt := 754) S.1 S.2.1 dL_law_749 (by decide) (fun _ => ?_) (fun c => absurd (by decide) c)
  refine lv_iload S.1 S.2.1 dL_law_754 (lv_at hl 1 rfl) ?_
  refine lv_if_ne (tgt := 771) S.1 S.2.1 dL_law_756 (by decide) (fun _ => ?_) (fun c => absurd c (by decide))
  refine lv_goto (tgt := 2650) S.1 S.2.1 dL_law_771 (by decide) ?_
  refine lv_iinc (v := 5) (lv' := [(5, .int 5), (7, .int 0), (6, .int 1), (0, .ref b), (1, .ref N0), (2, .ref (N0 + 164)), (3, .ref (N0 + 229)), (4, .ref (N0 + 230))]) S.1 S.2.1 dL_law_2650 hl (k := 7) rfl (by decide) (by decide) rfl (fun ls hl => ?_)
  refine lv_goto (tgt := 28) S.1 S.2.1 dL_law_2653 (by decide) ?_
  refine lv_iload S.1 S.2.1 dL_law_28 (lv_at hl 0 rfl) ?_
  refine lv_aload_n S.1 S.2.1 dL_law_30 rfl (lv_at hl 3 rfl) ?_
  refine gx_slen (v := 5) S hG hX hbl rfl dL_law_31 ?_
  refine lv_iconst (v := 5) S.1 S.2.1 dL_law_32 (by decide) ?_
  refine lv_isub S.1 S.2.1 dL_law_33 ?_
  refine fx_topi (y := 0) (by decide) ?_
  refine lv_icmp_gt (tgt := 2656) S.1 S.2.1 dL_law_34 (by decide) (fun _ => ?_) (fun c => absurd (by decide) c)
  refine lv_iconst (v := 1) S.1 S.2.1 dL_law_2656 (by decide) ?_
  refine va_forget (fun q hq => by rw [hN]; exact hG.2.1.2.2 q hq) ?_
  refine W.widen (k := 600002) (n := 7302232) (by decide) (by decide) ?_
  exact lw_ret (d0 := s.drawn) (Drawn.sameBut.refl _ _) S.1 S.2.1 hr hlocks dL_law_2657
theorem l8_2 {p : Program} {e : Env} {s : State} {m : MethodId} {below : List Frame} {meth : Method} {c : Code} {b : Nat} {xs : Nat → Int32} {H : Heap} {locs : List Loc} {ls : Array Slot} {n : Nat} {a3 c3 a4 : Int32} (hc3 : (a3.toUInt32 % 65536).toInt32 = c3) (g_c3_le_96 : c3 ≤ 96) (S : CallFix p m c cL_law 9 s #[.ref b] wsL_law "TreeDifferLaw") (hr : meth.sig.returnType = ret) (hlocks : meth.locks = false) (hst : l.stackTraces = false) (hX : va_X b 5 xs s s.heap) (hbl : b < s.heap.size ∧ b < N0) (hN : s.heap.size = N0) (hn : N0 + 231 ≤ n) (hx1 : xs 1 = 0) (hx2 : xs 2 = 0) (hx3 : xs 3 = a3) (hx4 : xs 4 = a4) (h0 : F N0 = some (.inr (9, [.ref (N0 + 1), .ref (N0 + 2), .ref (N0 + 11), .ref (N0 + 13), .ref (N0 + 63), .ref (N0 + 65), .ref (N0 + 85), .int (-1), .int (-1), .int 32]))) (h1 : F (N0 + 1) = some (.inl (cTr, 3, .inr (.inr (.inr (.inr (va_up (va_up (va_up (fun _ => none) 0 (some (N0 + 143))) 1 (some (N0 + 150))) 2 (some (N0 + 157))))))))) (h2 : F (N0 + 143) = some (.inr (7, [.ref (N0 + 144), .ref (N0 + 145), .ref (N0 + 146), .ref (N0 + 147), .ref (N0 + 148), .ref (N0 + 149), .int 1]))) (h3 : F (N0 + 164) = some (.inr (12, [.ref (N0 + 165), .int 0, .ref (N0 + 181), .int 0, .int 0, .int 0, .int (-1), .ref (ql 24), .ref (N0 + 182), .ref (N0 + 187), .ref (N0 + 208), .ref (N0 + 209), .ref (N0 + 210), .ref (N0 + 211), .ref (N0 + 212), .int 0, .ref (N0 + 213), .ref (N0 + 218), .ref (N0 + 223), .ref (N0 + 224), .ref (N0 + 225), .ref (N0 + 226), .ref (N0 + 227), .int 0, .int 0, .ref (N0 + 228), .null, .int (-1), .int 0, .int 0, .int 0]))) (h4 : F (N0 + 165) = some (.inl (cTm, 3, .inr (.inr (.inr (.inr (va_up (va_up (va_up (fun _ => none) 0 (some (N0 + 166))) 1 (some (N0 + 171))) 2 (some (N0 + 176))))))))) (h5 : F (N0 + 166) = some (.inr (11, [.ref (N0 + 167), .ref (N0 + 168), .ref (N0 + 169), .ref (N0 + 170), .int 1]))) (hG : fG N0 D vwCl (fty cI cC cL cD cII cTr cTm cIt cB) (fen ql) s F n H locs) (hl : lv_has ls 9 [(0, .ref b), (1, .ref N0), (2, .ref (N0 + 164)), (3, .ref (N0 + 229)), (4, .ref (N0 + 230)), (5, .int 0)]) : W p l e { frames := 2048, cells := 600002, slots := 7302232, locals := 84000 } s m #[.ref b] below meth c H locs 231 4980 (lw_Z below #[.ref b] s) (F0 m 692 ls []) := by
  have lt_h0 := hG.1.lt h0
  have lt_h1 := hG.1.lt h1
  have lt_h2 := hG.1.lt h2
  have lt_h3 := hG.1.lt h3
  have lt_h4 := hG.1.lt h4
  have lt_h5 := hG.1.lt h5
  refine lv_aload_n S.1 S.2.1 dL_law_692 rfl (lv_at hl 1 rfl) ?_
  refine lv_aload_n S.1 S.2.1 dL_law_693 rfl (lv_at hl 0 rfl) ?_
  refine lv_iload S.1 S.2.1 dL_law_694 (lv_at hl 5 rfl) ?_
  refine lv_iconst (v := 1) S.1 S.2.1 dL_law_696 (by decide) ?_
  refine lv_iadd S.1 S.2.1 dL_law_697 ?_
  refine fx_topi (y := 1) (by decide) ?_
  refine gx_sld (v := 0) S hG hX hbl (fin_l (by decide)) hx1 dL_law_698 ?_
  refine lv_aload_n S.1 S.2.1 dL_law_699 rfl (lv_at hl 0 rfl) ?_
  refine lv_iload S.1 S.2.1 dL_law_700 (lv_at hl 5 rfl) ?_
  refine lv_iconst (v := 2) S.1 S.2.1 dL_law_702 (by decide) ?_
  refine lv_iadd S.1 S.2.1 dL_law_703 ?_
  refine fx_topi (y := 2) (by decide) ?_
  refine gx_sld (v := 0) S hG hX hbl (fin_l (by decide)) hx2 dL_law_704 ?_
  refine lv_aload_n S.1 S.2.1 dL_law_705 rfl (lv_at hl 0 rfl) ?_
  refine lv_iload S.1 S.2.1 dL_law_706 (lv_at hl 5 rfl) ?_
  refine lv_iconst (v := 3) S.1 S.2.1 dL_law_708 (by decide) ?_
  refine lv_iadd S.1 S.2.1 dL_law_709 ?_
  refine fx_topi (y := 3) (by decide) ?_
  refine gx_sld (v := a3) S hG hX hbl (fin_l (by decide)) hx3 dL_law_710 ?_
  refine lv_i2c (v := c3) S.1 S.2.1 dL_law_711 hc3 ?_
  refine lv_aload_n S.1 S.2.1 dL_law_712 rfl (lv_at hl 3 rfl) ?_
  refine fx_cTi (As := [.ref N0, .int 0, .int 0, .int c3, .ref (N0 + 229)]) (rest := []) S hG (k273_L_setLabel g_c3_le_96 hst (by omega) h0 h1 h2) (vx_cwSW 5 S.2.2.2.2 gL_law_L_setLabel rfl rfl rfl (by decide +kernel) ⟨Nat.le_of_ble_eq_true rfl, Nat.le_of_ble_eq_true rfl⟩) rfl hl.1 rfl (Nat.le_of_ble_eq_true rfl) dL_law_713 ⟨Nat.le_of_ble_eq_true rfl, Nat.le_of_ble_eq_true rfl⟩ (fun rv_u_1 u_1 H locs hp hG => ?_)
  obtain ⟨rfl, hu_1⟩ := hp
  refine W.widen (k := 232) (n := 4986) (by decide) (by decide) ?_
  refine lv_istore (lv' := [(6, .int 2), (0, .ref b), (1, .ref N0), (2, .ref (N0 + 164)), (3, .ref (N0 + 229)), (4, .ref (N0 + 230)), (5, .int 0)]) S.1 S.2.1 dL_law_716 hl (by decide) rfl (fun ls hl => ?_)
  refine lv_aload_n S.1 S.2.1 dL_law_718 rfl (lv_at hl 3 rfl) ?_
  refine lv_aload_n S.1 S.2.1 dL_law_719 rfl (lv_at hl 1 rfl) ?_
  refine lv_iload S.1 S.2.1 dL_law_720 (lv_at hl 6 rfl) ?_
  refine lv_iconst (v := 1) S.1 S.2.1 dL_law_722 (by decide) ?_
  refine lv_iadd S.1 S.2.1 dL_law_723 ?_
  refine fx_topi (y := 1) (by decide) ?_
  refine gx_sld (v := 0) S hG hX hbl (fin_l (by decide)) hx1 dL_law_724 ?_
  refine lv_aload_n S.1 S.2.1 dL_law_725 rfl (lv_at hl 1 rfl) ?_
  refine lv_iload S.1 S.2.1 dL_law_726 (lv_at hl 6 rfl) ?_
  refine lv_iconst (v := 2) S.1 S.2.1 dL_law_728 (by decide) ?_
  refine lv_iadd S.1 S.2.1 dL_law_729 ?_
  refine fx_topi (y := 2) (by decide) ?_
  refine gx_sld (v := 0) S hG hX hbl (fin_l (by decide)) hx2 dL_law_730 ?_
  refine lv_aload_n S.1 S.2.1 dL_law_731 rfl (lv_at hl 1 rfl) ?_
  refine lv_iload S.1 S.2.1 dL_law_732 (lv_at hl 6 rfl) ?_
  refine lv_iconst (v := 3) S.1 S.2.1 dL_law_734 (by decide) ?_
  refine lv_iadd S.1 S.2.1 dL_law_735 ?_
  refine fx_topi (y := 3) (by decide) ?_
  refine gx_sld (v := a3) S hG hX hbl (fin_l (by decide)) hx3 dL_law_736 ?_
  refine lv_i2c (v := c3) S.1 S.2.1 dL_law_737 hc3 ?_
  refine fx_cVi (As := [.int 0, .int 0, .int c3]) (rest := []) S hG (k276_X10_setLabel g_c3_le_96 (by omega) h3 h4 h5) h3 rfl (cwV 3 S.2.2.2.2 gL_law_X10_setLabel rfl rfl rfl (by decide +kernel) ⟨Nat.le_of_ble_eq_true rfl, Nat.le_of_ble_eq_true rfl⟩) rfl hl.1 rfl (Nat.le_of_ble_eq_true rfl) dL_law_738 ⟨Nat.le_of_ble_eq_true rfl, Nat.le_of_ble_eq_true rfl⟩ (fun rv_2 _ H locs hp hG => ?_)
  subst rv_2
  refine lv_istore (lv' := [(7, .int 0), (6, .int 2), (0, .ref b), (1, .ref N0), (2, .ref (N0 + 164)), (3, .ref (N0 + 229)), (4, .ref (N0 + 230)), (5, .int 0)]) S.1 S.2.1 dL_law_741 hl (by decide) rfl (fun ls hl => ?_)
  refine lv_aload_n S.1 S.2.1 dL_law_743 rfl (lv_at hl 4 rfl) ?_
  refine fx_cVi (As := []) (rest := []) S hG (k101_X10_thrown (by omega) fu_s) fu_s rfl (cwV 0 S.2.2.2.2 gL_law_X10_thrown rfl rfl rfl (by decide +kernel) ⟨Nat.le_of_ble_eq_true rfl, Nat.le_of_ble_eq_true rfl⟩) rfl hl.1 rfl (Nat.le_of_ble_eq_true rfl) dL_law_744 ⟨Nat.le_of_ble_eq_true rfl, Nat.le_of_ble_eq_true rfl⟩ (fun rv_3 _ H locs hp hG => ?_)
  subst rv_3
  refine lv_iload S.1 S.2.1 dL_law_747 (lv_at hl 1 rfl) ?_
  refine lv_icmp_eq (tgt := 754) S.1 S.2.1 dL_law_749 (by decide) (fun _ => ?_) (fun c => absurd (by decide) c)
  refine lv_iload S.1 S.2.1 dL_law_754 (lv_at hl 1 rfl) ?_
  refine lv_if_ne (tgt := 771) S.1 S.2.1 dL_law_756 (by decide) (fun _ => ?_) (fun c => absurd c (by decide))
  refine lv_goto (tgt := 2650) S.1 S.2.1 dL_law_771 (by decide) ?_
  refine lv_iinc (v := 5) (lv' := [(5, .int 5), (7, .int 0), (6, .int 2), (0, .ref b), (1, .ref N0), (2, .ref (N0 + 164)), (3, .ref (N0 + 229)), (4, .ref (N0 + 230))]) S.1 S.2.1 dL_law_2650 hl (k := 7) rfl (by decide) (by decide) rfl (fun ls hl => ?_)
  refine lv_goto (tgt := 28) S.1 S.2.1 dL_law_2653 (by decide) ?_
  refine lv_iload S.1 S.2.1 dL_law_28 (lv_at hl 0 rfl) ?_
  refine lv_aload_n S.1 S.2.1 dL_law_30 rfl (lv_at hl 3 rfl) ?_
  refine gx_slen (v := 5) S hG hX hbl rfl dL_law_31 ?_
  refine lv_iconst (v := 5) S.1 S.2.1 dL_law_32 (by decide) ?_
  refine lv_isub S.1 S.2.1 dL_law_33 ?_
  refine fx_topi (y := 0) (by decide) ?_
  refine lv_icmp_gt (tgt := 2656) S.1 S.2.1 dL_law_34 (by decide) (fun _ => ?_) (fun c => absurd (by decide) c)
  refine lv_iconst (v := 1) S.1 S.2.1 dL_law_2656 (by decide) ?_
  refine va_forget (fun q hq => by rw [hN]; exact hG.2.1.2.2 q hq) ?_
  refine W.widen (k := 600002) (n := 7302232) (by decide) (by decide) ?_
  exact lw_ret (d0 := s.drawn) (Drawn.sameBut.refl _ _) S.1 S.2.1 hr hlocks dL_law_2657
theorem l8_3 {p : Program} {e : Env} {s : State} {m : MethodId} {below : List Frame} {meth : Method} {c : Code} {b : Nat} {xs : Nat → Int32} {H : Heap} {locs : List Loc} {ls : Array Slot} {n : Nat} {a3 c3 a4 : Int32} (hc3 : (a3.toUInt32 % 65536).toInt32 = c3) (g_c3_ge_97 : 97 ≤ c3) (g_c3_le_122 : c3 ≤ 122) (hv3 : vp_nar .char c3 = c3) (S : CallFix p m c cL_law 9 s #[.ref b] wsL_law "TreeDifferLaw") (hr : meth.sig.returnType = ret) (hlocks : meth.locks = false) (hst : l.stackTraces = false) (hX : va_X b 5 xs s s.heap) (hbl : b < s.heap.size ∧ b < N0) (hN : s.heap.size = N0) (hn : N0 + 231 ≤ n) (hx1 : xs 1 = 0) (hx2 : xs 2 = 0) (hx3 : xs 3 = a3) (hx4 : xs 4 = a4) (h0 : F N0 = some (.inr (9, [.ref (N0 + 1), .ref (N0 + 2), .ref (N0 + 11), .ref (N0 + 13), .ref (N0 + 63), .ref (N0 + 65), .ref (N0 + 85), .int (-1), .int (-1), .int 32]))) (h1 : F (N0 + 1) = some (.inl (cTr, 3, .inr (.inr (.inr (.inr (va_up (va_up (va_up (fun _ => none) 0 (some (N0 + 143))) 1 (some (N0 + 150))) 2 (some (N0 + 157))))))))) (h2 : F (N0 + 143) = some (.inr (7, [.ref (N0 + 144), .ref (N0 + 145), .ref (N0 + 146), .ref (N0 + 147), .ref (N0 + 148), .ref (N0 + 149), .int 1]))) (h3 : F (N0 + 144) = some (.inl (cC, 20, .inl (upd (fun _ => 0) 0 97)))) (h4 : F (N0 + 229) = some (.inl (cL, 1, .inr (.inl (fun _ => 0))))) (h5 : F (N0 + 164) = some (.inr (12, [.ref (N0 + 165), .int 0, .ref (N0 + 181), .int 0, .int 0, .int 0, .int (-1), .ref (ql 24), .ref (N0 + 182), .ref (N0 + 187), .ref (N0 + 208), .ref (N0 + 209), .ref (N0 + 210), .ref (N0 + 211), .ref (N0 + 212), .int 0, .ref (N0 + 213), .ref (N0 + 218), .ref (N0 + 223), .ref (N0 + 224), .ref (N0 + 225), .ref (N0 + 226), .ref (N0 + 227), .int 0, .int 0, .ref (N0 + 228), .null, .int (-1), .int 0, .int 0, .int 0]))) (h6 : F (N0 + 165) = some (.inl (cTm, 3, .inr (.inr (.inr (.inr (va_up (va_up (va_up (fun _ => none) 0 (some (N0 + 166))) 1 (some (N0 + 171))) 2 (some (N0 + 176))))))))) (h7 : F (N0 + 166) = some (.inr (11, [.ref (N0 + 167), .ref (N0 + 168), .ref (N0 + 169), .ref (N0 + 170), .int 1]))) (h8 : F (N0 + 167) = some (.inl (cI, 20, .inl (upd (fun _ => 0) 0 97)))) (hG : fG N0 D vwCl (fty cI cC cL cD cII cTr cTm cIt cB) (fen ql) s F n H locs) (hl : lv_has ls 9 [(0, .ref b), (1, .ref N0), (2, .ref (N0 + 164)), (3, .ref (N0 + 229)), (4, .ref (N0 + 230)), (5, .int 0)]) : W p l e { frames := 2048, cells := 600002, slots := 7302232, locals := 84000 } s m #[.ref b] below meth c H locs 231 4980 (lw_Z below #[.ref b] s) (F0 m 692 ls []) := by
  have lt_h0 := hG.1.lt h0
  have lt_h1 := hG.1.lt h1
  have lt_h2 := hG.1.lt h2
  have lt_h3 := hG.1.lt h3
  have lt_h4 := hG.1.lt h4
  have lt_h5 := hG.1.lt h5
  have lt_h6 := hG.1.lt h6
  have lt_h7 := hG.1.lt h7
  have lt_h8 := hG.1.lt h8
  refine lv_aload_n S.1 S.2.1 dL_law_692 rfl (lv_at hl 1 rfl) ?_
  refine lv_aload_n S.1 S.2.1 dL_law_693 rfl (lv_at hl 0 rfl) ?_
  refine lv_iload S.1 S.2.1 dL_law_694 (lv_at hl 5 rfl) ?_
  refine lv_iconst (v := 1) S.1 S.2.1 dL_law_696 (by decide) ?_
  refine lv_iadd S.1 S.2.1 dL_law_697 ?_
  refine fx_topi (y := 1) (by decide) ?_
  refine gx_sld (v := 0) S hG hX hbl (fin_l (by decide)) hx1 dL_law_698 ?_
  refine lv_aload_n S.1 S.2.1 dL_law_699 rfl (lv_at hl 0 rfl) ?_
  refine lv_iload S.1 S.2.1 dL_law_700 (lv_at hl 5 rfl) ?_
  refine lv_iconst (v := 2) S.1 S.2.1 dL_law_702 (by decide) ?_
  refine lv_iadd S.1 S.2.1 dL_law_703 ?_
  refine fx_topi (y := 2) (by decide) ?_
  refine gx_sld (v := 0) S hG hX hbl (fin_l (by decide)) hx2 dL_law_704 ?_
  refine lv_aload_n S.1 S.2.1 dL_law_705 rfl (lv_at hl 0 rfl) ?_
  refine lv_iload S.1 S.2.1 dL_law_706 (lv_at hl 5 rfl) ?_
  refine lv_iconst (v := 3) S.1 S.2.1 dL_law_708 (by decide) ?_
  refine lv_iadd S.1 S.2.1 dL_law_709 ?_
  refine fx_topi (y := 3) (by decide) ?_
  refine gx_sld (v := a3) S hG hX hbl (fin_l (by decide)) hx3 dL_law_710 ?_
  refine lv_i2c (v := c3) S.1 S.2.1 dL_law_711 hc3 ?_
  refine lv_aload_n S.1 S.2.1 dL_law_712 rfl (lv_at hl 3 rfl) ?_
  refine fx_cTi (As := [.ref N0, .int 0, .int 0, .int c3, .ref (N0 + 229)]) (rest := []) S hG (k281_L_setLabel g_c3_ge_97 g_c3_le_122 hv3 (by omega) h0 h1 h2 h3 h4) (vx_cwSW 5 S.2.2.2.2 gL_law_L_setLabel rfl rfl rfl (by decide +kernel) ⟨Nat.le_of_ble_eq_true rfl, Nat.le_of_ble_eq_true rfl⟩) rfl hl.1 rfl (Nat.le_of_ble_eq_true rfl) dL_law_713 ⟨Nat.le_of_ble_eq_true rfl, Nat.le_of_ble_eq_true rfl⟩ (fun rv_1 _ H locs hp hG => ?_)
  subst rv_1
  refine lv_istore (lv' := [(6, .int 0), (0, .ref b), (1, .ref N0), (2, .ref (N0 + 164)), (3, .ref (N0 + 229)), (4, .ref (N0 + 230)), (5, .int 0)]) S.1 S.2.1 dL_law_716 hl (by decide) rfl (fun ls hl => ?_)
  refine lv_aload_n S.1 S.2.1 dL_law_718 rfl (lv_at hl 3 rfl) ?_
  refine lv_aload_n S.1 S.2.1 dL_law_719 rfl (lv_at hl 1 rfl) ?_
  refine lv_iload S.1 S.2.1 dL_law_720 (lv_at hl 6 rfl) ?_
  refine lv_iconst (v := 1) S.1 S.2.1 dL_law_722 (by decide) ?_
  refine lv_iadd S.1 S.2.1 dL_law_723 ?_
  refine fx_topi (y := 1) (by decide) ?_
  refine gx_sld (v := 0) S hG hX hbl (fin_l (by decide)) hx1 dL_law_724 ?_
  refine lv_aload_n S.1 S.2.1 dL_law_725 rfl (lv_at hl 1 rfl) ?_
  refine lv_iload S.1 S.2.1 dL_law_726 (lv_at hl 6 rfl) ?_
  refine lv_iconst (v := 2) S.1 S.2.1 dL_law_728 (by decide) ?_
  refine lv_iadd S.1 S.2.1 dL_law_729 ?_
  refine fx_topi (y := 2) (by decide) ?_
  refine gx_sld (v := 0) S hG hX hbl (fin_l (by decide)) hx2 dL_law_730 ?_
  refine lv_aload_n S.1 S.2.1 dL_law_731 rfl (lv_at hl 1 rfl) ?_
  refine lv_iload S.1 S.2.1 dL_law_732 (lv_at hl 6 rfl) ?_
  refine lv_iconst (v := 3) S.1 S.2.1 dL_law_734 (by decide) ?_
  refine lv_iadd S.1 S.2.1 dL_law_735 ?_
  refine fx_topi (y := 3) (by decide) ?_
  refine gx_sld (v := a3) S hG hX hbl (fin_l (by decide)) hx3 dL_law_736 ?_
  refine lv_i2c (v := c3) S.1 S.2.1 dL_law_737 hc3 ?_
  refine fx_cVi (As := [.int 0, .int 0, .int c3]) (rest := []) S hG (k284_X10_setLabel g_c3_ge_97 g_c3_le_122 (by omega) (fu_at (by omega) (fu_at (by omega) h5)) (fu_at (by omega) (fu_at (by omega) h6)) (fu_at (by omega) (fu_at (by omega) h7)) (fu_at (by omega) (fu_at (by omega) h8))) (fu_at (by omega) (fu_at (by omega) h5)) rfl (cwV 3 S.2.2.2.2 gL_law_X10_setLabel rfl rfl rfl (by decide +kernel) ⟨Nat.le_of_ble_eq_true rfl, Nat.le_of_ble_eq_true rfl⟩) rfl hl.1 rfl (Nat.le_of_ble_eq_true rfl) dL_law_738 ⟨Nat.le_of_ble_eq_true rfl, Nat.le_of_ble_eq_true rfl⟩ (fun rv_2 _ H locs hp hG => ?_)
  subst rv_2
  refine lv_istore (lv' := [(7, .int 1), (6, .int 0), (0, .ref b), (1, .ref N0), (2, .ref (N0 + 164)), (3, .ref (N0 + 229)), (4, .ref (N0 + 230)), (5, .int 0)]) S.1 S.2.1 dL_law_741 hl (by decide) rfl (fun ls hl => ?_)
  refine lv_aload_n S.1 S.2.1 dL_law_743 rfl (lv_at hl 4 rfl) ?_
  refine fx_cVi (As := []) (rest := []) S hG (k117_X10_thrown (by omega) (fu_at (by omega) fu_s)) (fu_at (by omega) fu_s) rfl (cwV 0 S.2.2.2.2 gL_law_X10_thrown rfl rfl rfl (by decide +kernel) ⟨Nat.le_of_ble_eq_true rfl, Nat.le_of_ble_eq_true rfl⟩) rfl hl.1 rfl (Nat.le_of_ble_eq_true rfl) dL_law_744 ⟨Nat.le_of_ble_eq_true rfl, Nat.le_of_ble_eq_true rfl⟩ (fun rv_3 _ H locs hp hG => ?_)
  subst rv_3
  refine lv_iload S.1 S.2.1 dL_law_747 (lv_at hl 1 rfl) ?_
  refine lv_icmp_eq (tgt := 754) S.1 S.2.1 dL_law_749 (by decide) (fun _ => ?_) (fun c => absurd (by decide) c)
  refine lv_iload S.1 S.2.1 dL_law_754 (lv_at hl 1 rfl) ?_
  refine lv_if_ne (tgt := 771) S.1 S.2.1 dL_law_756 (by decide) (fun c => absurd (by decide) c) (fun _ => ?_)
  refine lv_aload_n S.1 S.2.1 dL_law_759 rfl (lv_at hl 5 rfl) ?_
  refine lv_iconst (v := 0) S.1 S.2.1 dL_law_760 (by decide) ?_
  refine gx_lald (v := 1) S hG 2 (fu_at (by omega) (fu_at (by omega) fu_s)) rfl (fin_l (by decide)) rfl dL_law_761 ?_
  refine lv_iload S.1 S.2.1 dL_law_762 (lv_at hl 0 rfl) ?_
  refine lv_i2l (v := 1) S.1 S.2.1 dL_law_764 (by decide) ?_
  refine gx_lcmpEq S rfl dL_law_765 ?_
  refine lv_if_eq (tgt := 771) S.1 S.2.1 dL_law_766 (by decide) (fun _ => ?_) (fun c => absurd (by decide) c)
  refine lv_goto (tgt := 2650) S.1 S.2.1 dL_law_771 (by decide) ?_
  refine lv_iinc (v := 5) (lv' := [(5, .int 5), (7, .int 1), (6, .int 0), (0, .ref b), (1, .ref N0), (2, .ref (N0 + 164)), (3, .ref (N0 + 229)), (4, .ref (N0 + 230))]) S.1 S.2.1 dL_law_2650 hl (k := 7) rfl (by decide) (by decide) rfl (fun ls hl => ?_)
  refine lv_goto (tgt := 28) S.1 S.2.1 dL_law_2653 (by decide) ?_
  refine lv_iload S.1 S.2.1 dL_law_28 (lv_at hl 0 rfl) ?_
  refine lv_aload_n S.1 S.2.1 dL_law_30 rfl (lv_at hl 3 rfl) ?_
  refine gx_slen (v := 5) S hG hX hbl rfl dL_law_31 ?_
  refine lv_iconst (v := 5) S.1 S.2.1 dL_law_32 (by decide) ?_
  refine lv_isub S.1 S.2.1 dL_law_33 ?_
  refine fx_topi (y := 0) (by decide) ?_
  refine lv_icmp_gt (tgt := 2656) S.1 S.2.1 dL_law_34 (by decide) (fun _ => ?_) (fun c => absurd (by decide) c)
  refine lv_iconst (v := 1) S.1 S.2.1 dL_law_2656 (by decide) ?_
  refine va_forget (fun q hq => by rw [hN]; exact hG.2.1.2.2 q hq) ?_
  refine W.widen (k := 600002) (n := 7302232) (by decide) (by decide) ?_
  exact lw_ret (d0 := s.drawn) (Drawn.sameBut.refl _ _) S.1 S.2.1 hr hlocks dL_law_2657
theorem l8_4 {p : Program} {e : Env} {s : State} {m : MethodId} {below : List Frame} {meth : Method} {c : Code} {b : Nat} {xs : Nat → Int32} {H : Heap} {locs : List Loc} {ls : Array Slot} {n : Nat} {a3 c3 a4 : Int32} (hc3 : (a3.toUInt32 % 65536).toInt32 = c3) (g_c3_ge_123 : 123 ≤ c3) (S : CallFix p m c cL_law 9 s #[.ref b] wsL_law "TreeDifferLaw") (hr : meth.sig.returnType = ret) (hlocks : meth.locks = false) (hst : l.stackTraces = false) (hX : va_X b 5 xs s s.heap) (hbl : b < s.heap.size ∧ b < N0) (hN : s.heap.size = N0) (hn : N0 + 231 ≤ n) (hx1 : xs 1 = 0) (hx2 : xs 2 = 0) (hx3 : xs 3 = a3) (hx4 : xs 4 = a4) (h0 : F N0 = some (.inr (9, [.ref (N0 + 1), .ref (N0 + 2), .ref (N0 + 11), .ref (N0 + 13), .ref (N0 + 63), .ref (N0 + 65), .ref (N0 + 85), .int (-1), .int (-1), .int 32]))) (h1 : F (N0 + 1) = some (.inl (cTr, 3, .inr (.inr (.inr (.inr (va_up (va_up (va_up (fun _ => none) 0 (some (N0 + 143))) 1 (some (N0 + 150))) 2 (some (N0 + 157))))))))) (h2 : F (N0 + 143) = some (.inr (7, [.ref (N0 + 144), .ref (N0 + 145), .ref (N0 + 146), .ref (N0 + 147), .ref (N0 + 148), .ref (N0 + 149), .int 1]))) (h3 : F (N0 + 164) = some (.inr (12, [.ref (N0 + 165), .int 0, .ref (N0 + 181), .int 0, .int 0, .int 0, .int (-1), .ref (ql 24), .ref (N0 + 182), .ref (N0 + 187), .ref (N0 + 208), .ref (N0 + 209), .ref (N0 + 210), .ref (N0 + 211), .ref (N0 + 212), .int 0, .ref (N0 + 213), .ref (N0 + 218), .ref (N0 + 223), .ref (N0 + 224), .ref (N0 + 225), .ref (N0 + 226), .ref (N0 + 227), .int 0, .int 0, .ref (N0 + 228), .null, .int (-1), .int 0, .int 0, .int 0]))) (h4 : F (N0 + 165) = some (.inl (cTm, 3, .inr (.inr (.inr (.inr (va_up (va_up (va_up (fun _ => none) 0 (some (N0 + 166))) 1 (some (N0 + 171))) 2 (some (N0 + 176))))))))) (h5 : F (N0 + 166) = some (.inr (11, [.ref (N0 + 167), .ref (N0 + 168), .ref (N0 + 169), .ref (N0 + 170), .int 1]))) (hG : fG N0 D vwCl (fty cI cC cL cD cII cTr cTm cIt cB) (fen ql) s F n H locs) (hl : lv_has ls 9 [(0, .ref b), (1, .ref N0), (2, .ref (N0 + 164)), (3, .ref (N0 + 229)), (4, .ref (N0 + 230)), (5, .int 0)]) : W p l e { frames := 2048, cells := 600002, slots := 7302232, locals := 84000 } s m #[.ref b] below meth c H locs 231 4980 (lw_Z below #[.ref b] s) (F0 m 692 ls []) := by
  have lt_h0 := hG.1.lt h0
  have lt_h1 := hG.1.lt h1
  have lt_h2 := hG.1.lt h2
  have lt_h3 := hG.1.lt h3
  have lt_h4 := hG.1.lt h4
  have lt_h5 := hG.1.lt h5
  refine lv_aload_n S.1 S.2.1 dL_law_692 rfl (lv_at hl 1 rfl) ?_
  refine lv_aload_n S.1 S.2.1 dL_law_693 rfl (lv_at hl 0 rfl) ?_
  refine lv_iload S.1 S.2.1 dL_law_694 (lv_at hl 5 rfl) ?_
  refine lv_iconst (v := 1) S.1 S.2.1 dL_law_696 (by decide) ?_
  refine lv_iadd S.1 S.2.1 dL_law_697 ?_
  refine fx_topi (y := 1) (by decide) ?_
  refine gx_sld (v := 0) S hG hX hbl (fin_l (by decide)) hx1 dL_law_698 ?_
  refine lv_aload_n S.1 S.2.1 dL_law_699 rfl (lv_at hl 0 rfl) ?_
  refine lv_iload S.1 S.2.1 dL_law_700 (lv_at hl 5 rfl) ?_
  refine lv_iconst (v := 2) S.1 S.2.1 dL_law_702 (by decide) ?_
  refine lv_iadd S.1 S.2.1 dL_law_703 ?_
  refine fx_topi (y := 2) (by decide) ?_
  refine gx_sld (v := 0) S hG hX hbl (fin_l (by decide)) hx2 dL_law_704 ?_
  refine lv_aload_n S.1 S.2.1 dL_law_705 rfl (lv_at hl 0 rfl) ?_
  refine lv_iload S.1 S.2.1 dL_law_706 (lv_at hl 5 rfl) ?_
  refine lv_iconst (v := 3) S.1 S.2.1 dL_law_708 (by decide) ?_
  refine lv_iadd S.1 S.2.1 dL_law_709 ?_
  refine fx_topi (y := 3) (by decide) ?_
  refine gx_sld (v := a3) S hG hX hbl (fin_l (by decide)) hx3 dL_law_710 ?_
  refine lv_i2c (v := c3) S.1 S.2.1 dL_law_711 hc3 ?_
  refine lv_aload_n S.1 S.2.1 dL_law_712 rfl (lv_at hl 3 rfl) ?_
  refine fx_cTi (As := [.ref N0, .int 0, .int 0, .int c3, .ref (N0 + 229)]) (rest := []) S hG (k288_L_setLabel g_c3_ge_123 hst (by omega) h0 h1 h2) (vx_cwSW 5 S.2.2.2.2 gL_law_L_setLabel rfl rfl rfl (by decide +kernel) ⟨Nat.le_of_ble_eq_true rfl, Nat.le_of_ble_eq_true rfl⟩) rfl hl.1 rfl (Nat.le_of_ble_eq_true rfl) dL_law_713 ⟨Nat.le_of_ble_eq_true rfl, Nat.le_of_ble_eq_true rfl⟩ (fun rv_u_1 u_1 H locs hp hG => ?_)
  obtain ⟨rfl, hu_1⟩ := hp
  refine W.widen (k := 232) (n := 4986) (by decide) (by decide) ?_
  refine lv_istore (lv' := [(6, .int 2), (0, .ref b), (1, .ref N0), (2, .ref (N0 + 164)), (3, .ref (N0 + 229)), (4, .ref (N0 + 230)), (5, .int 0)]) S.1 S.2.1 dL_law_716 hl (by decide) rfl (fun ls hl => ?_)
  refine lv_aload_n S.1 S.2.1 dL_law_718 rfl (lv_at hl 3 rfl) ?_
  refine lv_aload_n S.1 S.2.1 dL_law_719 rfl (lv_at hl 1 rfl) ?_
  refine lv_iload S.1 S.2.1 dL_law_720 (lv_at hl 6 rfl) ?_
  refine lv_iconst (v := 1) S.1 S.2.1 dL_law_722 (by decide) ?_
  refine lv_iadd S.1 S.2.1 dL_law_723 ?_
  refine fx_topi (y := 1) (by decide) ?_
  refine gx_sld (v := 0) S hG hX hbl (fin_l (by decide)) hx1 dL_law_724 ?_
  refine lv_aload_n S.1 S.2.1 dL_law_725 rfl (lv_at hl 1 rfl) ?_
  refine lv_iload S.1 S.2.1 dL_law_726 (lv_at hl 6 rfl) ?_
  refine lv_iconst (v := 2) S.1 S.2.1 dL_law_728 (by decide) ?_
  refine lv_iadd S.1 S.2.1 dL_law_729 ?_
  refine fx_topi (y := 2) (by decide) ?_
  refine gx_sld (v := 0) S hG hX hbl (fin_l (by decide)) hx2 dL_law_730 ?_
  refine lv_aload_n S.1 S.2.1 dL_law_731 rfl (lv_at hl 1 rfl) ?_
  refine lv_iload S.1 S.2.1 dL_law_732 (lv_at hl 6 rfl) ?_
  refine lv_iconst (v := 3) S.1 S.2.1 dL_law_734 (by decide) ?_
  refine lv_iadd S.1 S.2.1 dL_law_735 ?_
  refine fx_topi (y := 3) (by decide) ?_
  refine gx_sld (v := a3) S hG hX hbl (fin_l (by decide)) hx3 dL_law_736 ?_
  refine lv_i2c (v := c3) S.1 S.2.1 dL_law_737 hc3 ?_
  refine fx_cVi (As := [.int 0, .int 0, .int c3]) (rest := []) S hG (k291_X10_setLabel g_c3_ge_123 (by omega) h3 h4 h5) h3 rfl (cwV 3 S.2.2.2.2 gL_law_X10_setLabel rfl rfl rfl (by decide +kernel) ⟨Nat.le_of_ble_eq_true rfl, Nat.le_of_ble_eq_true rfl⟩) rfl hl.1 rfl (Nat.le_of_ble_eq_true rfl) dL_law_738 ⟨Nat.le_of_ble_eq_true rfl, Nat.le_of_ble_eq_true rfl⟩ (fun rv_2 _ H locs hp hG => ?_)
  subst rv_2
  refine lv_istore (lv' := [(7, .int 0), (6, .int 2), (0, .ref b), (1, .ref N0), (2, .ref (N0 + 164)), (3, .ref (N0 + 229)), (4, .ref (N0 + 230)), (5, .int 0)]) S.1 S.2.1 dL_law_741 hl (by decide) rfl (fun ls hl => ?_)
  refine lv_aload_n S.1 S.2.1 dL_law_743 rfl (lv_at hl 4 rfl) ?_
  refine fx_cVi (As := []) (rest := []) S hG (k101_X10_thrown (by omega) fu_s) fu_s rfl (cwV 0 S.2.2.2.2 gL_law_X10_thrown rfl rfl rfl (by decide +kernel) ⟨Nat.le_of_ble_eq_true rfl, Nat.le_of_ble_eq_true rfl⟩) rfl hl.1 rfl (Nat.le_of_ble_eq_true rfl) dL_law_744 ⟨Nat.le_of_ble_eq_true rfl, Nat.le_of_ble_eq_true rfl⟩ (fun rv_3 _ H locs hp hG => ?_)
  subst rv_3
  refine lv_iload S.1 S.2.1 dL_law_747 (lv_at hl 1 rfl) ?_
  refine lv_icmp_eq (tgt := 754) S.1 S.2.1 dL_law_749 (by decide) (fun _ => ?_) (fun c => absurd (by decide) c)
  refine lv_iload S.1 S.2.1 dL_law_754 (lv_at hl 1 rfl) ?_
  refine lv_if_ne (tgt := 771) S.1 S.2.1 dL_law_756 (by decide) (fun _ => ?_) (fun c => absurd c (by decide))
  refine lv_goto (tgt := 2650) S.1 S.2.1 dL_law_771 (by decide) ?_
  refine lv_iinc (v := 5) (lv' := [(5, .int 5), (7, .int 0), (6, .int 2), (0, .ref b), (1, .ref N0), (2, .ref (N0 + 164)), (3, .ref (N0 + 229)), (4, .ref (N0 + 230))]) S.1 S.2.1 dL_law_2650 hl (k := 7) rfl (by decide) (by decide) rfl (fun ls hl => ?_)
  refine lv_goto (tgt := 28) S.1 S.2.1 dL_law_2653 (by decide) ?_
  refine lv_iload S.1 S.2.1 dL_law_28 (lv_at hl 0 rfl) ?_
  refine lv_aload_n S.1 S.2.1 dL_law_30 rfl (lv_at hl 3 rfl) ?_
  refine gx_slen (v := 5) S hG hX hbl rfl dL_law_31 ?_
  refine lv_iconst (v := 5) S.1 S.2.1 dL_law_32 (by decide) ?_
  refine lv_isub S.1 S.2.1 dL_law_33 ?_
  refine fx_topi (y := 0) (by decide) ?_
  refine lv_icmp_gt (tgt := 2656) S.1 S.2.1 dL_law_34 (by decide) (fun _ => ?_) (fun c => absurd (by decide) c)
  refine lv_iconst (v := 1) S.1 S.2.1 dL_law_2656 (by decide) ?_
  refine va_forget (fun q hq => by rw [hN]; exact hG.2.1.2.2 q hq) ?_
  refine W.widen (k := 600002) (n := 7302232) (by decide) (by decide) ?_
  exact lw_ret (d0 := s.drawn) (Drawn.sameBut.refl _ _) S.1 S.2.1 hr hlocks dL_law_2657
theorem l8_5 {p : Program} {e : Env} {s : State} {m : MethodId} {below : List Frame} {meth : Method} {c : Code} {b : Nat} {xs : Nat → Int32} {H : Heap} {locs : List Loc} {ls : Array Slot} {n : Nat} {a2 a3 c3 a4 : Int32} (hc3 : (a3.toUInt32 % 65536).toInt32 = c3) (g_a2_ge_1 : 1 ≤ a2) (S : CallFix p m c cL_law 9 s #[.ref b] wsL_law "TreeDifferLaw") (hr : meth.sig.returnType = ret) (hlocks : meth.locks = false) (hst : l.stackTraces = false) (hX : va_X b 5 xs s s.heap) (hbl : b < s.heap.size ∧ b < N0) (hN : s.heap.size = N0) (hn : N0 + 231 ≤ n) (hx1 : xs 1 = 0) (hx2 : xs 2 = a2) (hx3 : xs 3 = a3) (hx4 : xs 4 = a4) (h0 : F N0 = some (.inr (9, [.ref (N0 + 1), .ref (N0 + 2), .ref (N0 + 11), .ref (N0 + 13), .ref (N0 + 63), .ref (N0 + 65), .ref (N0 + 85), .int (-1), .int (-1), .int 32]))) (h1 : F (N0 + 1) = some (.inl (cTr, 3, .inr (.inr (.inr (.inr (va_up (va_up (va_up (fun _ => none) 0 (some (N0 + 143))) 1 (some (N0 + 150))) 2 (some (N0 + 157))))))))) (h2 : F (N0 + 143) = some (.inr (7, [.ref (N0 + 144), .ref (N0 + 145), .ref (N0 + 146), .ref (N0 + 147), .ref (N0 + 148), .ref (N0 + 149), .int 1]))) (h3 : F (N0 + 164) = some (.inr (12, [.ref (N0 + 165), .int 0, .ref (N0 + 181), .int 0, .int 0, .int 0, .int (-1), .ref (ql 24), .ref (N0 + 182), .ref (N0 + 187), .ref (N0 + 208), .ref (N0 + 209), .ref (N0 + 210), .ref (N0 + 211), .ref (N0 + 212), .int 0, .ref (N0 + 213), .ref (N0 + 218), .ref (N0 + 223), .ref (N0 + 224), .ref (N0 + 225), .ref (N0 + 226), .ref (N0 + 227), .int 0, .int 0, .ref (N0 + 228), .null, .int (-1), .int 0, .int 0, .int 0]))) (h4 : F (N0 + 165) = some (.inl (cTm, 3, .inr (.inr (.inr (.inr (va_up (va_up (va_up (fun _ => none) 0 (some (N0 + 166))) 1 (some (N0 + 171))) 2 (some (N0 + 176))))))))) (h5 : F (N0 + 166) = some (.inr (11, [.ref (N0 + 167), .ref (N0 + 168), .ref (N0 + 169), .ref (N0 + 170), .int 1]))) (hG : fG N0 D vwCl (fty cI cC cL cD cII cTr cTm cIt cB) (fen ql) s F n H locs) (hl : lv_has ls 9 [(0, .ref b), (1, .ref N0), (2, .ref (N0 + 164)), (3, .ref (N0 + 229)), (4, .ref (N0 + 230)), (5, .int 0)]) : W p l e { frames := 2048, cells := 600002, slots := 7302232, locals := 84000 } s m #[.ref b] below meth c H locs 231 4980 (lw_Z below #[.ref b] s) (F0 m 692 ls []) := by
  have lt_h0 := hG.1.lt h0
  have lt_h1 := hG.1.lt h1
  have lt_h2 := hG.1.lt h2
  have lt_h3 := hG.1.lt h3
  have lt_h4 := hG.1.lt h4
  have lt_h5 := hG.1.lt h5
  refine lv_aload_n S.1 S.2.1 dL_law_692 rfl (lv_at hl 1 rfl) ?_
  refine lv_aload_n S.1 S.2.1 dL_law_693 rfl (lv_at hl 0 rfl) ?_
  refine lv_iload S.1 S.2.1 dL_law_694 (lv_at hl 5 rfl) ?_
  refine lv_iconst (v := 1) S.1 S.2.1 dL_law_696 (by decide) ?_
  refine lv_iadd S.1 S.2.1 dL_law_697 ?_
  refine fx_topi (y := 1) (by decide) ?_
  refine gx_sld (v := 0) S hG hX hbl (fin_l (by decide)) hx1 dL_law_698 ?_
  refine lv_aload_n S.1 S.2.1 dL_law_699 rfl (lv_at hl 0 rfl) ?_
  refine lv_iload S.1 S.2.1 dL_law_700 (lv_at hl 5 rfl) ?_
  refine lv_iconst (v := 2) S.1 S.2.1 dL_law_702 (by decide) ?_
  refine lv_iadd S.1 S.2.1 dL_law_703 ?_
  refine fx_topi (y := 2) (by decide) ?_
  refine gx_sld (v := a2) S hG hX hbl (fin_l (by decide)) hx2 dL_law_704 ?_
  refine lv_aload_n S.1 S.2.1 dL_law_705 rfl (lv_at hl 0 rfl) ?_
  refine lv_iload S.1 S.2.1 dL_law_706 (lv_at hl 5 rfl) ?_
  refine lv_iconst (v := 3) S.1 S.2.1 dL_law_708 (by decide) ?_
  refine lv_iadd S.1 S.2.1 dL_law_709 ?_
  refine fx_topi (y := 3) (by decide) ?_
  refine gx_sld (v := a3) S hG hX hbl (fin_l (by decide)) hx3 dL_law_710 ?_
  refine lv_i2c (v := c3) S.1 S.2.1 dL_law_711 hc3 ?_
  refine lv_aload_n S.1 S.2.1 dL_law_712 rfl (lv_at hl 3 rfl) ?_
  refine fx_cTi (As := [.ref N0, .int 0, .int a2, .int c3, .ref (N0 + 229)]) (rest := []) S hG (k293_L_setLabel g_a2_ge_1 hst (by omega) h0 h1 h2) (vx_cwSW 5 S.2.2.2.2 gL_law_L_setLabel rfl rfl rfl (by decide +kernel) ⟨Nat.le_of_ble_eq_true rfl, Nat.le_of_ble_eq_true rfl⟩) rfl hl.1 rfl (Nat.le_of_ble_eq_true rfl) dL_law_713 ⟨Nat.le_of_ble_eq_true rfl, Nat.le_of_ble_eq_true rfl⟩ (fun rv_u_1 u_1 H locs hp hG => ?_)
  obtain ⟨rfl, hu_1⟩ := hp
  refine W.widen (k := 232) (n := 4986) (by decide) (by decide) ?_
  refine lv_istore (lv' := [(6, .int 1), (0, .ref b), (1, .ref N0), (2, .ref (N0 + 164)), (3, .ref (N0 + 229)), (4, .ref (N0 + 230)), (5, .int 0)]) S.1 S.2.1 dL_law_716 hl (by decide) rfl (fun ls hl => ?_)
  refine lv_aload_n S.1 S.2.1 dL_law_718 rfl (lv_at hl 3 rfl) ?_
  refine lv_aload_n S.1 S.2.1 dL_law_719 rfl (lv_at hl 1 rfl) ?_
  refine lv_iload S.1 S.2.1 dL_law_720 (lv_at hl 6 rfl) ?_
  refine lv_iconst (v := 1) S.1 S.2.1 dL_law_722 (by decide) ?_
  refine lv_iadd S.1 S.2.1 dL_law_723 ?_
  refine fx_topi (y := 1) (by decide) ?_
  refine gx_sld (v := 0) S hG hX hbl (fin_l (by decide)) hx1 dL_law_724 ?_
  refine lv_aload_n S.1 S.2.1 dL_law_725 rfl (lv_at hl 1 rfl) ?_
  refine lv_iload S.1 S.2.1 dL_law_726 (lv_at hl 6 rfl) ?_
  refine lv_iconst (v := 2) S.1 S.2.1 dL_law_728 (by decide) ?_
  refine lv_iadd S.1 S.2.1 dL_law_729 ?_
  refine fx_topi (y := 2) (by decide) ?_
  refine gx_sld (v := a2) S hG hX hbl (fin_l (by decide)) hx2 dL_law_730 ?_
  refine lv_aload_n S.1 S.2.1 dL_law_731 rfl (lv_at hl 1 rfl) ?_
  refine lv_iload S.1 S.2.1 dL_law_732 (lv_at hl 6 rfl) ?_
  refine lv_iconst (v := 3) S.1 S.2.1 dL_law_734 (by decide) ?_
  refine lv_iadd S.1 S.2.1 dL_law_735 ?_
  refine fx_topi (y := 3) (by decide) ?_
  refine gx_sld (v := a3) S hG hX hbl (fin_l (by decide)) hx3 dL_law_736 ?_
  refine lv_i2c (v := c3) S.1 S.2.1 dL_law_737 hc3 ?_
  refine fx_cVi (As := [.int 0, .int a2, .int c3]) (rest := []) S hG (k294_X10_setLabel g_a2_ge_1 (by omega) h3 h4 h5) h3 rfl (cwV 3 S.2.2.2.2 gL_law_X10_setLabel rfl rfl rfl (by decide +kernel) ⟨Nat.le_of_ble_eq_true rfl, Nat.le_of_ble_eq_true rfl⟩) rfl hl.1 rfl (Nat.le_of_ble_eq_true rfl) dL_law_738 ⟨Nat.le_of_ble_eq_true rfl, Nat.le_of_ble_eq_true rfl⟩ (fun rv_2 _ H locs hp hG => ?_)
  subst rv_2
  refine lv_istore (lv' := [(7, .int 0), (6, .int 1), (0, .ref b), (1, .ref N0), (2, .ref (N0 + 164)), (3, .ref (N0 + 229)), (4, .ref (N0 + 230)), (5, .int 0)]) S.1 S.2.1 dL_law_741 hl (by decide) rfl (fun ls hl => ?_)
  refine lv_aload_n S.1 S.2.1 dL_law_743 rfl (lv_at hl 4 rfl) ?_
  refine fx_cVi (As := []) (rest := []) S hG (k25_X10_thrown (by omega) fu_s) fu_s rfl (cwV 0 S.2.2.2.2 gL_law_X10_thrown rfl rfl rfl (by decide +kernel) ⟨Nat.le_of_ble_eq_true rfl, Nat.le_of_ble_eq_true rfl⟩) rfl hl.1 rfl (Nat.le_of_ble_eq_true rfl) dL_law_744 ⟨Nat.le_of_ble_eq_true rfl, Nat.le_of_ble_eq_true rfl⟩ (fun rv_3 _ H locs hp hG => ?_)
  subst rv_3
  refine lv_iload S.1 S.2.1 dL_law_747 (lv_at hl 1 rfl) ?_
  refine lv_icmp_eq (tgt := 754) S.1 S.2.1 dL_law_749 (by decide) (fun _ => ?_) (fun c => absurd (by decide) c)
  refine lv_iload S.1 S.2.1 dL_law_754 (lv_at hl 1 rfl) ?_
  refine lv_if_ne (tgt := 771) S.1 S.2.1 dL_law_756 (by decide) (fun _ => ?_) (fun c => absurd c (by decide))
  refine lv_goto (tgt := 2650) S.1 S.2.1 dL_law_771 (by decide) ?_
  refine lv_iinc (v := 5) (lv' := [(5, .int 5), (7, .int 0), (6, .int 1), (0, .ref b), (1, .ref N0), (2, .ref (N0 + 164)), (3, .ref (N0 + 229)), (4, .ref (N0 + 230))]) S.1 S.2.1 dL_law_2650 hl (k := 7) rfl (by decide) (by decide) rfl (fun ls hl => ?_)
  refine lv_goto (tgt := 28) S.1 S.2.1 dL_law_2653 (by decide) ?_
  refine lv_iload S.1 S.2.1 dL_law_28 (lv_at hl 0 rfl) ?_
  refine lv_aload_n S.1 S.2.1 dL_law_30 rfl (lv_at hl 3 rfl) ?_
  refine gx_slen (v := 5) S hG hX hbl rfl dL_law_31 ?_
  refine lv_iconst (v := 5) S.1 S.2.1 dL_law_32 (by decide) ?_
  refine lv_isub S.1 S.2.1 dL_law_33 ?_
  refine fx_topi (y := 0) (by decide) ?_
  refine lv_icmp_gt (tgt := 2656) S.1 S.2.1 dL_law_34 (by decide) (fun _ => ?_) (fun c => absurd (by decide) c)
  refine lv_iconst (v := 1) S.1 S.2.1 dL_law_2656 (by decide) ?_
  refine va_forget (fun q hq => by rw [hN]; exact hG.2.1.2.2 q hq) ?_
  refine W.widen (k := 600002) (n := 7302232) (by decide) (by decide) ?_
  exact lw_ret (d0 := s.drawn) (Drawn.sameBut.refl _ _) S.1 S.2.1 hr hlocks dL_law_2657
theorem l8_6 {p : Program} {e : Env} {s : State} {m : MethodId} {below : List Frame} {meth : Method} {c : Code} {b : Nat} {xs : Nat → Int32} {H : Heap} {locs : List Loc} {ls : Array Slot} {n : Nat} {a2 a3 c3 a4 : Int32} (hc3 : (a3.toUInt32 % 65536).toInt32 = c3) (g_a2_le_m1 : a2 ≤ (-1)) (S : CallFix p m c cL_law 9 s #[.ref b] wsL_law "TreeDifferLaw") (hr : meth.sig.returnType = ret) (hlocks : meth.locks = false) (hst : l.stackTraces = false) (hX : va_X b 5 xs s s.heap) (hbl : b < s.heap.size ∧ b < N0) (hN : s.heap.size = N0) (hn : N0 + 231 ≤ n) (hx1 : xs 1 = 1) (hx2 : xs 2 = a2) (hx3 : xs 3 = a3) (hx4 : xs 4 = a4) (h0 : F N0 = some (.inr (9, [.ref (N0 + 1), .ref (N0 + 2), .ref (N0 + 11), .ref (N0 + 13), .ref (N0 + 63), .ref (N0 + 65), .ref (N0 + 85), .int (-1), .int (-1), .int 32]))) (h1 : F (N0 + 1) = some (.inl (cTr, 3, .inr (.inr (.inr (.inr (va_up (va_up (va_up (fun _ => none) 0 (some (N0 + 143))) 1 (some (N0 + 150))) 2 (some (N0 + 157))))))))) (h2 : F (N0 + 150) = some (.inr (7, [.ref (N0 + 151), .ref (N0 + 152), .ref (N0 + 153), .ref (N0 + 154), .ref (N0 + 155), .ref (N0 + 156), .int 1]))) (h3 : F (N0 + 164) = some (.inr (12, [.ref (N0 + 165), .int 0, .ref (N0 + 181), .int 0, .int 0, .int 0, .int (-1), .ref (ql 24), .ref (N0 + 182), .ref (N0 + 187), .ref (N0 + 208), .ref (N0 + 209), .ref (N0 + 210), .ref (N0 + 211), .ref (N0 + 212), .int 0, .ref (N0 + 213), .ref (N0 + 218), .ref (N0 + 223), .ref (N0 + 224), .ref (N0 + 225), .ref (N0 + 226), .ref (N0 + 227), .int 0, .int 0, .ref (N0 + 228), .null, .int (-1), .int 0, .int 0, .int 0]))) (h4 : F (N0 + 165) = some (.inl (cTm, 3, .inr (.inr (.inr (.inr (va_up (va_up (va_up (fun _ => none) 0 (some (N0 + 166))) 1 (some (N0 + 171))) 2 (some (N0 + 176))))))))) (h5 : F (N0 + 171) = some (.inr (11, [.ref (N0 + 172), .ref (N0 + 173), .ref (N0 + 174), .ref (N0 + 175), .int 1]))) (hG : fG N0 D vwCl (fty cI cC cL cD cII cTr cTm cIt cB) (fen ql) s F n H locs) (hl : lv_has ls 9 [(0, .ref b), (1, .ref N0), (2, .ref (N0 + 164)), (3, .ref (N0 + 229)), (4, .ref (N0 + 230)), (5, .int 0)]) : W p l e { frames := 2048, cells := 600002, slots := 7302232, locals := 84000 } s m #[.ref b] below meth c H locs 231 4980 (lw_Z below #[.ref b] s) (F0 m 692 ls []) := by
  have lt_h0 := hG.1.lt h0
  have lt_h1 := hG.1.lt h1
  have lt_h2 := hG.1.lt h2
  have lt_h3 := hG.1.lt h3
  have lt_h4 := hG.1.lt h4
  have lt_h5 := hG.1.lt h5
  refine lv_aload_n S.1 S.2.1 dL_law_692 rfl (lv_at hl 1 rfl) ?_
  refine lv_aload_n S.1 S.2.1 dL_law_693 rfl (lv_at hl 0 rfl) ?_
  refine lv_iload S.1 S.2.1 dL_law_694 (lv_at hl 5 rfl) ?_
  refine lv_iconst (v := 1) S.1 S.2.1 dL_law_696 (by decide) ?_
  refine lv_iadd S.1 S.2.1 dL_law_697 ?_
  refine fx_topi (y := 1) (by decide) ?_
  refine gx_sld (v := 1) S hG hX hbl (fin_l (by decide)) hx1 dL_law_698 ?_
  refine lv_aload_n S.1 S.2.1 dL_law_699 rfl (lv_at hl 0 rfl) ?_
  refine lv_iload S.1 S.2.1 dL_law_700 (lv_at hl 5 rfl) ?_
  refine lv_iconst (v := 2) S.1 S.2.1 dL_law_702 (by decide) ?_
  refine lv_iadd S.1 S.2.1 dL_law_703 ?_
  refine fx_topi (y := 2) (by decide) ?_
  refine gx_sld (v := a2) S hG hX hbl (fin_l (by decide)) hx2 dL_law_704 ?_
  refine lv_aload_n S.1 S.2.1 dL_law_705 rfl (lv_at hl 0 rfl) ?_
  refine lv_iload S.1 S.2.1 dL_law_706 (lv_at hl 5 rfl) ?_
  refine lv_iconst (v := 3) S.1 S.2.1 dL_law_708 (by decide) ?_
  refine lv_iadd S.1 S.2.1 dL_law_709 ?_
  refine fx_topi (y := 3) (by decide) ?_
  refine gx_sld (v := a3) S hG hX hbl (fin_l (by decide)) hx3 dL_law_710 ?_
  refine lv_i2c (v := c3) S.1 S.2.1 dL_law_711 hc3 ?_
  refine lv_aload_n S.1 S.2.1 dL_law_712 rfl (lv_at hl 3 rfl) ?_
  refine fx_cTi (As := [.ref N0, .int 1, .int a2, .int c3, .ref (N0 + 229)]) (rest := []) S hG (k296_L_setLabel g_a2_le_m1 hst (by omega) h0 h1 h2) (vx_cwSW 5 S.2.2.2.2 gL_law_L_setLabel rfl rfl rfl (by decide +kernel) ⟨Nat.le_of_ble_eq_true rfl, Nat.le_of_ble_eq_true rfl⟩) rfl hl.1 rfl (Nat.le_of_ble_eq_true rfl) dL_law_713 ⟨Nat.le_of_ble_eq_true rfl, Nat.le_of_ble_eq_true rfl⟩ (fun rv_u_1 u_1 H locs hp hG => ?_)
  obtain ⟨rfl, hu_1⟩ := hp
  refine W.widen (k := 232) (n := 4986) (by decide) (by decide) ?_
  refine lv_istore (lv' := [(6, .int 1), (0, .ref b), (1, .ref N0), (2, .ref (N0 + 164)), (3, .ref (N0 + 229)), (4, .ref (N0 + 230)), (5, .int 0)]) S.1 S.2.1 dL_law_716 hl (by decide) rfl (fun ls hl => ?_)
  refine lv_aload_n S.1 S.2.1 dL_law_718 rfl (lv_at hl 3 rfl) ?_
  refine lv_aload_n S.1 S.2.1 dL_law_719 rfl (lv_at hl 1 rfl) ?_
  refine lv_iload S.1 S.2.1 dL_law_720 (lv_at hl 6 rfl) ?_
  refine lv_iconst (v := 1) S.1 S.2.1 dL_law_722 (by decide) ?_
  refine lv_iadd S.1 S.2.1 dL_law_723 ?_
  refine fx_topi (y := 1) (by decide) ?_
  refine gx_sld (v := 1) S hG hX hbl (fin_l (by decide)) hx1 dL_law_724 ?_
  refine lv_aload_n S.1 S.2.1 dL_law_725 rfl (lv_at hl 1 rfl) ?_
  refine lv_iload S.1 S.2.1 dL_law_726 (lv_at hl 6 rfl) ?_
  refine lv_iconst (v := 2) S.1 S.2.1 dL_law_728 (by decide) ?_
  refine lv_iadd S.1 S.2.1 dL_law_729 ?_
  refine fx_topi (y := 2) (by decide) ?_
  refine gx_sld (v := a2) S hG hX hbl (fin_l (by decide)) hx2 dL_law_730 ?_
  refine lv_aload_n S.1 S.2.1 dL_law_731 rfl (lv_at hl 1 rfl) ?_
  refine lv_iload S.1 S.2.1 dL_law_732 (lv_at hl 6 rfl) ?_
  refine lv_iconst (v := 3) S.1 S.2.1 dL_law_734 (by decide) ?_
  refine lv_iadd S.1 S.2.1 dL_law_735 ?_
  refine fx_topi (y := 3) (by decide) ?_
  refine gx_sld (v := a3) S hG hX hbl (fin_l (by decide)) hx3 dL_law_736 ?_
  refine lv_i2c (v := c3) S.1 S.2.1 dL_law_737 hc3 ?_
  refine fx_cVi (As := [.int 1, .int a2, .int c3]) (rest := []) S hG (k297_X10_setLabel g_a2_le_m1 (by omega) h3 h4 h5) h3 rfl (cwV 3 S.2.2.2.2 gL_law_X10_setLabel rfl rfl rfl (by decide +kernel) ⟨Nat.le_of_ble_eq_true rfl, Nat.le_of_ble_eq_true rfl⟩) rfl hl.1 rfl (Nat.le_of_ble_eq_true rfl) dL_law_738 ⟨Nat.le_of_ble_eq_true rfl, Nat.le_of_ble_eq_true rfl⟩ (fun rv_2 _ H locs hp hG => ?_)
  subst rv_2
  refine lv_istore (lv' := [(7, .int 0), (6, .int 1), (0, .ref b), (1, .ref N0), (2, .ref (N0 + 164)), (3, .ref (N0 + 229)), (4, .ref (N0 + 230)), (5, .int 0)]) S.1 S.2.1 dL_law_741 hl (by decide) rfl (fun ls hl => ?_)
  refine lv_aload_n S.1 S.2.1 dL_law_743 rfl (lv_at hl 4 rfl) ?_
  refine fx_cVi (As := []) (rest := []) S hG (k25_X10_thrown (by omega) fu_s) fu_s rfl (cwV 0 S.2.2.2.2 gL_law_X10_thrown rfl rfl rfl (by decide +kernel) ⟨Nat.le_of_ble_eq_true rfl, Nat.le_of_ble_eq_true rfl⟩) rfl hl.1 rfl (Nat.le_of_ble_eq_true rfl) dL_law_744 ⟨Nat.le_of_ble_eq_true rfl, Nat.le_of_ble_eq_true rfl⟩ (fun rv_3 _ H locs hp hG => ?_)
  subst rv_3
  refine lv_iload S.1 S.2.1 dL_law_747 (lv_at hl 1 rfl) ?_
  refine lv_icmp_eq (tgt := 754) S.1 S.2.1 dL_law_749 (by decide) (fun _ => ?_) (fun c => absurd (by decide) c)
  refine lv_iload S.1 S.2.1 dL_law_754 (lv_at hl 1 rfl) ?_
  refine lv_if_ne (tgt := 771) S.1 S.2.1 dL_law_756 (by decide) (fun _ => ?_) (fun c => absurd c (by decide))
  refine lv_goto (tgt := 2650) S.1 S.2.1 dL_law_771 (by decide) ?_
  refine lv_iinc (v := 5) (lv' := [(5, .int 5), (7, .int 0), (6, .int 1), (0, .ref b), (1, .ref N0), (2, .ref (N0 + 164)), (3, .ref (N0 + 229)), (4, .ref (N0 + 230))]) S.1 S.2.1 dL_law_2650 hl (k := 7) rfl (by decide) (by decide) rfl (fun ls hl => ?_)
  refine lv_goto (tgt := 28) S.1 S.2.1 dL_law_2653 (by decide) ?_
  refine lv_iload S.1 S.2.1 dL_law_28 (lv_at hl 0 rfl) ?_
  refine lv_aload_n S.1 S.2.1 dL_law_30 rfl (lv_at hl 3 rfl) ?_
  refine gx_slen (v := 5) S hG hX hbl rfl dL_law_31 ?_
  refine lv_iconst (v := 5) S.1 S.2.1 dL_law_32 (by decide) ?_
  refine lv_isub S.1 S.2.1 dL_law_33 ?_
  refine fx_topi (y := 0) (by decide) ?_
  refine lv_icmp_gt (tgt := 2656) S.1 S.2.1 dL_law_34 (by decide) (fun _ => ?_) (fun c => absurd (by decide) c)
  refine lv_iconst (v := 1) S.1 S.2.1 dL_law_2656 (by decide) ?_
  refine va_forget (fun q hq => by rw [hN]; exact hG.2.1.2.2 q hq) ?_
  refine W.widen (k := 600002) (n := 7302232) (by decide) (by decide) ?_
  exact lw_ret (d0 := s.drawn) (Drawn.sameBut.refl _ _) S.1 S.2.1 hr hlocks dL_law_2657
theorem l8_7 {p : Program} {e : Env} {s : State} {m : MethodId} {below : List Frame} {meth : Method} {c : Code} {b : Nat} {xs : Nat → Int32} {H : Heap} {locs : List Loc} {ls : Array Slot} {n : Nat} {a3 c3 a4 : Int32} (hc3 : (a3.toUInt32 % 65536).toInt32 = c3) (g_c3_le_96 : c3 ≤ 96) (S : CallFix p m c cL_law 9 s #[.ref b] wsL_law "TreeDifferLaw") (hr : meth.sig.returnType = ret) (hlocks : meth.locks = false) (hst : l.stackTraces = false) (hX : va_X b 5 xs s s.heap) (hbl : b < s.heap.size ∧ b < N0) (hN : s.heap.size = N0) (hn : N0 + 231 ≤ n) (hx1 : xs 1 = 1) (hx2 : xs 2 = 0) (hx3 : xs 3 = a3) (hx4 : xs 4 = a4) (h0 : F N0 = some (.inr (9, [.ref (N0 + 1), .ref (N0 + 2), .ref (N0 + 11), .ref (N0 + 13), .ref (N0 + 63), .ref (N0 + 65), .ref (N0 + 85), .int (-1), .int (-1), .int 32]))) (h1 : F (N0 + 1) = some (.inl (cTr, 3, .inr (.inr (.inr (.inr (va_up (va_up (va_up (fun _ => none) 0 (some (N0 + 143))) 1 (some (N0 + 150))) 2 (some (N0 + 157))))))))) (h2 : F (N0 + 150) = some (.inr (7, [.ref (N0 + 151), .ref (N0 + 152), .ref (N0 + 153), .ref (N0 + 154), .ref (N0 + 155), .ref (N0 + 156), .int 1]))) (h3 : F (N0 + 164) = some (.inr (12, [.ref (N0 + 165), .int 0, .ref (N0 + 181), .int 0, .int 0, .int 0, .int (-1), .ref (ql 24), .ref (N0 + 182), .ref (N0 + 187), .ref (N0 + 208), .ref (N0 + 209), .ref (N0 + 210), .ref (N0 + 211), .ref (N0 + 212), .int 0, .ref (N0 + 213), .ref (N0 + 218), .ref (N0 + 223), .ref (N0 + 224), .ref (N0 + 225), .ref (N0 + 226), .ref (N0 + 227), .int 0, .int 0, .ref (N0 + 228), .null, .int (-1), .int 0, .int 0, .int 0]))) (h4 : F (N0 + 165) = some (.inl (cTm, 3, .inr (.inr (.inr (.inr (va_up (va_up (va_up (fun _ => none) 0 (some (N0 + 166))) 1 (some (N0 + 171))) 2 (some (N0 + 176))))))))) (h5 : F (N0 + 171) = some (.inr (11, [.ref (N0 + 172), .ref (N0 + 173), .ref (N0 + 174), .ref (N0 + 175), .int 1]))) (hG : fG N0 D vwCl (fty cI cC cL cD cII cTr cTm cIt cB) (fen ql) s F n H locs) (hl : lv_has ls 9 [(0, .ref b), (1, .ref N0), (2, .ref (N0 + 164)), (3, .ref (N0 + 229)), (4, .ref (N0 + 230)), (5, .int 0)]) : W p l e { frames := 2048, cells := 600002, slots := 7302232, locals := 84000 } s m #[.ref b] below meth c H locs 231 4980 (lw_Z below #[.ref b] s) (F0 m 692 ls []) := by
  have lt_h0 := hG.1.lt h0
  have lt_h1 := hG.1.lt h1
  have lt_h2 := hG.1.lt h2
  have lt_h3 := hG.1.lt h3
  have lt_h4 := hG.1.lt h4
  have lt_h5 := hG.1.lt h5
  refine lv_aload_n S.1 S.2.1 dL_law_692 rfl (lv_at hl 1 rfl) ?_
  refine lv_aload_n S.1 S.2.1 dL_law_693 rfl (lv_at hl 0 rfl) ?_
  refine lv_iload S.1 S.2.1 dL_law_694 (lv_at hl 5 rfl) ?_
  refine lv_iconst (v := 1) S.1 S.2.1 dL_law_696 (by decide) ?_
  refine lv_iadd S.1 S.2.1 dL_law_697 ?_
  refine fx_topi (y := 1) (by decide) ?_
  refine gx_sld (v := 1) S hG hX hbl (fin_l (by decide)) hx1 dL_law_698 ?_
  refine lv_aload_n S.1 S.2.1 dL_law_699 rfl (lv_at hl 0 rfl) ?_
  refine lv_iload S.1 S.2.1 dL_law_700 (lv_at hl 5 rfl) ?_
  refine lv_iconst (v := 2) S.1 S.2.1 dL_law_702 (by decide) ?_
  refine lv_iadd S.1 S.2.1 dL_law_703 ?_
  refine fx_topi (y := 2) (by decide) ?_
  refine gx_sld (v := 0) S hG hX hbl (fin_l (by decide)) hx2 dL_law_704 ?_
  refine lv_aload_n S.1 S.2.1 dL_law_705 rfl (lv_at hl 0 rfl) ?_
  refine lv_iload S.1 S.2.1 dL_law_706 (lv_at hl 5 rfl) ?_
  refine lv_iconst (v := 3) S.1 S.2.1 dL_law_708 (by decide) ?_
  refine lv_iadd S.1 S.2.1 dL_law_709 ?_
  refine fx_topi (y := 3) (by decide) ?_
  refine gx_sld (v := a3) S hG hX hbl (fin_l (by decide)) hx3 dL_law_710 ?_
  refine lv_i2c (v := c3) S.1 S.2.1 dL_law_711 hc3 ?_
  refine lv_aload_n S.1 S.2.1 dL_law_712 rfl (lv_at hl 3 rfl) ?_
  refine fx_cTi (As := [.ref N0, .int 1, .int 0, .int c3, .ref (N0 + 229)]) (rest := []) S hG (k299_L_setLabel g_c3_le_96 hst (by omega) h0 h1 h2) (vx_cwSW 5 S.2.2.2.2 gL_law_L_setLabel rfl rfl rfl (by decide +kernel) ⟨Nat.le_of_ble_eq_true rfl, Nat.le_of_ble_eq_true rfl⟩) rfl hl.1 rfl (Nat.le_of_ble_eq_true rfl) dL_law_713 ⟨Nat.le_of_ble_eq_true rfl, Nat.le_of_ble_eq_true rfl⟩ (fun rv_u_1 u_1 H locs hp hG => ?_)
  obtain ⟨rfl, hu_1⟩ := hp
  refine W.widen (k := 232) (n := 4986) (by decide) (by decide) ?_
  refine lv_istore (lv' := [(6, .int 2), (0, .ref b), (1, .ref N0), (2, .ref (N0 + 164)), (3, .ref (N0 + 229)), (4, .ref (N0 + 230)), (5, .int 0)]) S.1 S.2.1 dL_law_716 hl (by decide) rfl (fun ls hl => ?_)
  refine lv_aload_n S.1 S.2.1 dL_law_718 rfl (lv_at hl 3 rfl) ?_
  refine lv_aload_n S.1 S.2.1 dL_law_719 rfl (lv_at hl 1 rfl) ?_
  refine lv_iload S.1 S.2.1 dL_law_720 (lv_at hl 6 rfl) ?_
  refine lv_iconst (v := 1) S.1 S.2.1 dL_law_722 (by decide) ?_
  refine lv_iadd S.1 S.2.1 dL_law_723 ?_
  refine fx_topi (y := 1) (by decide) ?_
  refine gx_sld (v := 1) S hG hX hbl (fin_l (by decide)) hx1 dL_law_724 ?_
  refine lv_aload_n S.1 S.2.1 dL_law_725 rfl (lv_at hl 1 rfl) ?_
  refine lv_iload S.1 S.2.1 dL_law_726 (lv_at hl 6 rfl) ?_
  refine lv_iconst (v := 2) S.1 S.2.1 dL_law_728 (by decide) ?_
  refine lv_iadd S.1 S.2.1 dL_law_729 ?_
  refine fx_topi (y := 2) (by decide) ?_
  refine gx_sld (v := 0) S hG hX hbl (fin_l (by decide)) hx2 dL_law_730 ?_
  refine lv_aload_n S.1 S.2.1 dL_law_731 rfl (lv_at hl 1 rfl) ?_
  refine lv_iload S.1 S.2.1 dL_law_732 (lv_at hl 6 rfl) ?_
  refine lv_iconst (v := 3) S.1 S.2.1 dL_law_734 (by decide) ?_
  refine lv_iadd S.1 S.2.1 dL_law_735 ?_
  refine fx_topi (y := 3) (by decide) ?_
  refine gx_sld (v := a3) S hG hX hbl (fin_l (by decide)) hx3 dL_law_736 ?_
  refine lv_i2c (v := c3) S.1 S.2.1 dL_law_737 hc3 ?_
  refine fx_cVi (As := [.int 1, .int 0, .int c3]) (rest := []) S hG (k300_X10_setLabel g_c3_le_96 (by omega) h3 h4 h5) h3 rfl (cwV 3 S.2.2.2.2 gL_law_X10_setLabel rfl rfl rfl (by decide +kernel) ⟨Nat.le_of_ble_eq_true rfl, Nat.le_of_ble_eq_true rfl⟩) rfl hl.1 rfl (Nat.le_of_ble_eq_true rfl) dL_law_738 ⟨Nat.le_of_ble_eq_true rfl, Nat.le_of_ble_eq_true rfl⟩ (fun rv_2 _ H locs hp hG => ?_)
  subst rv_2
  refine lv_istore (lv' := [(7, .int 0), (6, .int 2), (0, .ref b), (1, .ref N0), (2, .ref (N0 + 164)), (3, .ref (N0 + 229)), (4, .ref (N0 + 230)), (5, .int 0)]) S.1 S.2.1 dL_law_741 hl (by decide) rfl (fun ls hl => ?_)
  refine lv_aload_n S.1 S.2.1 dL_law_743 rfl (lv_at hl 4 rfl) ?_
  refine fx_cVi (As := []) (rest := []) S hG (k101_X10_thrown (by omega) fu_s) fu_s rfl (cwV 0 S.2.2.2.2 gL_law_X10_thrown rfl rfl rfl (by decide +kernel) ⟨Nat.le_of_ble_eq_true rfl, Nat.le_of_ble_eq_true rfl⟩) rfl hl.1 rfl (Nat.le_of_ble_eq_true rfl) dL_law_744 ⟨Nat.le_of_ble_eq_true rfl, Nat.le_of_ble_eq_true rfl⟩ (fun rv_3 _ H locs hp hG => ?_)
  subst rv_3
  refine lv_iload S.1 S.2.1 dL_law_747 (lv_at hl 1 rfl) ?_
  refine lv_icmp_eq (tgt := 754) S.1 S.2.1 dL_law_749 (by decide) (fun _ => ?_) (fun c => absurd (by decide) c)
  refine lv_iload S.1 S.2.1 dL_law_754 (lv_at hl 1 rfl) ?_
  refine lv_if_ne (tgt := 771) S.1 S.2.1 dL_law_756 (by decide) (fun _ => ?_) (fun c => absurd c (by decide))
  refine lv_goto (tgt := 2650) S.1 S.2.1 dL_law_771 (by decide) ?_
  refine lv_iinc (v := 5) (lv' := [(5, .int 5), (7, .int 0), (6, .int 2), (0, .ref b), (1, .ref N0), (2, .ref (N0 + 164)), (3, .ref (N0 + 229)), (4, .ref (N0 + 230))]) S.1 S.2.1 dL_law_2650 hl (k := 7) rfl (by decide) (by decide) rfl (fun ls hl => ?_)
  refine lv_goto (tgt := 28) S.1 S.2.1 dL_law_2653 (by decide) ?_
  refine lv_iload S.1 S.2.1 dL_law_28 (lv_at hl 0 rfl) ?_
  refine lv_aload_n S.1 S.2.1 dL_law_30 rfl (lv_at hl 3 rfl) ?_
  refine gx_slen (v := 5) S hG hX hbl rfl dL_law_31 ?_
  refine lv_iconst (v := 5) S.1 S.2.1 dL_law_32 (by decide) ?_
  refine lv_isub S.1 S.2.1 dL_law_33 ?_
  refine fx_topi (y := 0) (by decide) ?_
  refine lv_icmp_gt (tgt := 2656) S.1 S.2.1 dL_law_34 (by decide) (fun _ => ?_) (fun c => absurd (by decide) c)
  refine lv_iconst (v := 1) S.1 S.2.1 dL_law_2656 (by decide) ?_
  refine va_forget (fun q hq => by rw [hN]; exact hG.2.1.2.2 q hq) ?_
  refine W.widen (k := 600002) (n := 7302232) (by decide) (by decide) ?_
  exact lw_ret (d0 := s.drawn) (Drawn.sameBut.refl _ _) S.1 S.2.1 hr hlocks dL_law_2657
theorem l8_8 {p : Program} {e : Env} {s : State} {m : MethodId} {below : List Frame} {meth : Method} {c : Code} {b : Nat} {xs : Nat → Int32} {H : Heap} {locs : List Loc} {ls : Array Slot} {n : Nat} {a3 c3 a4 : Int32} (hc3 : (a3.toUInt32 % 65536).toInt32 = c3) (g_c3_ge_97 : 97 ≤ c3) (g_c3_le_122 : c3 ≤ 122) (hv3 : vp_nar .char c3 = c3) (S : CallFix p m c cL_law 9 s #[.ref b] wsL_law "TreeDifferLaw") (hr : meth.sig.returnType = ret) (hlocks : meth.locks = false) (hst : l.stackTraces = false) (hX : va_X b 5 xs s s.heap) (hbl : b < s.heap.size ∧ b < N0) (hN : s.heap.size = N0) (hn : N0 + 231 ≤ n) (hx1 : xs 1 = 1) (hx2 : xs 2 = 0) (hx3 : xs 3 = a3) (hx4 : xs 4 = a4) (h0 : F N0 = some (.inr (9, [.ref (N0 + 1), .ref (N0 + 2), .ref (N0 + 11), .ref (N0 + 13), .ref (N0 + 63), .ref (N0 + 65), .ref (N0 + 85), .int (-1), .int (-1), .int 32]))) (h1 : F (N0 + 1) = some (.inl (cTr, 3, .inr (.inr (.inr (.inr (va_up (va_up (va_up (fun _ => none) 0 (some (N0 + 143))) 1 (some (N0 + 150))) 2 (some (N0 + 157))))))))) (h2 : F (N0 + 150) = some (.inr (7, [.ref (N0 + 151), .ref (N0 + 152), .ref (N0 + 153), .ref (N0 + 154), .ref (N0 + 155), .ref (N0 + 156), .int 1]))) (h3 : F (N0 + 151) = some (.inl (cC, 20, .inl (upd (fun _ => 0) 0 97)))) (h4 : F (N0 + 229) = some (.inl (cL, 1, .inr (.inl (fun _ => 0))))) (h5 : F (N0 + 164) = some (.inr (12, [.ref (N0 + 165), .int 0, .ref (N0 + 181), .int 0, .int 0, .int 0, .int (-1), .ref (ql 24), .ref (N0 + 182), .ref (N0 + 187), .ref (N0 + 208), .ref (N0 + 209), .ref (N0 + 210), .ref (N0 + 211), .ref (N0 + 212), .int 0, .ref (N0 + 213), .ref (N0 + 218), .ref (N0 + 223), .ref (N0 + 224), .ref (N0 + 225), .ref (N0 + 226), .ref (N0 + 227), .int 0, .int 0, .ref (N0 + 228), .null, .int (-1), .int 0, .int 0, .int 0]))) (h6 : F (N0 + 165) = some (.inl (cTm, 3, .inr (.inr (.inr (.inr (va_up (va_up (va_up (fun _ => none) 0 (some (N0 + 166))) 1 (some (N0 + 171))) 2 (some (N0 + 176))))))))) (h7 : F (N0 + 171) = some (.inr (11, [.ref (N0 + 172), .ref (N0 + 173), .ref (N0 + 174), .ref (N0 + 175), .int 1]))) (h8 : F (N0 + 172) = some (.inl (cI, 20, .inl (upd (fun _ => 0) 0 97)))) (hG : fG N0 D vwCl (fty cI cC cL cD cII cTr cTm cIt cB) (fen ql) s F n H locs) (hl : lv_has ls 9 [(0, .ref b), (1, .ref N0), (2, .ref (N0 + 164)), (3, .ref (N0 + 229)), (4, .ref (N0 + 230)), (5, .int 0)]) : W p l e { frames := 2048, cells := 600002, slots := 7302232, locals := 84000 } s m #[.ref b] below meth c H locs 231 4980 (lw_Z below #[.ref b] s) (F0 m 692 ls []) := by
  have lt_h0 := hG.1.lt h0
  have lt_h1 := hG.1.lt h1
  have lt_h2 := hG.1.lt h2
  have lt_h3 := hG.1.lt h3
  have lt_h4 := hG.1.lt h4
  have lt_h5 := hG.1.lt h5
  have lt_h6 := hG.1.lt h6
  have lt_h7 := hG.1.lt h7
  have lt_h8 := hG.1.lt h8
  refine lv_aload_n S.1 S.2.1 dL_law_692 rfl (lv_at hl 1 rfl) ?_
  refine lv_aload_n S.1 S.2.1 dL_law_693 rfl (lv_at hl 0 rfl) ?_
  refine lv_iload S.1 S.2.1 dL_law_694 (lv_at hl 5 rfl) ?_
  refine lv_iconst (v := 1) S.1 S.2.1 dL_law_696 (by decide) ?_
  refine lv_iadd S.1 S.2.1 dL_law_697 ?_
  refine fx_topi (y := 1) (by decide) ?_
  refine gx_sld (v := 1) S hG hX hbl (fin_l (by decide)) hx1 dL_law_698 ?_
  refine lv_aload_n S.1 S.2.1 dL_law_699 rfl (lv_at hl 0 rfl) ?_
  refine lv_iload S.1 S.2.1 dL_law_700 (lv_at hl 5 rfl) ?_
  refine lv_iconst (v := 2) S.1 S.2.1 dL_law_702 (by decide) ?_
  refine lv_iadd S.1 S.2.1 dL_law_703 ?_
  refine fx_topi (y := 2) (by decide) ?_
  refine gx_sld (v := 0) S hG hX hbl (fin_l (by decide)) hx2 dL_law_704 ?_
  refine lv_aload_n S.1 S.2.1 dL_law_705 rfl (lv_at hl 0 rfl) ?_
  refine lv_iload S.1 S.2.1 dL_law_706 (lv_at hl 5 rfl) ?_
  refine lv_iconst (v := 3) S.1 S.2.1 dL_law_708 (by decide) ?_
  refine lv_iadd S.1 S.2.1 dL_law_709 ?_
  refine fx_topi (y := 3) (by decide) ?_
  refine gx_sld (v := a3) S hG hX hbl (fin_l (by decide)) hx3 dL_law_710 ?_
  refine lv_i2c (v := c3) S.1 S.2.1 dL_law_711 hc3 ?_
  refine lv_aload_n S.1 S.2.1 dL_law_712 rfl (lv_at hl 3 rfl) ?_
  refine fx_cTi (As := [.ref N0, .int 1, .int 0, .int c3, .ref (N0 + 229)]) (rest := []) S hG (k303_L_setLabel g_c3_ge_97 g_c3_le_122 hv3 (by omega) h0 h1 h2 h3 h4) (vx_cwSW 5 S.2.2.2.2 gL_law_L_setLabel rfl rfl rfl (by decide +kernel) ⟨Nat.le_of_ble_eq_true rfl, Nat.le_of_ble_eq_true rfl⟩) rfl hl.1 rfl (Nat.le_of_ble_eq_true rfl) dL_law_713 ⟨Nat.le_of_ble_eq_true rfl, Nat.le_of_ble_eq_true rfl⟩ (fun rv_1 _ H locs hp hG => ?_)
  subst rv_1
  refine lv_istore (lv' := [(6, .int 0), (0, .ref b), (1, .ref N0), (2, .ref (N0 + 164)), (3, .ref (N0 + 229)), (4, .ref (N0 + 230)), (5, .int 0)]) S.1 S.2.1 dL_law_716 hl (by decide) rfl (fun ls hl => ?_)
  refine lv_aload_n S.1 S.2.1 dL_law_718 rfl (lv_at hl 3 rfl) ?_
  refine lv_aload_n S.1 S.2.1 dL_law_719 rfl (lv_at hl 1 rfl) ?_
  refine lv_iload S.1 S.2.1 dL_law_720 (lv_at hl 6 rfl) ?_
  refine lv_iconst (v := 1) S.1 S.2.1 dL_law_722 (by decide) ?_
  refine lv_iadd S.1 S.2.1 dL_law_723 ?_
  refine fx_topi (y := 1) (by decide) ?_
  refine gx_sld (v := 1) S hG hX hbl (fin_l (by decide)) hx1 dL_law_724 ?_
  refine lv_aload_n S.1 S.2.1 dL_law_725 rfl (lv_at hl 1 rfl) ?_
  refine lv_iload S.1 S.2.1 dL_law_726 (lv_at hl 6 rfl) ?_
  refine lv_iconst (v := 2) S.1 S.2.1 dL_law_728 (by decide) ?_
  refine lv_iadd S.1 S.2.1 dL_law_729 ?_
  refine fx_topi (y := 2) (by decide) ?_
  refine gx_sld (v := 0) S hG hX hbl (fin_l (by decide)) hx2 dL_law_730 ?_
  refine lv_aload_n S.1 S.2.1 dL_law_731 rfl (lv_at hl 1 rfl) ?_
  refine lv_iload S.1 S.2.1 dL_law_732 (lv_at hl 6 rfl) ?_
  refine lv_iconst (v := 3) S.1 S.2.1 dL_law_734 (by decide) ?_
  refine lv_iadd S.1 S.2.1 dL_law_735 ?_
  refine fx_topi (y := 3) (by decide) ?_
  refine gx_sld (v := a3) S hG hX hbl (fin_l (by decide)) hx3 dL_law_736 ?_
  refine lv_i2c (v := c3) S.1 S.2.1 dL_law_737 hc3 ?_
  refine fx_cVi (As := [.int 1, .int 0, .int c3]) (rest := []) S hG (k304_X10_setLabel g_c3_ge_97 g_c3_le_122 (by omega) (fu_at (by omega) (fu_at (by omega) h5)) (fu_at (by omega) (fu_at (by omega) h6)) (fu_at (by omega) (fu_at (by omega) h7)) (fu_at (by omega) (fu_at (by omega) h8))) (fu_at (by omega) (fu_at (by omega) h5)) rfl (cwV 3 S.2.2.2.2 gL_law_X10_setLabel rfl rfl rfl (by decide +kernel) ⟨Nat.le_of_ble_eq_true rfl, Nat.le_of_ble_eq_true rfl⟩) rfl hl.1 rfl (Nat.le_of_ble_eq_true rfl) dL_law_738 ⟨Nat.le_of_ble_eq_true rfl, Nat.le_of_ble_eq_true rfl⟩ (fun rv_2 _ H locs hp hG => ?_)
  subst rv_2
  refine lv_istore (lv' := [(7, .int 1), (6, .int 0), (0, .ref b), (1, .ref N0), (2, .ref (N0 + 164)), (3, .ref (N0 + 229)), (4, .ref (N0 + 230)), (5, .int 0)]) S.1 S.2.1 dL_law_741 hl (by decide) rfl (fun ls hl => ?_)
  refine lv_aload_n S.1 S.2.1 dL_law_743 rfl (lv_at hl 4 rfl) ?_
  refine fx_cVi (As := []) (rest := []) S hG (k117_X10_thrown (by omega) (fu_at (by omega) fu_s)) (fu_at (by omega) fu_s) rfl (cwV 0 S.2.2.2.2 gL_law_X10_thrown rfl rfl rfl (by decide +kernel) ⟨Nat.le_of_ble_eq_true rfl, Nat.le_of_ble_eq_true rfl⟩) rfl hl.1 rfl (Nat.le_of_ble_eq_true rfl) dL_law_744 ⟨Nat.le_of_ble_eq_true rfl, Nat.le_of_ble_eq_true rfl⟩ (fun rv_3 _ H locs hp hG => ?_)
  subst rv_3
  refine lv_iload S.1 S.2.1 dL_law_747 (lv_at hl 1 rfl) ?_
  refine lv_icmp_eq (tgt := 754) S.1 S.2.1 dL_law_749 (by decide) (fun _ => ?_) (fun c => absurd (by decide) c)
  refine lv_iload S.1 S.2.1 dL_law_754 (lv_at hl 1 rfl) ?_
  refine lv_if_ne (tgt := 771) S.1 S.2.1 dL_law_756 (by decide) (fun c => absurd (by decide) c) (fun _ => ?_)
  refine lv_aload_n S.1 S.2.1 dL_law_759 rfl (lv_at hl 5 rfl) ?_
  refine lv_iconst (v := 0) S.1 S.2.1 dL_law_760 (by decide) ?_
  refine gx_lald (v := 1) S hG 2 (fu_at (by omega) (fu_at (by omega) fu_s)) rfl (fin_l (by decide)) rfl dL_law_761 ?_
  refine lv_iload S.1 S.2.1 dL_law_762 (lv_at hl 0 rfl) ?_
  refine lv_i2l (v := 1) S.1 S.2.1 dL_law_764 (by decide) ?_
  refine gx_lcmpEq S rfl dL_law_765 ?_
  refine lv_if_eq (tgt := 771) S.1 S.2.1 dL_law_766 (by decide) (fun _ => ?_) (fun c => absurd (by decide) c)
  refine lv_goto (tgt := 2650) S.1 S.2.1 dL_law_771 (by decide) ?_
  refine lv_iinc (v := 5) (lv' := [(5, .int 5), (7, .int 1), (6, .int 0), (0, .ref b), (1, .ref N0), (2, .ref (N0 + 164)), (3, .ref (N0 + 229)), (4, .ref (N0 + 230))]) S.1 S.2.1 dL_law_2650 hl (k := 7) rfl (by decide) (by decide) rfl (fun ls hl => ?_)
  refine lv_goto (tgt := 28) S.1 S.2.1 dL_law_2653 (by decide) ?_
  refine lv_iload S.1 S.2.1 dL_law_28 (lv_at hl 0 rfl) ?_
  refine lv_aload_n S.1 S.2.1 dL_law_30 rfl (lv_at hl 3 rfl) ?_
  refine gx_slen (v := 5) S hG hX hbl rfl dL_law_31 ?_
  refine lv_iconst (v := 5) S.1 S.2.1 dL_law_32 (by decide) ?_
  refine lv_isub S.1 S.2.1 dL_law_33 ?_
  refine fx_topi (y := 0) (by decide) ?_
  refine lv_icmp_gt (tgt := 2656) S.1 S.2.1 dL_law_34 (by decide) (fun _ => ?_) (fun c => absurd (by decide) c)
  refine lv_iconst (v := 1) S.1 S.2.1 dL_law_2656 (by decide) ?_
  refine va_forget (fun q hq => by rw [hN]; exact hG.2.1.2.2 q hq) ?_
  refine W.widen (k := 600002) (n := 7302232) (by decide) (by decide) ?_
  exact lw_ret (d0 := s.drawn) (Drawn.sameBut.refl _ _) S.1 S.2.1 hr hlocks dL_law_2657
theorem l8_9 {p : Program} {e : Env} {s : State} {m : MethodId} {below : List Frame} {meth : Method} {c : Code} {b : Nat} {xs : Nat → Int32} {H : Heap} {locs : List Loc} {ls : Array Slot} {n : Nat} {a3 c3 a4 : Int32} (hc3 : (a3.toUInt32 % 65536).toInt32 = c3) (g_c3_ge_123 : 123 ≤ c3) (S : CallFix p m c cL_law 9 s #[.ref b] wsL_law "TreeDifferLaw") (hr : meth.sig.returnType = ret) (hlocks : meth.locks = false) (hst : l.stackTraces = false) (hX : va_X b 5 xs s s.heap) (hbl : b < s.heap.size ∧ b < N0) (hN : s.heap.size = N0) (hn : N0 + 231 ≤ n) (hx1 : xs 1 = 1) (hx2 : xs 2 = 0) (hx3 : xs 3 = a3) (hx4 : xs 4 = a4) (h0 : F N0 = some (.inr (9, [.ref (N0 + 1), .ref (N0 + 2), .ref (N0 + 11), .ref (N0 + 13), .ref (N0 + 63), .ref (N0 + 65), .ref (N0 + 85), .int (-1), .int (-1), .int 32]))) (h1 : F (N0 + 1) = some (.inl (cTr, 3, .inr (.inr (.inr (.inr (va_up (va_up (va_up (fun _ => none) 0 (some (N0 + 143))) 1 (some (N0 + 150))) 2 (some (N0 + 157))))))))) (h2 : F (N0 + 150) = some (.inr (7, [.ref (N0 + 151), .ref (N0 + 152), .ref (N0 + 153), .ref (N0 + 154), .ref (N0 + 155), .ref (N0 + 156), .int 1]))) (h3 : F (N0 + 164) = some (.inr (12, [.ref (N0 + 165), .int 0, .ref (N0 + 181), .int 0, .int 0, .int 0, .int (-1), .ref (ql 24), .ref (N0 + 182), .ref (N0 + 187), .ref (N0 + 208), .ref (N0 + 209), .ref (N0 + 210), .ref (N0 + 211), .ref (N0 + 212), .int 0, .ref (N0 + 213), .ref (N0 + 218), .ref (N0 + 223), .ref (N0 + 224), .ref (N0 + 225), .ref (N0 + 226), .ref (N0 + 227), .int 0, .int 0, .ref (N0 + 228), .null, .int (-1), .int 0, .int 0, .int 0]))) (h4 : F (N0 + 165) = some (.inl (cTm, 3, .inr (.inr (.inr (.inr (va_up (va_up (va_up (fun _ => none) 0 (some (N0 + 166))) 1 (some (N0 + 171))) 2 (some (N0 + 176))))))))) (h5 : F (N0 + 171) = some (.inr (11, [.ref (N0 + 172), .ref (N0 + 173), .ref (N0 + 174), .ref (N0 + 175), .int 1]))) (hG : fG N0 D vwCl (fty cI cC cL cD cII cTr cTm cIt cB) (fen ql) s F n H locs) (hl : lv_has ls 9 [(0, .ref b), (1, .ref N0), (2, .ref (N0 + 164)), (3, .ref (N0 + 229)), (4, .ref (N0 + 230)), (5, .int 0)]) : W p l e { frames := 2048, cells := 600002, slots := 7302232, locals := 84000 } s m #[.ref b] below meth c H locs 231 4980 (lw_Z below #[.ref b] s) (F0 m 692 ls []) := by
  have lt_h0 := hG.1.lt h0
  have lt_h1 := hG.1.lt h1
  have lt_h2 := hG.1.lt h2
  have lt_h3 := hG.1.lt h3
  have lt_h4 := hG.1.lt h4
  have lt_h5 := hG.1.lt h5
  refine lv_aload_n S.1 S.2.1 dL_law_692 rfl (lv_at hl 1 rfl) ?_
  refine lv_aload_n S.1 S.2.1 dL_law_693 rfl (lv_at hl 0 rfl) ?_
  refine lv_iload S.1 S.2.1 dL_law_694 (lv_at hl 5 rfl) ?_
  refine lv_iconst (v := 1) S.1 S.2.1 dL_law_696 (by decide) ?_
  refine lv_iadd S.1 S.2.1 dL_law_697 ?_
  refine fx_topi (y := 1) (by decide) ?_
  refine gx_sld (v := 1) S hG hX hbl (fin_l (by decide)) hx1 dL_law_698 ?_
  refine lv_aload_n S.1 S.2.1 dL_law_699 rfl (lv_at hl 0 rfl) ?_
  refine lv_iload S.1 S.2.1 dL_law_700 (lv_at hl 5 rfl) ?_
  refine lv_iconst (v := 2) S.1 S.2.1 dL_law_702 (by decide) ?_
  refine lv_iadd S.1 S.2.1 dL_law_703 ?_
  refine fx_topi (y := 2) (by decide) ?_
  refine gx_sld (v := 0) S hG hX hbl (fin_l (by decide)) hx2 dL_law_704 ?_
  refine lv_aload_n S.1 S.2.1 dL_law_705 rfl (lv_at hl 0 rfl) ?_
  refine lv_iload S.1 S.2.1 dL_law_706 (lv_at hl 5 rfl) ?_
  refine lv_iconst (v := 3) S.1 S.2.1 dL_law_708 (by decide) ?_
  refine lv_iadd S.1 S.2.1 dL_law_709 ?_
  refine fx_topi (y := 3) (by decide) ?_
  refine gx_sld (v := a3) S hG hX hbl (fin_l (by decide)) hx3 dL_law_710 ?_
  refine lv_i2c (v := c3) S.1 S.2.1 dL_law_711 hc3 ?_
  refine lv_aload_n S.1 S.2.1 dL_law_712 rfl (lv_at hl 3 rfl) ?_
  refine fx_cTi (As := [.ref N0, .int 1, .int 0, .int c3, .ref (N0 + 229)]) (rest := []) S hG (k306_L_setLabel g_c3_ge_123 hst (by omega) h0 h1 h2) (vx_cwSW 5 S.2.2.2.2 gL_law_L_setLabel rfl rfl rfl (by decide +kernel) ⟨Nat.le_of_ble_eq_true rfl, Nat.le_of_ble_eq_true rfl⟩) rfl hl.1 rfl (Nat.le_of_ble_eq_true rfl) dL_law_713 ⟨Nat.le_of_ble_eq_true rfl, Nat.le_of_ble_eq_true rfl⟩ (fun rv_u_1 u_1 H locs hp hG => ?_)
  obtain ⟨rfl, hu_1⟩ := hp
  refine W.widen (k := 232) (n := 4986) (by decide) (by decide) ?_
  refine lv_istore (lv' := [(6, .int 2), (0, .ref b), (1, .ref N0), (2, .ref (N0 + 164)), (3, .ref (N0 + 229)), (4, .ref (N0 + 230)), (5, .int 0)]) S.1 S.2.1 dL_law_716 hl (by decide) rfl (fun ls hl => ?_)
  refine lv_aload_n S.1 S.2.1 dL_law_718 rfl (lv_at hl 3 rfl) ?_
  refine lv_aload_n S.1 S.2.1 dL_law_719 rfl (lv_at hl 1 rfl) ?_
  refine lv_iload S.1 S.2.1 dL_law_720 (lv_at hl 6 rfl) ?_
  refine lv_iconst (v := 1) S.1 S.2.1 dL_law_722 (by decide) ?_
  refine lv_iadd S.1 S.2.1 dL_law_723 ?_
  refine fx_topi (y := 1) (by decide) ?_
  refine gx_sld (v := 1) S hG hX hbl (fin_l (by decide)) hx1 dL_law_724 ?_
  refine lv_aload_n S.1 S.2.1 dL_law_725 rfl (lv_at hl 1 rfl) ?_
  refine lv_iload S.1 S.2.1 dL_law_726 (lv_at hl 6 rfl) ?_
  refine lv_iconst (v := 2) S.1 S.2.1 dL_law_728 (by decide) ?_
  refine lv_iadd S.1 S.2.1 dL_law_729 ?_
  refine fx_topi (y := 2) (by decide) ?_
  refine gx_sld (v := 0) S hG hX hbl (fin_l (by decide)) hx2 dL_law_730 ?_
  refine lv_aload_n S.1 S.2.1 dL_law_731 rfl (lv_at hl 1 rfl) ?_
  refine lv_iload S.1 S.2.1 dL_law_732 (lv_at hl 6 rfl) ?_
  refine lv_iconst (v := 3) S.1 S.2.1 dL_law_734 (by decide) ?_
  refine lv_iadd S.1 S.2.1 dL_law_735 ?_
  refine fx_topi (y := 3) (by decide) ?_
  refine gx_sld (v := a3) S hG hX hbl (fin_l (by decide)) hx3 dL_law_736 ?_
  refine lv_i2c (v := c3) S.1 S.2.1 dL_law_737 hc3 ?_
  refine fx_cVi (As := [.int 1, .int 0, .int c3]) (rest := []) S hG (k307_X10_setLabel g_c3_ge_123 (by omega) h3 h4 h5) h3 rfl (cwV 3 S.2.2.2.2 gL_law_X10_setLabel rfl rfl rfl (by decide +kernel) ⟨Nat.le_of_ble_eq_true rfl, Nat.le_of_ble_eq_true rfl⟩) rfl hl.1 rfl (Nat.le_of_ble_eq_true rfl) dL_law_738 ⟨Nat.le_of_ble_eq_true rfl, Nat.le_of_ble_eq_true rfl⟩ (fun rv_2 _ H locs hp hG => ?_)
  subst rv_2
  refine lv_istore (lv' := [(7, .int 0), (6, .int 2), (0, .ref b), (1, .ref N0), (2, .ref (N0 + 164)), (3, .ref (N0 + 229)), (4, .ref (N0 + 230)), (5, .int 0)]) S.1 S.2.1 dL_law_741 hl (by decide) rfl (fun ls hl => ?_)
  refine lv_aload_n S.1 S.2.1 dL_law_743 rfl (lv_at hl 4 rfl) ?_
  refine fx_cVi (As := []) (rest := []) S hG (k101_X10_thrown (by omega) fu_s) fu_s rfl (cwV 0 S.2.2.2.2 gL_law_X10_thrown rfl rfl rfl (by decide +kernel) ⟨Nat.le_of_ble_eq_true rfl, Nat.le_of_ble_eq_true rfl⟩) rfl hl.1 rfl (Nat.le_of_ble_eq_true rfl) dL_law_744 ⟨Nat.le_of_ble_eq_true rfl, Nat.le_of_ble_eq_true rfl⟩ (fun rv_3 _ H locs hp hG => ?_)
  subst rv_3
  refine lv_iload S.1 S.2.1 dL_law_747 (lv_at hl 1 rfl) ?_
  refine lv_icmp_eq (tgt := 754) S.1 S.2.1 dL_law_749 (by decide) (fun _ => ?_) (fun c => absurd (by decide) c)
  refine lv_iload S.1 S.2.1 dL_law_754 (lv_at hl 1 rfl) ?_
  refine lv_if_ne (tgt := 771) S.1 S.2.1 dL_law_756 (by decide) (fun _ => ?_) (fun c => absurd c (by decide))
  refine lv_goto (tgt := 2650) S.1 S.2.1 dL_law_771 (by decide) ?_
  refine lv_iinc (v := 5) (lv' := [(5, .int 5), (7, .int 0), (6, .int 2), (0, .ref b), (1, .ref N0), (2, .ref (N0 + 164)), (3, .ref (N0 + 229)), (4, .ref (N0 + 230))]) S.1 S.2.1 dL_law_2650 hl (k := 7) rfl (by decide) (by decide) rfl (fun ls hl => ?_)
  refine lv_goto (tgt := 28) S.1 S.2.1 dL_law_2653 (by decide) ?_
  refine lv_iload S.1 S.2.1 dL_law_28 (lv_at hl 0 rfl) ?_
  refine lv_aload_n S.1 S.2.1 dL_law_30 rfl (lv_at hl 3 rfl) ?_
  refine gx_slen (v := 5) S hG hX hbl rfl dL_law_31 ?_
  refine lv_iconst (v := 5) S.1 S.2.1 dL_law_32 (by decide) ?_
  refine lv_isub S.1 S.2.1 dL_law_33 ?_
  refine fx_topi (y := 0) (by decide) ?_
  refine lv_icmp_gt (tgt := 2656) S.1 S.2.1 dL_law_34 (by decide) (fun _ => ?_) (fun c => absurd (by decide) c)
  refine lv_iconst (v := 1) S.1 S.2.1 dL_law_2656 (by decide) ?_
  refine va_forget (fun q hq => by rw [hN]; exact hG.2.1.2.2 q hq) ?_
  refine W.widen (k := 600002) (n := 7302232) (by decide) (by decide) ?_
  exact lw_ret (d0 := s.drawn) (Drawn.sameBut.refl _ _) S.1 S.2.1 hr hlocks dL_law_2657
theorem l8_10 {p : Program} {e : Env} {s : State} {m : MethodId} {below : List Frame} {meth : Method} {c : Code} {b : Nat} {xs : Nat → Int32} {H : Heap} {locs : List Loc} {ls : Array Slot} {n : Nat} {a2 a3 c3 a4 : Int32} (hc3 : (a3.toUInt32 % 65536).toInt32 = c3) (g_a2_ge_1 : 1 ≤ a2) (S : CallFix p m c cL_law 9 s #[.ref b] wsL_law "TreeDifferLaw") (hr : meth.sig.returnType = ret) (hlocks : meth.locks = false) (hst : l.stackTraces = false) (hX : va_X b 5 xs s s.heap) (hbl : b < s.heap.size ∧ b < N0) (hN : s.heap.size = N0) (hn : N0 + 231 ≤ n) (hx1 : xs 1 = 1) (hx2 : xs 2 = a2) (hx3 : xs 3 = a3) (hx4 : xs 4 = a4) (h0 : F N0 = some (.inr (9, [.ref (N0 + 1), .ref (N0 + 2), .ref (N0 + 11), .ref (N0 + 13), .ref (N0 + 63), .ref (N0 + 65), .ref (N0 + 85), .int (-1), .int (-1), .int 32]))) (h1 : F (N0 + 1) = some (.inl (cTr, 3, .inr (.inr (.inr (.inr (va_up (va_up (va_up (fun _ => none) 0 (some (N0 + 143))) 1 (some (N0 + 150))) 2 (some (N0 + 157))))))))) (h2 : F (N0 + 150) = some (.inr (7, [.ref (N0 + 151), .ref (N0 + 152), .ref (N0 + 153), .ref (N0 + 154), .ref (N0 + 155), .ref (N0 + 156), .int 1]))) (h3 : F (N0 + 164) = some (.inr (12, [.ref (N0 + 165), .int 0, .ref (N0 + 181), .int 0, .int 0, .int 0, .int (-1), .ref (ql 24), .ref (N0 + 182), .ref (N0 + 187), .ref (N0 + 208), .ref (N0 + 209), .ref (N0 + 210), .ref (N0 + 211), .ref (N0 + 212), .int 0, .ref (N0 + 213), .ref (N0 + 218), .ref (N0 + 223), .ref (N0 + 224), .ref (N0 + 225), .ref (N0 + 226), .ref (N0 + 227), .int 0, .int 0, .ref (N0 + 228), .null, .int (-1), .int 0, .int 0, .int 0]))) (h4 : F (N0 + 165) = some (.inl (cTm, 3, .inr (.inr (.inr (.inr (va_up (va_up (va_up (fun _ => none) 0 (some (N0 + 166))) 1 (some (N0 + 171))) 2 (some (N0 + 176))))))))) (h5 : F (N0 + 171) = some (.inr (11, [.ref (N0 + 172), .ref (N0 + 173), .ref (N0 + 174), .ref (N0 + 175), .int 1]))) (hG : fG N0 D vwCl (fty cI cC cL cD cII cTr cTm cIt cB) (fen ql) s F n H locs) (hl : lv_has ls 9 [(0, .ref b), (1, .ref N0), (2, .ref (N0 + 164)), (3, .ref (N0 + 229)), (4, .ref (N0 + 230)), (5, .int 0)]) : W p l e { frames := 2048, cells := 600002, slots := 7302232, locals := 84000 } s m #[.ref b] below meth c H locs 231 4980 (lw_Z below #[.ref b] s) (F0 m 692 ls []) := by
  have lt_h0 := hG.1.lt h0
  have lt_h1 := hG.1.lt h1
  have lt_h2 := hG.1.lt h2
  have lt_h3 := hG.1.lt h3
  have lt_h4 := hG.1.lt h4
  have lt_h5 := hG.1.lt h5
  refine lv_aload_n S.1 S.2.1 dL_law_692 rfl (lv_at hl 1 rfl) ?_
  refine lv_aload_n S.1 S.2.1 dL_law_693 rfl (lv_at hl 0 rfl) ?_
  refine lv_iload S.1 S.2.1 dL_law_694 (lv_at hl 5 rfl) ?_
  refine lv_iconst (v := 1) S.1 S.2.1 dL_law_696 (by decide) ?_
  refine lv_iadd S.1 S.2.1 dL_law_697 ?_
  refine fx_topi (y := 1) (by decide) ?_
  refine gx_sld (v := 1) S hG hX hbl (fin_l (by decide)) hx1 dL_law_698 ?_
  refine lv_aload_n S.1 S.2.1 dL_law_699 rfl (lv_at hl 0 rfl) ?_
  refine lv_iload S.1 S.2.1 dL_law_700 (lv_at hl 5 rfl) ?_
  refine lv_iconst (v := 2) S.1 S.2.1 dL_law_702 (by decide) ?_
  refine lv_iadd S.1 S.2.1 dL_law_703 ?_
  refine fx_topi (y := 2) (by decide) ?_
  refine gx_sld (v := a2) S hG hX hbl (fin_l (by decide)) hx2 dL_law_704 ?_
  refine lv_aload_n S.1 S.2.1 dL_law_705 rfl (lv_at hl 0 rfl) ?_
  refine lv_iload S.1 S.2.1 dL_law_706 (lv_at hl 5 rfl) ?_
  refine lv_iconst (v := 3) S.1 S.2.1 dL_law_708 (by decide) ?_
  refine lv_iadd S.1 S.2.1 dL_law_709 ?_
  refine fx_topi (y := 3) (by decide) ?_
  refine gx_sld (v := a3) S hG hX hbl (fin_l (by decide)) hx3 dL_law_710 ?_
  refine lv_i2c (v := c3) S.1 S.2.1 dL_law_711 hc3 ?_
  refine lv_aload_n S.1 S.2.1 dL_law_712 rfl (lv_at hl 3 rfl) ?_
  refine fx_cTi (As := [.ref N0, .int 1, .int a2, .int c3, .ref (N0 + 229)]) (rest := []) S hG (k309_L_setLabel g_a2_ge_1 hst (by omega) h0 h1 h2) (vx_cwSW 5 S.2.2.2.2 gL_law_L_setLabel rfl rfl rfl (by decide +kernel) ⟨Nat.le_of_ble_eq_true rfl, Nat.le_of_ble_eq_true rfl⟩) rfl hl.1 rfl (Nat.le_of_ble_eq_true rfl) dL_law_713 ⟨Nat.le_of_ble_eq_true rfl, Nat.le_of_ble_eq_true rfl⟩ (fun rv_u_1 u_1 H locs hp hG => ?_)
  obtain ⟨rfl, hu_1⟩ := hp
  refine W.widen (k := 232) (n := 4986) (by decide) (by decide) ?_
  refine lv_istore (lv' := [(6, .int 1), (0, .ref b), (1, .ref N0), (2, .ref (N0 + 164)), (3, .ref (N0 + 229)), (4, .ref (N0 + 230)), (5, .int 0)]) S.1 S.2.1 dL_law_716 hl (by decide) rfl (fun ls hl => ?_)
  refine lv_aload_n S.1 S.2.1 dL_law_718 rfl (lv_at hl 3 rfl) ?_
  refine lv_aload_n S.1 S.2.1 dL_law_719 rfl (lv_at hl 1 rfl) ?_
  refine lv_iload S.1 S.2.1 dL_law_720 (lv_at hl 6 rfl) ?_
  refine lv_iconst (v := 1) S.1 S.2.1 dL_law_722 (by decide) ?_
  refine lv_iadd S.1 S.2.1 dL_law_723 ?_
  refine fx_topi (y := 1) (by decide) ?_
  refine gx_sld (v := 1) S hG hX hbl (fin_l (by decide)) hx1 dL_law_724 ?_
  refine lv_aload_n S.1 S.2.1 dL_law_725 rfl (lv_at hl 1 rfl) ?_
  refine lv_iload S.1 S.2.1 dL_law_726 (lv_at hl 6 rfl) ?_
  refine lv_iconst (v := 2) S.1 S.2.1 dL_law_728 (by decide) ?_
  refine lv_iadd S.1 S.2.1 dL_law_729 ?_
  refine fx_topi (y := 2) (by decide) ?_
  refine gx_sld (v := a2) S hG hX hbl (fin_l (by decide)) hx2 dL_law_730 ?_
  refine lv_aload_n S.1 S.2.1 dL_law_731 rfl (lv_at hl 1 rfl) ?_
  refine lv_iload S.1 S.2.1 dL_law_732 (lv_at hl 6 rfl) ?_
  refine lv_iconst (v := 3) S.1 S.2.1 dL_law_734 (by decide) ?_
  refine lv_iadd S.1 S.2.1 dL_law_735 ?_
  refine fx_topi (y := 3) (by decide) ?_
  refine gx_sld (v := a3) S hG hX hbl (fin_l (by decide)) hx3 dL_law_736 ?_
  refine lv_i2c (v := c3) S.1 S.2.1 dL_law_737 hc3 ?_
  refine fx_cVi (As := [.int 1, .int a2, .int c3]) (rest := []) S hG (k310_X10_setLabel g_a2_ge_1 (by omega) h3 h4 h5) h3 rfl (cwV 3 S.2.2.2.2 gL_law_X10_setLabel rfl rfl rfl (by decide +kernel) ⟨Nat.le_of_ble_eq_true rfl, Nat.le_of_ble_eq_true rfl⟩) rfl hl.1 rfl (Nat.le_of_ble_eq_true rfl) dL_law_738 ⟨Nat.le_of_ble_eq_true rfl, Nat.le_of_ble_eq_true rfl⟩ (fun rv_2 _ H locs hp hG => ?_)
  subst rv_2
  refine lv_istore (lv' := [(7, .int 0), (6, .int 1), (0, .ref b), (1, .ref N0), (2, .ref (N0 + 164)), (3, .ref (N0 + 229)), (4, .ref (N0 + 230)), (5, .int 0)]) S.1 S.2.1 dL_law_741 hl (by decide) rfl (fun ls hl => ?_)
  refine lv_aload_n S.1 S.2.1 dL_law_743 rfl (lv_at hl 4 rfl) ?_
  refine fx_cVi (As := []) (rest := []) S hG (k25_X10_thrown (by omega) fu_s) fu_s rfl (cwV 0 S.2.2.2.2 gL_law_X10_thrown rfl rfl rfl (by decide +kernel) ⟨Nat.le_of_ble_eq_true rfl, Nat.le_of_ble_eq_true rfl⟩) rfl hl.1 rfl (Nat.le_of_ble_eq_true rfl) dL_law_744 ⟨Nat.le_of_ble_eq_true rfl, Nat.le_of_ble_eq_true rfl⟩ (fun rv_3 _ H locs hp hG => ?_)
  subst rv_3
  refine lv_iload S.1 S.2.1 dL_law_747 (lv_at hl 1 rfl) ?_
  refine lv_icmp_eq (tgt := 754) S.1 S.2.1 dL_law_749 (by decide) (fun _ => ?_) (fun c => absurd (by decide) c)
  refine lv_iload S.1 S.2.1 dL_law_754 (lv_at hl 1 rfl) ?_
  refine lv_if_ne (tgt := 771) S.1 S.2.1 dL_law_756 (by decide) (fun _ => ?_) (fun c => absurd c (by decide))
  refine lv_goto (tgt := 2650) S.1 S.2.1 dL_law_771 (by decide) ?_
  refine lv_iinc (v := 5) (lv' := [(5, .int 5), (7, .int 0), (6, .int 1), (0, .ref b), (1, .ref N0), (2, .ref (N0 + 164)), (3, .ref (N0 + 229)), (4, .ref (N0 + 230))]) S.1 S.2.1 dL_law_2650 hl (k := 7) rfl (by decide) (by decide) rfl (fun ls hl => ?_)
  refine lv_goto (tgt := 28) S.1 S.2.1 dL_law_2653 (by decide) ?_
  refine lv_iload S.1 S.2.1 dL_law_28 (lv_at hl 0 rfl) ?_
  refine lv_aload_n S.1 S.2.1 dL_law_30 rfl (lv_at hl 3 rfl) ?_
  refine gx_slen (v := 5) S hG hX hbl rfl dL_law_31 ?_
  refine lv_iconst (v := 5) S.1 S.2.1 dL_law_32 (by decide) ?_
  refine lv_isub S.1 S.2.1 dL_law_33 ?_
  refine fx_topi (y := 0) (by decide) ?_
  refine lv_icmp_gt (tgt := 2656) S.1 S.2.1 dL_law_34 (by decide) (fun _ => ?_) (fun c => absurd (by decide) c)
  refine lv_iconst (v := 1) S.1 S.2.1 dL_law_2656 (by decide) ?_
  refine va_forget (fun q hq => by rw [hN]; exact hG.2.1.2.2 q hq) ?_
  refine W.widen (k := 600002) (n := 7302232) (by decide) (by decide) ?_
  exact lw_ret (d0 := s.drawn) (Drawn.sameBut.refl _ _) S.1 S.2.1 hr hlocks dL_law_2657
theorem l8_11 {p : Program} {e : Env} {s : State} {m : MethodId} {below : List Frame} {meth : Method} {c : Code} {b : Nat} {xs : Nat → Int32} {H : Heap} {locs : List Loc} {ls : Array Slot} {n : Nat} {a2 a3 c3 a4 : Int32} (hc3 : (a3.toUInt32 % 65536).toInt32 = c3) (g_a2_le_m1 : a2 ≤ (-1)) (S : CallFix p m c cL_law 9 s #[.ref b] wsL_law "TreeDifferLaw") (hr : meth.sig.returnType = ret) (hlocks : meth.locks = false) (hst : l.stackTraces = false) (hX : va_X b 5 xs s s.heap) (hbl : b < s.heap.size ∧ b < N0) (hN : s.heap.size = N0) (hn : N0 + 231 ≤ n) (hx1 : xs 1 = 2) (hx2 : xs 2 = a2) (hx3 : xs 3 = a3) (hx4 : xs 4 = a4) (h0 : F N0 = some (.inr (9, [.ref (N0 + 1), .ref (N0 + 2), .ref (N0 + 11), .ref (N0 + 13), .ref (N0 + 63), .ref (N0 + 65), .ref (N0 + 85), .int (-1), .int (-1), .int 32]))) (h1 : F (N0 + 1) = some (.inl (cTr, 3, .inr (.inr (.inr (.inr (va_up (va_up (va_up (fun _ => none) 0 (some (N0 + 143))) 1 (some (N0 + 150))) 2 (some (N0 + 157))))))))) (h2 : F (N0 + 157) = some (.inr (7, [.ref (N0 + 158), .ref (N0 + 159), .ref (N0 + 160), .ref (N0 + 161), .ref (N0 + 162), .ref (N0 + 163), .int 1]))) (h3 : F (N0 + 164) = some (.inr (12, [.ref (N0 + 165), .int 0, .ref (N0 + 181), .int 0, .int 0, .int 0, .int (-1), .ref (ql 24), .ref (N0 + 182), .ref (N0 + 187), .ref (N0 + 208), .ref (N0 + 209), .ref (N0 + 210), .ref (N0 + 211), .ref (N0 + 212), .int 0, .ref (N0 + 213), .ref (N0 + 218), .ref (N0 + 223), .ref (N0 + 224), .ref (N0 + 225), .ref (N0 + 226), .ref (N0 + 227), .int 0, .int 0, .ref (N0 + 228), .null, .int (-1), .int 0, .int 0, .int 0]))) (h4 : F (N0 + 165) = some (.inl (cTm, 3, .inr (.inr (.inr (.inr (va_up (va_up (va_up (fun _ => none) 0 (some (N0 + 166))) 1 (some (N0 + 171))) 2 (some (N0 + 176))))))))) (h5 : F (N0 + 176) = some (.inr (11, [.ref (N0 + 177), .ref (N0 + 178), .ref (N0 + 179), .ref (N0 + 180), .int 1]))) (hG : fG N0 D vwCl (fty cI cC cL cD cII cTr cTm cIt cB) (fen ql) s F n H locs) (hl : lv_has ls 9 [(0, .ref b), (1, .ref N0), (2, .ref (N0 + 164)), (3, .ref (N0 + 229)), (4, .ref (N0 + 230)), (5, .int 0)]) : W p l e { frames := 2048, cells := 600002, slots := 7302232, locals := 84000 } s m #[.ref b] below meth c H locs 231 4980 (lw_Z below #[.ref b] s) (F0 m 692 ls []) := by
  have lt_h0 := hG.1.lt h0
  have lt_h1 := hG.1.lt h1
  have lt_h2 := hG.1.lt h2
  have lt_h3 := hG.1.lt h3
  have lt_h4 := hG.1.lt h4
  have lt_h5 := hG.1.lt h5
  refine lv_aload_n S.1 S.2.1 dL_law_692 rfl (lv_at hl 1 rfl) ?_
  refine lv_aload_n S.1 S.2.1 dL_law_693 rfl (lv_at hl 0 rfl) ?_
  refine lv_iload S.1 S.2.1 dL_law_694 (lv_at hl 5 rfl) ?_
  refine lv_iconst (v := 1) S.1 S.2.1 dL_law_696 (by decide) ?_
  refine lv_iadd S.1 S.2.1 dL_law_697 ?_
  refine fx_topi (y := 1) (by decide) ?_
  refine gx_sld (v := 2) S hG hX hbl (fin_l (by decide)) hx1 dL_law_698 ?_
  refine lv_aload_n S.1 S.2.1 dL_law_699 rfl (lv_at hl 0 rfl) ?_
  refine lv_iload S.1 S.2.1 dL_law_700 (lv_at hl 5 rfl) ?_
  refine lv_iconst (v := 2) S.1 S.2.1 dL_law_702 (by decide) ?_
  refine lv_iadd S.1 S.2.1 dL_law_703 ?_
  refine fx_topi (y := 2) (by decide) ?_
  refine gx_sld (v := a2) S hG hX hbl (fin_l (by decide)) hx2 dL_law_704 ?_
  refine lv_aload_n S.1 S.2.1 dL_law_705 rfl (lv_at hl 0 rfl) ?_
  refine lv_iload S.1 S.2.1 dL_law_706 (lv_at hl 5 rfl) ?_
  refine lv_iconst (v := 3) S.1 S.2.1 dL_law_708 (by decide) ?_
  refine lv_iadd S.1 S.2.1 dL_law_709 ?_
  refine fx_topi (y := 3) (by decide) ?_
  refine gx_sld (v := a3) S hG hX hbl (fin_l (by decide)) hx3 dL_law_710 ?_
  refine lv_i2c (v := c3) S.1 S.2.1 dL_law_711 hc3 ?_
  refine lv_aload_n S.1 S.2.1 dL_law_712 rfl (lv_at hl 3 rfl) ?_
  refine fx_cTi (As := [.ref N0, .int 2, .int a2, .int c3, .ref (N0 + 229)]) (rest := []) S hG (k312_L_setLabel g_a2_le_m1 hst (by omega) h0 h1 h2) (vx_cwSW 5 S.2.2.2.2 gL_law_L_setLabel rfl rfl rfl (by decide +kernel) ⟨Nat.le_of_ble_eq_true rfl, Nat.le_of_ble_eq_true rfl⟩) rfl hl.1 rfl (Nat.le_of_ble_eq_true rfl) dL_law_713 ⟨Nat.le_of_ble_eq_true rfl, Nat.le_of_ble_eq_true rfl⟩ (fun rv_u_1 u_1 H locs hp hG => ?_)
  obtain ⟨rfl, hu_1⟩ := hp
  refine W.widen (k := 232) (n := 4986) (by decide) (by decide) ?_
  refine lv_istore (lv' := [(6, .int 1), (0, .ref b), (1, .ref N0), (2, .ref (N0 + 164)), (3, .ref (N0 + 229)), (4, .ref (N0 + 230)), (5, .int 0)]) S.1 S.2.1 dL_law_716 hl (by decide) rfl (fun ls hl => ?_)
  refine lv_aload_n S.1 S.2.1 dL_law_718 rfl (lv_at hl 3 rfl) ?_
  refine lv_aload_n S.1 S.2.1 dL_law_719 rfl (lv_at hl 1 rfl) ?_
  refine lv_iload S.1 S.2.1 dL_law_720 (lv_at hl 6 rfl) ?_
  refine lv_iconst (v := 1) S.1 S.2.1 dL_law_722 (by decide) ?_
  refine lv_iadd S.1 S.2.1 dL_law_723 ?_
  refine fx_topi (y := 1) (by decide) ?_
  refine gx_sld (v := 2) S hG hX hbl (fin_l (by decide)) hx1 dL_law_724 ?_
  refine lv_aload_n S.1 S.2.1 dL_law_725 rfl (lv_at hl 1 rfl) ?_
  refine lv_iload S.1 S.2.1 dL_law_726 (lv_at hl 6 rfl) ?_
  refine lv_iconst (v := 2) S.1 S.2.1 dL_law_728 (by decide) ?_
  refine lv_iadd S.1 S.2.1 dL_law_729 ?_
  refine fx_topi (y := 2) (by decide) ?_
  refine gx_sld (v := a2) S hG hX hbl (fin_l (by decide)) hx2 dL_law_730 ?_
  refine lv_aload_n S.1 S.2.1 dL_law_731 rfl (lv_at hl 1 rfl) ?_
  refine lv_iload S.1 S.2.1 dL_law_732 (lv_at hl 6 rfl) ?_
  refine lv_iconst (v := 3) S.1 S.2.1 dL_law_734 (by decide) ?_
  refine lv_iadd S.1 S.2.1 dL_law_735 ?_
  refine fx_topi (y := 3) (by decide) ?_
  refine gx_sld (v := a3) S hG hX hbl (fin_l (by decide)) hx3 dL_law_736 ?_
  refine lv_i2c (v := c3) S.1 S.2.1 dL_law_737 hc3 ?_
  refine fx_cVi (As := [.int 2, .int a2, .int c3]) (rest := []) S hG (k313_X10_setLabel g_a2_le_m1 (by omega) h3 h4 h5) h3 rfl (cwV 3 S.2.2.2.2 gL_law_X10_setLabel rfl rfl rfl (by decide +kernel) ⟨Nat.le_of_ble_eq_true rfl, Nat.le_of_ble_eq_true rfl⟩) rfl hl.1 rfl (Nat.le_of_ble_eq_true rfl) dL_law_738 ⟨Nat.le_of_ble_eq_true rfl, Nat.le_of_ble_eq_true rfl⟩ (fun rv_2 _ H locs hp hG => ?_)
  subst rv_2
  refine lv_istore (lv' := [(7, .int 0), (6, .int 1), (0, .ref b), (1, .ref N0), (2, .ref (N0 + 164)), (3, .ref (N0 + 229)), (4, .ref (N0 + 230)), (5, .int 0)]) S.1 S.2.1 dL_law_741 hl (by decide) rfl (fun ls hl => ?_)
  refine lv_aload_n S.1 S.2.1 dL_law_743 rfl (lv_at hl 4 rfl) ?_
  refine fx_cVi (As := []) (rest := []) S hG (k25_X10_thrown (by omega) fu_s) fu_s rfl (cwV 0 S.2.2.2.2 gL_law_X10_thrown rfl rfl rfl (by decide +kernel) ⟨Nat.le_of_ble_eq_true rfl, Nat.le_of_ble_eq_true rfl⟩) rfl hl.1 rfl (Nat.le_of_ble_eq_true rfl) dL_law_744 ⟨Nat.le_of_ble_eq_true rfl, Nat.le_of_ble_eq_true rfl⟩ (fun rv_3 _ H locs hp hG => ?_)
  subst rv_3
  refine lv_iload S.1 S.2.1 dL_law_747 (lv_at hl 1 rfl) ?_
  refine lv_icmp_eq (tgt := 754) S.1 S.2.1 dL_law_749 (by decide) (fun _ => ?_) (fun c => absurd (by decide) c)
  refine lv_iload S.1 S.2.1 dL_law_754 (lv_at hl 1 rfl) ?_
  refine lv_if_ne (tgt := 771) S.1 S.2.1 dL_law_756 (by decide) (fun _ => ?_) (fun c => absurd c (by decide))
  refine lv_goto (tgt := 2650) S.1 S.2.1 dL_law_771 (by decide) ?_
  refine lv_iinc (v := 5) (lv' := [(5, .int 5), (7, .int 0), (6, .int 1), (0, .ref b), (1, .ref N0), (2, .ref (N0 + 164)), (3, .ref (N0 + 229)), (4, .ref (N0 + 230))]) S.1 S.2.1 dL_law_2650 hl (k := 7) rfl (by decide) (by decide) rfl (fun ls hl => ?_)
  refine lv_goto (tgt := 28) S.1 S.2.1 dL_law_2653 (by decide) ?_
  refine lv_iload S.1 S.2.1 dL_law_28 (lv_at hl 0 rfl) ?_
  refine lv_aload_n S.1 S.2.1 dL_law_30 rfl (lv_at hl 3 rfl) ?_
  refine gx_slen (v := 5) S hG hX hbl rfl dL_law_31 ?_
  refine lv_iconst (v := 5) S.1 S.2.1 dL_law_32 (by decide) ?_
  refine lv_isub S.1 S.2.1 dL_law_33 ?_
  refine fx_topi (y := 0) (by decide) ?_
  refine lv_icmp_gt (tgt := 2656) S.1 S.2.1 dL_law_34 (by decide) (fun _ => ?_) (fun c => absurd (by decide) c)
  refine lv_iconst (v := 1) S.1 S.2.1 dL_law_2656 (by decide) ?_
  refine va_forget (fun q hq => by rw [hN]; exact hG.2.1.2.2 q hq) ?_
  refine W.widen (k := 600002) (n := 7302232) (by decide) (by decide) ?_
  exact lw_ret (d0 := s.drawn) (Drawn.sameBut.refl _ _) S.1 S.2.1 hr hlocks dL_law_2657
theorem l8_12 {p : Program} {e : Env} {s : State} {m : MethodId} {below : List Frame} {meth : Method} {c : Code} {b : Nat} {xs : Nat → Int32} {H : Heap} {locs : List Loc} {ls : Array Slot} {n : Nat} {a3 c3 a4 : Int32} (hc3 : (a3.toUInt32 % 65536).toInt32 = c3) (g_c3_le_96 : c3 ≤ 96) (S : CallFix p m c cL_law 9 s #[.ref b] wsL_law "TreeDifferLaw") (hr : meth.sig.returnType = ret) (hlocks : meth.locks = false) (hst : l.stackTraces = false) (hX : va_X b 5 xs s s.heap) (hbl : b < s.heap.size ∧ b < N0) (hN : s.heap.size = N0) (hn : N0 + 231 ≤ n) (hx1 : xs 1 = 2) (hx2 : xs 2 = 0) (hx3 : xs 3 = a3) (hx4 : xs 4 = a4) (h0 : F N0 = some (.inr (9, [.ref (N0 + 1), .ref (N0 + 2), .ref (N0 + 11), .ref (N0 + 13), .ref (N0 + 63), .ref (N0 + 65), .ref (N0 + 85), .int (-1), .int (-1), .int 32]))) (h1 : F (N0 + 1) = some (.inl (cTr, 3, .inr (.inr (.inr (.inr (va_up (va_up (va_up (fun _ => none) 0 (some (N0 + 143))) 1 (some (N0 + 150))) 2 (some (N0 + 157))))))))) (h2 : F (N0 + 157) = some (.inr (7, [.ref (N0 + 158), .ref (N0 + 159), .ref (N0 + 160), .ref (N0 + 161), .ref (N0 + 162), .ref (N0 + 163), .int 1]))) (h3 : F (N0 + 164) = some (.inr (12, [.ref (N0 + 165), .int 0, .ref (N0 + 181), .int 0, .int 0, .int 0, .int (-1), .ref (ql 24), .ref (N0 + 182), .ref (N0 + 187), .ref (N0 + 208), .ref (N0 + 209), .ref (N0 + 210), .ref (N0 + 211), .ref (N0 + 212), .int 0, .ref (N0 + 213), .ref (N0 + 218), .ref (N0 + 223), .ref (N0 + 224), .ref (N0 + 225), .ref (N0 + 226), .ref (N0 + 227), .int 0, .int 0, .ref (N0 + 228), .null, .int (-1), .int 0, .int 0, .int 0]))) (h4 : F (N0 + 165) = some (.inl (cTm, 3, .inr (.inr (.inr (.inr (va_up (va_up (va_up (fun _ => none) 0 (some (N0 + 166))) 1 (some (N0 + 171))) 2 (some (N0 + 176))))))))) (h5 : F (N0 + 176) = some (.inr (11, [.ref (N0 + 177), .ref (N0 + 178), .ref (N0 + 179), .ref (N0 + 180), .int 1]))) (hG : fG N0 D vwCl (fty cI cC cL cD cII cTr cTm cIt cB) (fen ql) s F n H locs) (hl : lv_has ls 9 [(0, .ref b), (1, .ref N0), (2, .ref (N0 + 164)), (3, .ref (N0 + 229)), (4, .ref (N0 + 230)), (5, .int 0)]) : W p l e { frames := 2048, cells := 600002, slots := 7302232, locals := 84000 } s m #[.ref b] below meth c H locs 231 4980 (lw_Z below #[.ref b] s) (F0 m 692 ls []) := by
  have lt_h0 := hG.1.lt h0
  have lt_h1 := hG.1.lt h1
  have lt_h2 := hG.1.lt h2
  have lt_h3 := hG.1.lt h3
  have lt_h4 := hG.1.lt h4
  have lt_h5 := hG.1.lt h5
  refine lv_aload_n S.1 S.2.1 dL_law_692 rfl (lv_at hl 1 rfl) ?_
  refine lv_aload_n S.1 S.2.1 dL_law_693 rfl (lv_at hl 0 rfl) ?_
  refine lv_iload S.1 S.2.1 dL_law_694 (lv_at hl 5 rfl) ?_
  refine lv_iconst (v := 1) S.1 S.2.1 dL_law_696 (by decide) ?_
  refine lv_iadd S.1 S.2.1 dL_law_697 ?_
  refine fx_topi (y := 1) (by decide) ?_
  refine gx_sld (v := 2) S hG hX hbl (fin_l (by decide)) hx1 dL_law_698 ?_
  refine lv_aload_n S.1 S.2.1 dL_law_699 rfl (lv_at hl 0 rfl) ?_
  refine lv_iload S.1 S.2.1 dL_law_700 (lv_at hl 5 rfl) ?_
  refine lv_iconst (v := 2) S.1 S.2.1 dL_law_702 (by decide) ?_
  refine lv_iadd S.1 S.2.1 dL_law_703 ?_
  refine fx_topi (y := 2) (by decide) ?_
  refine gx_sld (v := 0) S hG hX hbl (fin_l (by decide)) hx2 dL_law_704 ?_
  refine lv_aload_n S.1 S.2.1 dL_law_705 rfl (lv_at hl 0 rfl) ?_
  refine lv_iload S.1 S.2.1 dL_law_706 (lv_at hl 5 rfl) ?_
  refine lv_iconst (v := 3) S.1 S.2.1 dL_law_708 (by decide) ?_
  refine lv_iadd S.1 S.2.1 dL_law_709 ?_
  refine fx_topi (y := 3) (by decide) ?_
  refine gx_sld (v := a3) S hG hX hbl (fin_l (by decide)) hx3 dL_law_710 ?_
  refine lv_i2c (v := c3) S.1 S.2.1 dL_law_711 hc3 ?_
  refine lv_aload_n S.1 S.2.1 dL_law_712 rfl (lv_at hl 3 rfl) ?_
  refine fx_cTi (As := [.ref N0, .int 2, .int 0, .int c3, .ref (N0 + 229)]) (rest := []) S hG (k315_L_setLabel g_c3_le_96 hst (by omega) h0 h1 h2) (vx_cwSW 5 S.2.2.2.2 gL_law_L_setLabel rfl rfl rfl (by decide +kernel) ⟨Nat.le_of_ble_eq_true rfl, Nat.le_of_ble_eq_true rfl⟩) rfl hl.1 rfl (Nat.le_of_ble_eq_true rfl) dL_law_713 ⟨Nat.le_of_ble_eq_true rfl, Nat.le_of_ble_eq_true rfl⟩ (fun rv_u_1 u_1 H locs hp hG => ?_)
  obtain ⟨rfl, hu_1⟩ := hp
  refine W.widen (k := 232) (n := 4986) (by decide) (by decide) ?_
  refine lv_istore (lv' := [(6, .int 2), (0, .ref b), (1, .ref N0), (2, .ref (N0 + 164)), (3, .ref (N0 + 229)), (4, .ref (N0 + 230)), (5, .int 0)]) S.1 S.2.1 dL_law_716 hl (by decide) rfl (fun ls hl => ?_)
  refine lv_aload_n S.1 S.2.1 dL_law_718 rfl (lv_at hl 3 rfl) ?_
  refine lv_aload_n S.1 S.2.1 dL_law_719 rfl (lv_at hl 1 rfl) ?_
  refine lv_iload S.1 S.2.1 dL_law_720 (lv_at hl 6 rfl) ?_
  refine lv_iconst (v := 1) S.1 S.2.1 dL_law_722 (by decide) ?_
  refine lv_iadd S.1 S.2.1 dL_law_723 ?_
  refine fx_topi (y := 1) (by decide) ?_
  refine gx_sld (v := 2) S hG hX hbl (fin_l (by decide)) hx1 dL_law_724 ?_
  refine lv_aload_n S.1 S.2.1 dL_law_725 rfl (lv_at hl 1 rfl) ?_
  refine lv_iload S.1 S.2.1 dL_law_726 (lv_at hl 6 rfl) ?_
  refine lv_iconst (v := 2) S.1 S.2.1 dL_law_728 (by decide) ?_
  refine lv_iadd S.1 S.2.1 dL_law_729 ?_
  refine fx_topi (y := 2) (by decide) ?_
  refine gx_sld (v := 0) S hG hX hbl (fin_l (by decide)) hx2 dL_law_730 ?_
  refine lv_aload_n S.1 S.2.1 dL_law_731 rfl (lv_at hl 1 rfl) ?_
  refine lv_iload S.1 S.2.1 dL_law_732 (lv_at hl 6 rfl) ?_
  refine lv_iconst (v := 3) S.1 S.2.1 dL_law_734 (by decide) ?_
  refine lv_iadd S.1 S.2.1 dL_law_735 ?_
  refine fx_topi (y := 3) (by decide) ?_
  refine gx_sld (v := a3) S hG hX hbl (fin_l (by decide)) hx3 dL_law_736 ?_
  refine lv_i2c (v := c3) S.1 S.2.1 dL_law_737 hc3 ?_
  refine fx_cVi (As := [.int 2, .int 0, .int c3]) (rest := []) S hG (k316_X10_setLabel g_c3_le_96 (by omega) h3 h4 h5) h3 rfl (cwV 3 S.2.2.2.2 gL_law_X10_setLabel rfl rfl rfl (by decide +kernel) ⟨Nat.le_of_ble_eq_true rfl, Nat.le_of_ble_eq_true rfl⟩) rfl hl.1 rfl (Nat.le_of_ble_eq_true rfl) dL_law_738 ⟨Nat.le_of_ble_eq_true rfl, Nat.le_of_ble_eq_true rfl⟩ (fun rv_2 _ H locs hp hG => ?_)
  subst rv_2
  refine lv_istore (lv' := [(7, .int 0), (6, .int 2), (0, .ref b), (1, .ref N0), (2, .ref (N0 + 164)), (3, .ref (N0 + 229)), (4, .ref (N0 + 230)), (5, .int 0)]) S.1 S.2.1 dL_law_741 hl (by decide) rfl (fun ls hl => ?_)
  refine lv_aload_n S.1 S.2.1 dL_law_743 rfl (lv_at hl 4 rfl) ?_
  refine fx_cVi (As := []) (rest := []) S hG (k101_X10_thrown (by omega) fu_s) fu_s rfl (cwV 0 S.2.2.2.2 gL_law_X10_thrown rfl rfl rfl (by decide +kernel) ⟨Nat.le_of_ble_eq_true rfl, Nat.le_of_ble_eq_true rfl⟩) rfl hl.1 rfl (Nat.le_of_ble_eq_true rfl) dL_law_744 ⟨Nat.le_of_ble_eq_true rfl, Nat.le_of_ble_eq_true rfl⟩ (fun rv_3 _ H locs hp hG => ?_)
  subst rv_3
  refine lv_iload S.1 S.2.1 dL_law_747 (lv_at hl 1 rfl) ?_
  refine lv_icmp_eq (tgt := 754) S.1 S.2.1 dL_law_749 (by decide) (fun _ => ?_) (fun c => absurd (by decide) c)
  refine lv_iload S.1 S.2.1 dL_law_754 (lv_at hl 1 rfl) ?_
  refine lv_if_ne (tgt := 771) S.1 S.2.1 dL_law_756 (by decide) (fun _ => ?_) (fun c => absurd c (by decide))
  refine lv_goto (tgt := 2650) S.1 S.2.1 dL_law_771 (by decide) ?_
  refine lv_iinc (v := 5) (lv' := [(5, .int 5), (7, .int 0), (6, .int 2), (0, .ref b), (1, .ref N0), (2, .ref (N0 + 164)), (3, .ref (N0 + 229)), (4, .ref (N0 + 230))]) S.1 S.2.1 dL_law_2650 hl (k := 7) rfl (by decide) (by decide) rfl (fun ls hl => ?_)
  refine lv_goto (tgt := 28) S.1 S.2.1 dL_law_2653 (by decide) ?_
  refine lv_iload S.1 S.2.1 dL_law_28 (lv_at hl 0 rfl) ?_
  refine lv_aload_n S.1 S.2.1 dL_law_30 rfl (lv_at hl 3 rfl) ?_
  refine gx_slen (v := 5) S hG hX hbl rfl dL_law_31 ?_
  refine lv_iconst (v := 5) S.1 S.2.1 dL_law_32 (by decide) ?_
  refine lv_isub S.1 S.2.1 dL_law_33 ?_
  refine fx_topi (y := 0) (by decide) ?_
  refine lv_icmp_gt (tgt := 2656) S.1 S.2.1 dL_law_34 (by decide) (fun _ => ?_) (fun c => absurd (by decide) c)
  refine lv_iconst (v := 1) S.1 S.2.1 dL_law_2656 (by decide) ?_
  refine va_forget (fun q hq => by rw [hN]; exact hG.2.1.2.2 q hq) ?_
  refine W.widen (k := 600002) (n := 7302232) (by decide) (by decide) ?_
  exact lw_ret (d0 := s.drawn) (Drawn.sameBut.refl _ _) S.1 S.2.1 hr hlocks dL_law_2657
theorem l8_13 {p : Program} {e : Env} {s : State} {m : MethodId} {below : List Frame} {meth : Method} {c : Code} {b : Nat} {xs : Nat → Int32} {H : Heap} {locs : List Loc} {ls : Array Slot} {n : Nat} {a3 c3 a4 : Int32} (hc3 : (a3.toUInt32 % 65536).toInt32 = c3) (g_c3_ge_97 : 97 ≤ c3) (g_c3_le_122 : c3 ≤ 122) (hv3 : vp_nar .char c3 = c3) (S : CallFix p m c cL_law 9 s #[.ref b] wsL_law "TreeDifferLaw") (hr : meth.sig.returnType = ret) (hlocks : meth.locks = false) (hst : l.stackTraces = false) (hX : va_X b 5 xs s s.heap) (hbl : b < s.heap.size ∧ b < N0) (hN : s.heap.size = N0) (hn : N0 + 231 ≤ n) (hx1 : xs 1 = 2) (hx2 : xs 2 = 0) (hx3 : xs 3 = a3) (hx4 : xs 4 = a4) (h0 : F N0 = some (.inr (9, [.ref (N0 + 1), .ref (N0 + 2), .ref (N0 + 11), .ref (N0 + 13), .ref (N0 + 63), .ref (N0 + 65), .ref (N0 + 85), .int (-1), .int (-1), .int 32]))) (h1 : F (N0 + 1) = some (.inl (cTr, 3, .inr (.inr (.inr (.inr (va_up (va_up (va_up (fun _ => none) 0 (some (N0 + 143))) 1 (some (N0 + 150))) 2 (some (N0 + 157))))))))) (h2 : F (N0 + 157) = some (.inr (7, [.ref (N0 + 158), .ref (N0 + 159), .ref (N0 + 160), .ref (N0 + 161), .ref (N0 + 162), .ref (N0 + 163), .int 1]))) (h3 : F (N0 + 158) = some (.inl (cC, 20, .inl (upd (fun _ => 0) 0 97)))) (h4 : F (N0 + 229) = some (.inl (cL, 1, .inr (.inl (fun _ => 0))))) (h5 : F (N0 + 164) = some (.inr (12, [.ref (N0 + 165), .int 0, .ref (N0 + 181), .int 0, .int 0, .int 0, .int (-1), .ref (ql 24), .ref (N0 + 182), .ref (N0 + 187), .ref (N0 + 208), .ref (N0 + 209), .ref (N0 + 210), .ref (N0 + 211), .ref (N0 + 212), .int 0, .ref (N0 + 213), .ref (N0 + 218), .ref (N0 + 223), .ref (N0 + 224), .ref (N0 + 225), .ref (N0 + 226), .ref (N0 + 227), .int 0, .int 0, .ref (N0 + 228), .null, .int (-1), .int 0, .int 0, .int 0]))) (h6 : F (N0 + 165) = some (.inl (cTm, 3, .inr (.inr (.inr (.inr (va_up (va_up (va_up (fun _ => none) 0 (some (N0 + 166))) 1 (some (N0 + 171))) 2 (some (N0 + 176))))))))) (h7 : F (N0 + 176) = some (.inr (11, [.ref (N0 + 177), .ref (N0 + 178), .ref (N0 + 179), .ref (N0 + 180), .int 1]))) (h8 : F (N0 + 177) = some (.inl (cI, 20, .inl (upd (fun _ => 0) 0 97)))) (hG : fG N0 D vwCl (fty cI cC cL cD cII cTr cTm cIt cB) (fen ql) s F n H locs) (hl : lv_has ls 9 [(0, .ref b), (1, .ref N0), (2, .ref (N0 + 164)), (3, .ref (N0 + 229)), (4, .ref (N0 + 230)), (5, .int 0)]) : W p l e { frames := 2048, cells := 600002, slots := 7302232, locals := 84000 } s m #[.ref b] below meth c H locs 231 4980 (lw_Z below #[.ref b] s) (F0 m 692 ls []) := by
  have lt_h0 := hG.1.lt h0
  have lt_h1 := hG.1.lt h1
  have lt_h2 := hG.1.lt h2
  have lt_h3 := hG.1.lt h3
  have lt_h4 := hG.1.lt h4
  have lt_h5 := hG.1.lt h5
  have lt_h6 := hG.1.lt h6
  have lt_h7 := hG.1.lt h7
  have lt_h8 := hG.1.lt h8
  refine lv_aload_n S.1 S.2.1 dL_law_692 rfl (lv_at hl 1 rfl) ?_
  refine lv_aload_n S.1 S.2.1 dL_law_693 rfl (lv_at hl 0 rfl) ?_
  refine lv_iload S.1 S.2.1 dL_law_694 (lv_at hl 5 rfl) ?_
  refine lv_iconst (v := 1) S.1 S.2.1 dL_law_696 (by decide) ?_
  refine lv_iadd S.1 S.2.1 dL_law_697 ?_
  refine fx_topi (y := 1) (by decide) ?_
  refine gx_sld (v := 2) S hG hX hbl (fin_l (by decide)) hx1 dL_law_698 ?_
  refine lv_aload_n S.1 S.2.1 dL_law_699 rfl (lv_at hl 0 rfl) ?_
  refine lv_iload S.1 S.2.1 dL_law_700 (lv_at hl 5 rfl) ?_
  refine lv_iconst (v := 2) S.1 S.2.1 dL_law_702 (by decide) ?_
  refine lv_iadd S.1 S.2.1 dL_law_703 ?_
  refine fx_topi (y := 2) (by decide) ?_
  refine gx_sld (v := 0) S hG hX hbl (fin_l (by decide)) hx2 dL_law_704 ?_
  refine lv_aload_n S.1 S.2.1 dL_law_705 rfl (lv_at hl 0 rfl) ?_
  refine lv_iload S.1 S.2.1 dL_law_706 (lv_at hl 5 rfl) ?_
  refine lv_iconst (v := 3) S.1 S.2.1 dL_law_708 (by decide) ?_
  refine lv_iadd S.1 S.2.1 dL_law_709 ?_
  refine fx_topi (y := 3) (by decide) ?_
  refine gx_sld (v := a3) S hG hX hbl (fin_l (by decide)) hx3 dL_law_710 ?_
  refine lv_i2c (v := c3) S.1 S.2.1 dL_law_711 hc3 ?_
  refine lv_aload_n S.1 S.2.1 dL_law_712 rfl (lv_at hl 3 rfl) ?_
  refine fx_cTi (As := [.ref N0, .int 2, .int 0, .int c3, .ref (N0 + 229)]) (rest := []) S hG (k319_L_setLabel g_c3_ge_97 g_c3_le_122 hv3 (by omega) h0 h1 h2 h3 h4) (vx_cwSW 5 S.2.2.2.2 gL_law_L_setLabel rfl rfl rfl (by decide +kernel) ⟨Nat.le_of_ble_eq_true rfl, Nat.le_of_ble_eq_true rfl⟩) rfl hl.1 rfl (Nat.le_of_ble_eq_true rfl) dL_law_713 ⟨Nat.le_of_ble_eq_true rfl, Nat.le_of_ble_eq_true rfl⟩ (fun rv_1 _ H locs hp hG => ?_)
  subst rv_1
  refine lv_istore (lv' := [(6, .int 0), (0, .ref b), (1, .ref N0), (2, .ref (N0 + 164)), (3, .ref (N0 + 229)), (4, .ref (N0 + 230)), (5, .int 0)]) S.1 S.2.1 dL_law_716 hl (by decide) rfl (fun ls hl => ?_)
  refine lv_aload_n S.1 S.2.1 dL_law_718 rfl (lv_at hl 3 rfl) ?_
  refine lv_aload_n S.1 S.2.1 dL_law_719 rfl (lv_at hl 1 rfl) ?_
  refine lv_iload S.1 S.2.1 dL_law_720 (lv_at hl 6 rfl) ?_
  refine lv_iconst (v := 1) S.1 S.2.1 dL_law_722 (by decide) ?_
  refine lv_iadd S.1 S.2.1 dL_law_723 ?_
  refine fx_topi (y := 1) (by decide) ?_
  refine gx_sld (v := 2) S hG hX hbl (fin_l (by decide)) hx1 dL_law_724 ?_
  refine lv_aload_n S.1 S.2.1 dL_law_725 rfl (lv_at hl 1 rfl) ?_
  refine lv_iload S.1 S.2.1 dL_law_726 (lv_at hl 6 rfl) ?_
  refine lv_iconst (v := 2) S.1 S.2.1 dL_law_728 (by decide) ?_
  refine lv_iadd S.1 S.2.1 dL_law_729 ?_
  refine fx_topi (y := 2) (by decide) ?_
  refine gx_sld (v := 0) S hG hX hbl (fin_l (by decide)) hx2 dL_law_730 ?_
  refine lv_aload_n S.1 S.2.1 dL_law_731 rfl (lv_at hl 1 rfl) ?_
  refine lv_iload S.1 S.2.1 dL_law_732 (lv_at hl 6 rfl) ?_
  refine lv_iconst (v := 3) S.1 S.2.1 dL_law_734 (by decide) ?_
  refine lv_iadd S.1 S.2.1 dL_law_735 ?_
  refine fx_topi (y := 3) (by decide) ?_
  refine gx_sld (v := a3) S hG hX hbl (fin_l (by decide)) hx3 dL_law_736 ?_
  refine lv_i2c (v := c3) S.1 S.2.1 dL_law_737 hc3 ?_
  refine fx_cVi (As := [.int 2, .int 0, .int c3]) (rest := []) S hG (k320_X10_setLabel g_c3_ge_97 g_c3_le_122 (by omega) (fu_at (by omega) (fu_at (by omega) h5)) (fu_at (by omega) (fu_at (by omega) h6)) (fu_at (by omega) (fu_at (by omega) h7)) (fu_at (by omega) (fu_at (by omega) h8))) (fu_at (by omega) (fu_at (by omega) h5)) rfl (cwV 3 S.2.2.2.2 gL_law_X10_setLabel rfl rfl rfl (by decide +kernel) ⟨Nat.le_of_ble_eq_true rfl, Nat.le_of_ble_eq_true rfl⟩) rfl hl.1 rfl (Nat.le_of_ble_eq_true rfl) dL_law_738 ⟨Nat.le_of_ble_eq_true rfl, Nat.le_of_ble_eq_true rfl⟩ (fun rv_2 _ H locs hp hG => ?_)
  subst rv_2
  refine lv_istore (lv' := [(7, .int 1), (6, .int 0), (0, .ref b), (1, .ref N0), (2, .ref (N0 + 164)), (3, .ref (N0 + 229)), (4, .ref (N0 + 230)), (5, .int 0)]) S.1 S.2.1 dL_law_741 hl (by decide) rfl (fun ls hl => ?_)
  refine lv_aload_n S.1 S.2.1 dL_law_743 rfl (lv_at hl 4 rfl) ?_
  refine fx_cVi (As := []) (rest := []) S hG (k117_X10_thrown (by omega) (fu_at (by omega) fu_s)) (fu_at (by omega) fu_s) rfl (cwV 0 S.2.2.2.2 gL_law_X10_thrown rfl rfl rfl (by decide +kernel) ⟨Nat.le_of_ble_eq_true rfl, Nat.le_of_ble_eq_true rfl⟩) rfl hl.1 rfl (Nat.le_of_ble_eq_true rfl) dL_law_744 ⟨Nat.le_of_ble_eq_true rfl, Nat.le_of_ble_eq_true rfl⟩ (fun rv_3 _ H locs hp hG => ?_)
  subst rv_3
  refine lv_iload S.1 S.2.1 dL_law_747 (lv_at hl 1 rfl) ?_
  refine lv_icmp_eq (tgt := 754) S.1 S.2.1 dL_law_749 (by decide) (fun _ => ?_) (fun c => absurd (by decide) c)
  refine lv_iload S.1 S.2.1 dL_law_754 (lv_at hl 1 rfl) ?_
  refine lv_if_ne (tgt := 771) S.1 S.2.1 dL_law_756 (by decide) (fun c => absurd (by decide) c) (fun _ => ?_)
  refine lv_aload_n S.1 S.2.1 dL_law_759 rfl (lv_at hl 5 rfl) ?_
  refine lv_iconst (v := 0) S.1 S.2.1 dL_law_760 (by decide) ?_
  refine gx_lald (v := 1) S hG 2 (fu_at (by omega) (fu_at (by omega) fu_s)) rfl (fin_l (by decide)) rfl dL_law_761 ?_
  refine lv_iload S.1 S.2.1 dL_law_762 (lv_at hl 0 rfl) ?_
  refine lv_i2l (v := 1) S.1 S.2.1 dL_law_764 (by decide) ?_
  refine gx_lcmpEq S rfl dL_law_765 ?_
  refine lv_if_eq (tgt := 771) S.1 S.2.1 dL_law_766 (by decide) (fun _ => ?_) (fun c => absurd (by decide) c)
  refine lv_goto (tgt := 2650) S.1 S.2.1 dL_law_771 (by decide) ?_
  refine lv_iinc (v := 5) (lv' := [(5, .int 5), (7, .int 1), (6, .int 0), (0, .ref b), (1, .ref N0), (2, .ref (N0 + 164)), (3, .ref (N0 + 229)), (4, .ref (N0 + 230))]) S.1 S.2.1 dL_law_2650 hl (k := 7) rfl (by decide) (by decide) rfl (fun ls hl => ?_)
  refine lv_goto (tgt := 28) S.1 S.2.1 dL_law_2653 (by decide) ?_
  refine lv_iload S.1 S.2.1 dL_law_28 (lv_at hl 0 rfl) ?_
  refine lv_aload_n S.1 S.2.1 dL_law_30 rfl (lv_at hl 3 rfl) ?_
  refine gx_slen (v := 5) S hG hX hbl rfl dL_law_31 ?_
  refine lv_iconst (v := 5) S.1 S.2.1 dL_law_32 (by decide) ?_
  refine lv_isub S.1 S.2.1 dL_law_33 ?_
  refine fx_topi (y := 0) (by decide) ?_
  refine lv_icmp_gt (tgt := 2656) S.1 S.2.1 dL_law_34 (by decide) (fun _ => ?_) (fun c => absurd (by decide) c)
  refine lv_iconst (v := 1) S.1 S.2.1 dL_law_2656 (by decide) ?_
  refine va_forget (fun q hq => by rw [hN]; exact hG.2.1.2.2 q hq) ?_
  refine W.widen (k := 600002) (n := 7302232) (by decide) (by decide) ?_
  exact lw_ret (d0 := s.drawn) (Drawn.sameBut.refl _ _) S.1 S.2.1 hr hlocks dL_law_2657
theorem l8_14 {p : Program} {e : Env} {s : State} {m : MethodId} {below : List Frame} {meth : Method} {c : Code} {b : Nat} {xs : Nat → Int32} {H : Heap} {locs : List Loc} {ls : Array Slot} {n : Nat} {a3 c3 a4 : Int32} (hc3 : (a3.toUInt32 % 65536).toInt32 = c3) (g_c3_ge_123 : 123 ≤ c3) (S : CallFix p m c cL_law 9 s #[.ref b] wsL_law "TreeDifferLaw") (hr : meth.sig.returnType = ret) (hlocks : meth.locks = false) (hst : l.stackTraces = false) (hX : va_X b 5 xs s s.heap) (hbl : b < s.heap.size ∧ b < N0) (hN : s.heap.size = N0) (hn : N0 + 231 ≤ n) (hx1 : xs 1 = 2) (hx2 : xs 2 = 0) (hx3 : xs 3 = a3) (hx4 : xs 4 = a4) (h0 : F N0 = some (.inr (9, [.ref (N0 + 1), .ref (N0 + 2), .ref (N0 + 11), .ref (N0 + 13), .ref (N0 + 63), .ref (N0 + 65), .ref (N0 + 85), .int (-1), .int (-1), .int 32]))) (h1 : F (N0 + 1) = some (.inl (cTr, 3, .inr (.inr (.inr (.inr (va_up (va_up (va_up (fun _ => none) 0 (some (N0 + 143))) 1 (some (N0 + 150))) 2 (some (N0 + 157))))))))) (h2 : F (N0 + 157) = some (.inr (7, [.ref (N0 + 158), .ref (N0 + 159), .ref (N0 + 160), .ref (N0 + 161), .ref (N0 + 162), .ref (N0 + 163), .int 1]))) (h3 : F (N0 + 164) = some (.inr (12, [.ref (N0 + 165), .int 0, .ref (N0 + 181), .int 0, .int 0, .int 0, .int (-1), .ref (ql 24), .ref (N0 + 182), .ref (N0 + 187), .ref (N0 + 208), .ref (N0 + 209), .ref (N0 + 210), .ref (N0 + 211), .ref (N0 + 212), .int 0, .ref (N0 + 213), .ref (N0 + 218), .ref (N0 + 223), .ref (N0 + 224), .ref (N0 + 225), .ref (N0 + 226), .ref (N0 + 227), .int 0, .int 0, .ref (N0 + 228), .null, .int (-1), .int 0, .int 0, .int 0]))) (h4 : F (N0 + 165) = some (.inl (cTm, 3, .inr (.inr (.inr (.inr (va_up (va_up (va_up (fun _ => none) 0 (some (N0 + 166))) 1 (some (N0 + 171))) 2 (some (N0 + 176))))))))) (h5 : F (N0 + 176) = some (.inr (11, [.ref (N0 + 177), .ref (N0 + 178), .ref (N0 + 179), .ref (N0 + 180), .int 1]))) (hG : fG N0 D vwCl (fty cI cC cL cD cII cTr cTm cIt cB) (fen ql) s F n H locs) (hl : lv_has ls 9 [(0, .ref b), (1, .ref N0), (2, .ref (N0 + 164)), (3, .ref (N0 + 229)), (4, .ref (N0 + 230)), (5, .int 0)]) : W p l e { frames := 2048, cells := 600002, slots := 7302232, locals := 84000 } s m #[.ref b] below meth c H locs 231 4980 (lw_Z below #[.ref b] s) (F0 m 692 ls []) := by
  have lt_h0 := hG.1.lt h0
  have lt_h1 := hG.1.lt h1
  have lt_h2 := hG.1.lt h2
  have lt_h3 := hG.1.lt h3
  have lt_h4 := hG.1.lt h4
  have lt_h5 := hG.1.lt h5
  refine lv_aload_n S.1 S.2.1 dL_law_692 rfl (lv_at hl 1 rfl) ?_
  refine lv_aload_n S.1 S.2.1 dL_law_693 rfl (lv_at hl 0 rfl) ?_
  refine lv_iload S.1 S.2.1 dL_law_694 (lv_at hl 5 rfl) ?_
  refine lv_iconst (v := 1) S.1 S.2.1 dL_law_696 (by decide) ?_
  refine lv_iadd S.1 S.2.1 dL_law_697 ?_
  refine fx_topi (y := 1) (by decide) ?_
  refine gx_sld (v := 2) S hG hX hbl (fin_l (by decide)) hx1 dL_law_698 ?_
  refine lv_aload_n S.1 S.2.1 dL_law_699 rfl (lv_at hl 0 rfl) ?_
  refine lv_iload S.1 S.2.1 dL_law_700 (lv_at hl 5 rfl) ?_
  refine lv_iconst (v := 2) S.1 S.2.1 dL_law_702 (by decide) ?_
  refine lv_iadd S.1 S.2.1 dL_law_703 ?_
  refine fx_topi (y := 2) (by decide) ?_
  refine gx_sld (v := 0) S hG hX hbl (fin_l (by decide)) hx2 dL_law_704 ?_
  refine lv_aload_n S.1 S.2.1 dL_law_705 rfl (lv_at hl 0 rfl) ?_
  refine lv_iload S.1 S.2.1 dL_law_706 (lv_at hl 5 rfl) ?_
  refine lv_iconst (v := 3) S.1 S.2.1 dL_law_708 (by decide) ?_
  refine lv_iadd S.1 S.2.1 dL_law_709 ?_
  refine fx_topi (y := 3) (by decide) ?_
  refine gx_sld (v := a3) S hG hX hbl (fin_l (by decide)) hx3 dL_law_710 ?_
  refine lv_i2c (v := c3) S.1 S.2.1 dL_law_711 hc3 ?_
  refine lv_aload_n S.1 S.2.1 dL_law_712 rfl (lv_at hl 3 rfl) ?_
  refine fx_cTi (As := [.ref N0, .int 2, .int 0, .int c3, .ref (N0 + 229)]) (rest := []) S hG (k322_L_setLabel g_c3_ge_123 hst (by omega) h0 h1 h2) (vx_cwSW 5 S.2.2.2.2 gL_law_L_setLabel rfl rfl rfl (by decide +kernel) ⟨Nat.le_of_ble_eq_true rfl, Nat.le_of_ble_eq_true rfl⟩) rfl hl.1 rfl (Nat.le_of_ble_eq_true rfl) dL_law_713 ⟨Nat.le_of_ble_eq_true rfl, Nat.le_of_ble_eq_true rfl⟩ (fun rv_u_1 u_1 H locs hp hG => ?_)
  obtain ⟨rfl, hu_1⟩ := hp
  refine W.widen (k := 232) (n := 4986) (by decide) (by decide) ?_
  refine lv_istore (lv' := [(6, .int 2), (0, .ref b), (1, .ref N0), (2, .ref (N0 + 164)), (3, .ref (N0 + 229)), (4, .ref (N0 + 230)), (5, .int 0)]) S.1 S.2.1 dL_law_716 hl (by decide) rfl (fun ls hl => ?_)
  refine lv_aload_n S.1 S.2.1 dL_law_718 rfl (lv_at hl 3 rfl) ?_
  refine lv_aload_n S.1 S.2.1 dL_law_719 rfl (lv_at hl 1 rfl) ?_
  refine lv_iload S.1 S.2.1 dL_law_720 (lv_at hl 6 rfl) ?_
  refine lv_iconst (v := 1) S.1 S.2.1 dL_law_722 (by decide) ?_
  refine lv_iadd S.1 S.2.1 dL_law_723 ?_
  refine fx_topi (y := 1) (by decide) ?_
  refine gx_sld (v := 2) S hG hX hbl (fin_l (by decide)) hx1 dL_law_724 ?_
  refine lv_aload_n S.1 S.2.1 dL_law_725 rfl (lv_at hl 1 rfl) ?_
  refine lv_iload S.1 S.2.1 dL_law_726 (lv_at hl 6 rfl) ?_
  refine lv_iconst (v := 2) S.1 S.2.1 dL_law_728 (by decide) ?_
  refine lv_iadd S.1 S.2.1 dL_law_729 ?_
  refine fx_topi (y := 2) (by decide) ?_
  refine gx_sld (v := 0) S hG hX hbl (fin_l (by decide)) hx2 dL_law_730 ?_
  refine lv_aload_n S.1 S.2.1 dL_law_731 rfl (lv_at hl 1 rfl) ?_
  refine lv_iload S.1 S.2.1 dL_law_732 (lv_at hl 6 rfl) ?_
  refine lv_iconst (v := 3) S.1 S.2.1 dL_law_734 (by decide) ?_
  refine lv_iadd S.1 S.2.1 dL_law_735 ?_
  refine fx_topi (y := 3) (by decide) ?_
  refine gx_sld (v := a3) S hG hX hbl (fin_l (by decide)) hx3 dL_law_736 ?_
  refine lv_i2c (v := c3) S.1 S.2.1 dL_law_737 hc3 ?_
  refine fx_cVi (As := [.int 2, .int 0, .int c3]) (rest := []) S hG (k323_X10_setLabel g_c3_ge_123 (by omega) h3 h4 h5) h3 rfl (cwV 3 S.2.2.2.2 gL_law_X10_setLabel rfl rfl rfl (by decide +kernel) ⟨Nat.le_of_ble_eq_true rfl, Nat.le_of_ble_eq_true rfl⟩) rfl hl.1 rfl (Nat.le_of_ble_eq_true rfl) dL_law_738 ⟨Nat.le_of_ble_eq_true rfl, Nat.le_of_ble_eq_true rfl⟩ (fun rv_2 _ H locs hp hG => ?_)
  subst rv_2
  refine lv_istore (lv' := [(7, .int 0), (6, .int 2), (0, .ref b), (1, .ref N0), (2, .ref (N0 + 164)), (3, .ref (N0 + 229)), (4, .ref (N0 + 230)), (5, .int 0)]) S.1 S.2.1 dL_law_741 hl (by decide) rfl (fun ls hl => ?_)
  refine lv_aload_n S.1 S.2.1 dL_law_743 rfl (lv_at hl 4 rfl) ?_
  refine fx_cVi (As := []) (rest := []) S hG (k101_X10_thrown (by omega) fu_s) fu_s rfl (cwV 0 S.2.2.2.2 gL_law_X10_thrown rfl rfl rfl (by decide +kernel) ⟨Nat.le_of_ble_eq_true rfl, Nat.le_of_ble_eq_true rfl⟩) rfl hl.1 rfl (Nat.le_of_ble_eq_true rfl) dL_law_744 ⟨Nat.le_of_ble_eq_true rfl, Nat.le_of_ble_eq_true rfl⟩ (fun rv_3 _ H locs hp hG => ?_)
  subst rv_3
  refine lv_iload S.1 S.2.1 dL_law_747 (lv_at hl 1 rfl) ?_
  refine lv_icmp_eq (tgt := 754) S.1 S.2.1 dL_law_749 (by decide) (fun _ => ?_) (fun c => absurd (by decide) c)
  refine lv_iload S.1 S.2.1 dL_law_754 (lv_at hl 1 rfl) ?_
  refine lv_if_ne (tgt := 771) S.1 S.2.1 dL_law_756 (by decide) (fun _ => ?_) (fun c => absurd c (by decide))
  refine lv_goto (tgt := 2650) S.1 S.2.1 dL_law_771 (by decide) ?_
  refine lv_iinc (v := 5) (lv' := [(5, .int 5), (7, .int 0), (6, .int 2), (0, .ref b), (1, .ref N0), (2, .ref (N0 + 164)), (3, .ref (N0 + 229)), (4, .ref (N0 + 230))]) S.1 S.2.1 dL_law_2650 hl (k := 7) rfl (by decide) (by decide) rfl (fun ls hl => ?_)
  refine lv_goto (tgt := 28) S.1 S.2.1 dL_law_2653 (by decide) ?_
  refine lv_iload S.1 S.2.1 dL_law_28 (lv_at hl 0 rfl) ?_
  refine lv_aload_n S.1 S.2.1 dL_law_30 rfl (lv_at hl 3 rfl) ?_
  refine gx_slen (v := 5) S hG hX hbl rfl dL_law_31 ?_
  refine lv_iconst (v := 5) S.1 S.2.1 dL_law_32 (by decide) ?_
  refine lv_isub S.1 S.2.1 dL_law_33 ?_
  refine fx_topi (y := 0) (by decide) ?_
  refine lv_icmp_gt (tgt := 2656) S.1 S.2.1 dL_law_34 (by decide) (fun _ => ?_) (fun c => absurd (by decide) c)
  refine lv_iconst (v := 1) S.1 S.2.1 dL_law_2656 (by decide) ?_
  refine va_forget (fun q hq => by rw [hN]; exact hG.2.1.2.2 q hq) ?_
  refine W.widen (k := 600002) (n := 7302232) (by decide) (by decide) ?_
  exact lw_ret (d0 := s.drawn) (Drawn.sameBut.refl _ _) S.1 S.2.1 hr hlocks dL_law_2657
theorem l8_15 {p : Program} {e : Env} {s : State} {m : MethodId} {below : List Frame} {meth : Method} {c : Code} {b : Nat} {xs : Nat → Int32} {H : Heap} {locs : List Loc} {ls : Array Slot} {n : Nat} {a2 a3 c3 a4 : Int32} (hc3 : (a3.toUInt32 % 65536).toInt32 = c3) (g_a2_ge_1 : 1 ≤ a2) (S : CallFix p m c cL_law 9 s #[.ref b] wsL_law "TreeDifferLaw") (hr : meth.sig.returnType = ret) (hlocks : meth.locks = false) (hst : l.stackTraces = false) (hX : va_X b 5 xs s s.heap) (hbl : b < s.heap.size ∧ b < N0) (hN : s.heap.size = N0) (hn : N0 + 231 ≤ n) (hx1 : xs 1 = 2) (hx2 : xs 2 = a2) (hx3 : xs 3 = a3) (hx4 : xs 4 = a4) (h0 : F N0 = some (.inr (9, [.ref (N0 + 1), .ref (N0 + 2), .ref (N0 + 11), .ref (N0 + 13), .ref (N0 + 63), .ref (N0 + 65), .ref (N0 + 85), .int (-1), .int (-1), .int 32]))) (h1 : F (N0 + 1) = some (.inl (cTr, 3, .inr (.inr (.inr (.inr (va_up (va_up (va_up (fun _ => none) 0 (some (N0 + 143))) 1 (some (N0 + 150))) 2 (some (N0 + 157))))))))) (h2 : F (N0 + 157) = some (.inr (7, [.ref (N0 + 158), .ref (N0 + 159), .ref (N0 + 160), .ref (N0 + 161), .ref (N0 + 162), .ref (N0 + 163), .int 1]))) (h3 : F (N0 + 164) = some (.inr (12, [.ref (N0 + 165), .int 0, .ref (N0 + 181), .int 0, .int 0, .int 0, .int (-1), .ref (ql 24), .ref (N0 + 182), .ref (N0 + 187), .ref (N0 + 208), .ref (N0 + 209), .ref (N0 + 210), .ref (N0 + 211), .ref (N0 + 212), .int 0, .ref (N0 + 213), .ref (N0 + 218), .ref (N0 + 223), .ref (N0 + 224), .ref (N0 + 225), .ref (N0 + 226), .ref (N0 + 227), .int 0, .int 0, .ref (N0 + 228), .null, .int (-1), .int 0, .int 0, .int 0]))) (h4 : F (N0 + 165) = some (.inl (cTm, 3, .inr (.inr (.inr (.inr (va_up (va_up (va_up (fun _ => none) 0 (some (N0 + 166))) 1 (some (N0 + 171))) 2 (some (N0 + 176))))))))) (h5 : F (N0 + 176) = some (.inr (11, [.ref (N0 + 177), .ref (N0 + 178), .ref (N0 + 179), .ref (N0 + 180), .int 1]))) (hG : fG N0 D vwCl (fty cI cC cL cD cII cTr cTm cIt cB) (fen ql) s F n H locs) (hl : lv_has ls 9 [(0, .ref b), (1, .ref N0), (2, .ref (N0 + 164)), (3, .ref (N0 + 229)), (4, .ref (N0 + 230)), (5, .int 0)]) : W p l e { frames := 2048, cells := 600002, slots := 7302232, locals := 84000 } s m #[.ref b] below meth c H locs 231 4980 (lw_Z below #[.ref b] s) (F0 m 692 ls []) := by
  have lt_h0 := hG.1.lt h0
  have lt_h1 := hG.1.lt h1
  have lt_h2 := hG.1.lt h2
  have lt_h3 := hG.1.lt h3
  have lt_h4 := hG.1.lt h4
  have lt_h5 := hG.1.lt h5
  refine lv_aload_n S.1 S.2.1 dL_law_692 rfl (lv_at hl 1 rfl) ?_
  refine lv_aload_n S.1 S.2.1 dL_law_693 rfl (lv_at hl 0 rfl) ?_
  refine lv_iload S.1 S.2.1 dL_law_694 (lv_at hl 5 rfl) ?_
  refine lv_iconst (v := 1) S.1 S.2.1 dL_law_696 (by decide) ?_
  refine lv_iadd S.1 S.2.1 dL_law_697 ?_
  refine fx_topi (y := 1) (by decide) ?_
  refine gx_sld (v := 2) S hG hX hbl (fin_l (by decide)) hx1 dL_law_698 ?_
  refine lv_aload_n S.1 S.2.1 dL_law_699 rfl (lv_at hl 0 rfl) ?_
  refine lv_iload S.1 S.2.1 dL_law_700 (lv_at hl 5 rfl) ?_
  refine lv_iconst (v := 2) S.1 S.2.1 dL_law_702 (by decide) ?_
  refine lv_iadd S.1 S.2.1 dL_law_703 ?_
  refine fx_topi (y := 2) (by decide) ?_
  refine gx_sld (v := a2) S hG hX hbl (fin_l (by decide)) hx2 dL_law_704 ?_
  refine lv_aload_n S.1 S.2.1 dL_law_705 rfl (lv_at hl 0 rfl) ?_
  refine lv_iload S.1 S.2.1 dL_law_706 (lv_at hl 5 rfl) ?_
  refine lv_iconst (v := 3) S.1 S.2.1 dL_law_708 (by decide) ?_
  refine lv_iadd S.1 S.2.1 dL_law_709 ?_
  refine fx_topi (y := 3) (by decide) ?_
  refine gx_sld (v := a3) S hG hX hbl (fin_l (by decide)) hx3 dL_law_710 ?_
  refine lv_i2c (v := c3) S.1 S.2.1 dL_law_711 hc3 ?_
  refine lv_aload_n S.1 S.2.1 dL_law_712 rfl (lv_at hl 3 rfl) ?_
  refine fx_cTi (As := [.ref N0, .int 2, .int a2, .int c3, .ref (N0 + 229)]) (rest := []) S hG (k325_L_setLabel g_a2_ge_1 hst (by omega) h0 h1 h2) (vx_cwSW 5 S.2.2.2.2 gL_law_L_setLabel rfl rfl rfl (by decide +kernel) ⟨Nat.le_of_ble_eq_true rfl, Nat.le_of_ble_eq_true rfl⟩) rfl hl.1 rfl (Nat.le_of_ble_eq_true rfl) dL_law_713 ⟨Nat.le_of_ble_eq_true rfl, Nat.le_of_ble_eq_true rfl⟩ (fun rv_u_1 u_1 H locs hp hG => ?_)
  obtain ⟨rfl, hu_1⟩ := hp
  refine W.widen (k := 232) (n := 4986) (by decide) (by decide) ?_
  refine lv_istore (lv' := [(6, .int 1), (0, .ref b), (1, .ref N0), (2, .ref (N0 + 164)), (3, .ref (N0 + 229)), (4, .ref (N0 + 230)), (5, .int 0)]) S.1 S.2.1 dL_law_716 hl (by decide) rfl (fun ls hl => ?_)
  refine lv_aload_n S.1 S.2.1 dL_law_718 rfl (lv_at hl 3 rfl) ?_
  refine lv_aload_n S.1 S.2.1 dL_law_719 rfl (lv_at hl 1 rfl) ?_
  refine lv_iload S.1 S.2.1 dL_law_720 (lv_at hl 6 rfl) ?_
  refine lv_iconst (v := 1) S.1 S.2.1 dL_law_722 (by decide) ?_
  refine lv_iadd S.1 S.2.1 dL_law_723 ?_
  refine fx_topi (y := 1) (by decide) ?_
  refine gx_sld (v := 2) S hG hX hbl (fin_l (by decide)) hx1 dL_law_724 ?_
  refine lv_aload_n S.1 S.2.1 dL_law_725 rfl (lv_at hl 1 rfl) ?_
  refine lv_iload S.1 S.2.1 dL_law_726 (lv_at hl 6 rfl) ?_
  refine lv_iconst (v := 2) S.1 S.2.1 dL_law_728 (by decide) ?_
  refine lv_iadd S.1 S.2.1 dL_law_729 ?_
  refine fx_topi (y := 2) (by decide) ?_
  refine gx_sld (v := a2) S hG hX hbl (fin_l (by decide)) hx2 dL_law_730 ?_
  refine lv_aload_n S.1 S.2.1 dL_law_731 rfl (lv_at hl 1 rfl) ?_
  refine lv_iload S.1 S.2.1 dL_law_732 (lv_at hl 6 rfl) ?_
  refine lv_iconst (v := 3) S.1 S.2.1 dL_law_734 (by decide) ?_
  refine lv_iadd S.1 S.2.1 dL_law_735 ?_
  refine fx_topi (y := 3) (by decide) ?_
  refine gx_sld (v := a3) S hG hX hbl (fin_l (by decide)) hx3 dL_law_736 ?_
  refine lv_i2c (v := c3) S.1 S.2.1 dL_law_737 hc3 ?_
  refine fx_cVi (As := [.int 2, .int a2, .int c3]) (rest := []) S hG (k326_X10_setLabel g_a2_ge_1 (by omega) h3 h4 h5) h3 rfl (cwV 3 S.2.2.2.2 gL_law_X10_setLabel rfl rfl rfl (by decide +kernel) ⟨Nat.le_of_ble_eq_true rfl, Nat.le_of_ble_eq_true rfl⟩) rfl hl.1 rfl (Nat.le_of_ble_eq_true rfl) dL_law_738 ⟨Nat.le_of_ble_eq_true rfl, Nat.le_of_ble_eq_true rfl⟩ (fun rv_2 _ H locs hp hG => ?_)
  subst rv_2
  refine lv_istore (lv' := [(7, .int 0), (6, .int 1), (0, .ref b), (1, .ref N0), (2, .ref (N0 + 164)), (3, .ref (N0 + 229)), (4, .ref (N0 + 230)), (5, .int 0)]) S.1 S.2.1 dL_law_741 hl (by decide) rfl (fun ls hl => ?_)
  refine lv_aload_n S.1 S.2.1 dL_law_743 rfl (lv_at hl 4 rfl) ?_
  refine fx_cVi (As := []) (rest := []) S hG (k25_X10_thrown (by omega) fu_s) fu_s rfl (cwV 0 S.2.2.2.2 gL_law_X10_thrown rfl rfl rfl (by decide +kernel) ⟨Nat.le_of_ble_eq_true rfl, Nat.le_of_ble_eq_true rfl⟩) rfl hl.1 rfl (Nat.le_of_ble_eq_true rfl) dL_law_744 ⟨Nat.le_of_ble_eq_true rfl, Nat.le_of_ble_eq_true rfl⟩ (fun rv_3 _ H locs hp hG => ?_)
  subst rv_3
  refine lv_iload S.1 S.2.1 dL_law_747 (lv_at hl 1 rfl) ?_
  refine lv_icmp_eq (tgt := 754) S.1 S.2.1 dL_law_749 (by decide) (fun _ => ?_) (fun c => absurd (by decide) c)
  refine lv_iload S.1 S.2.1 dL_law_754 (lv_at hl 1 rfl) ?_
  refine lv_if_ne (tgt := 771) S.1 S.2.1 dL_law_756 (by decide) (fun _ => ?_) (fun c => absurd c (by decide))
  refine lv_goto (tgt := 2650) S.1 S.2.1 dL_law_771 (by decide) ?_
  refine lv_iinc (v := 5) (lv' := [(5, .int 5), (7, .int 0), (6, .int 1), (0, .ref b), (1, .ref N0), (2, .ref (N0 + 164)), (3, .ref (N0 + 229)), (4, .ref (N0 + 230))]) S.1 S.2.1 dL_law_2650 hl (k := 7) rfl (by decide) (by decide) rfl (fun ls hl => ?_)
  refine lv_goto (tgt := 28) S.1 S.2.1 dL_law_2653 (by decide) ?_
  refine lv_iload S.1 S.2.1 dL_law_28 (lv_at hl 0 rfl) ?_
  refine lv_aload_n S.1 S.2.1 dL_law_30 rfl (lv_at hl 3 rfl) ?_
  refine gx_slen (v := 5) S hG hX hbl rfl dL_law_31 ?_
  refine lv_iconst (v := 5) S.1 S.2.1 dL_law_32 (by decide) ?_
  refine lv_isub S.1 S.2.1 dL_law_33 ?_
  refine fx_topi (y := 0) (by decide) ?_
  refine lv_icmp_gt (tgt := 2656) S.1 S.2.1 dL_law_34 (by decide) (fun _ => ?_) (fun c => absurd (by decide) c)
  refine lv_iconst (v := 1) S.1 S.2.1 dL_law_2656 (by decide) ?_
  refine va_forget (fun q hq => by rw [hN]; exact hG.2.1.2.2 q hq) ?_
  refine W.widen (k := 600002) (n := 7302232) (by decide) (by decide) ?_
  exact lw_ret (d0 := s.drawn) (Drawn.sameBut.refl _ _) S.1 S.2.1 hr hlocks dL_law_2657
theorem l8_16 {p : Program} {e : Env} {s : State} {m : MethodId} {below : List Frame} {meth : Method} {c : Code} {b : Nat} {xs : Nat → Int32} {H : Heap} {locs : List Loc} {ls : Array Slot} {n : Nat} {a1 a2 a3 c3 a4 : Int32} (hc3 : (a3.toUInt32 % 65536).toInt32 = c3) (g_a1_ge_3 : 3 ≤ a1) (S : CallFix p m c cL_law 9 s #[.ref b] wsL_law "TreeDifferLaw") (hr : meth.sig.returnType = ret) (hlocks : meth.locks = false) (hst : l.stackTraces = false) (hX : va_X b 5 xs s s.heap) (hbl : b < s.heap.size ∧ b < N0) (hN : s.heap.size = N0) (hn : N0 + 231 ≤ n) (hx1 : xs 1 = a1) (hx2 : xs 2 = a2) (hx3 : xs 3 = a3) (hx4 : xs 4 = a4) (h0 : F N0 = some (.inr (9, [.ref (N0 + 1), .ref (N0 + 2), .ref (N0 + 11), .ref (N0 + 13), .ref (N0 + 63), .ref (N0 + 65), .ref (N0 + 85), .int (-1), .int (-1), .int 32]))) (h1 : F (N0 + 164) = some (.inr (12, [.ref (N0 + 165), .int 0, .ref (N0 + 181), .int 0, .int 0, .int 0, .int (-1), .ref (ql 24), .ref (N0 + 182), .ref (N0 + 187), .ref (N0 + 208), .ref (N0 + 209), .ref (N0 + 210), .ref (N0 + 211), .ref (N0 + 212), .int 0, .ref (N0 + 213), .ref (N0 + 218), .ref (N0 + 223), .ref (N0 + 224), .ref (N0 + 225), .ref (N0 + 226), .ref (N0 + 227), .int 0, .int 0, .ref (N0 + 228), .null, .int (-1), .int 0, .int 0, .int 0]))) (hG : fG N0 D vwCl (fty cI cC cL cD cII cTr cTm cIt cB) (fen ql) s F n H locs) (hl : lv_has ls 9 [(0, .ref b), (1, .ref N0), (2, .ref (N0 + 164)), (3, .ref (N0 + 229)), (4, .ref (N0 + 230)), (5, .int 0)]) : W p l e { frames := 2048, cells := 600002, slots := 7302232, locals := 84000 } s m #[.ref b] below meth c H locs 231 4980 (lw_Z below #[.ref b] s) (F0 m 692 ls []) := by
  have lt_h0 := hG.1.lt h0
  have lt_h1 := hG.1.lt h1
  refine lv_aload_n S.1 S.2.1 dL_law_692 rfl (lv_at hl 1 rfl) ?_
  refine lv_aload_n S.1 S.2.1 dL_law_693 rfl (lv_at hl 0 rfl) ?_
  refine lv_iload S.1 S.2.1 dL_law_694 (lv_at hl 5 rfl) ?_
  refine lv_iconst (v := 1) S.1 S.2.1 dL_law_696 (by decide) ?_
  refine lv_iadd S.1 S.2.1 dL_law_697 ?_
  refine fx_topi (y := 1) (by decide) ?_
  refine gx_sld (v := a1) S hG hX hbl (fin_l (by decide)) hx1 dL_law_698 ?_
  refine lv_aload_n S.1 S.2.1 dL_law_699 rfl (lv_at hl 0 rfl) ?_
  refine lv_iload S.1 S.2.1 dL_law_700 (lv_at hl 5 rfl) ?_
  refine lv_iconst (v := 2) S.1 S.2.1 dL_law_702 (by decide) ?_
  refine lv_iadd S.1 S.2.1 dL_law_703 ?_
  refine fx_topi (y := 2) (by decide) ?_
  refine gx_sld (v := a2) S hG hX hbl (fin_l (by decide)) hx2 dL_law_704 ?_
  refine lv_aload_n S.1 S.2.1 dL_law_705 rfl (lv_at hl 0 rfl) ?_
  refine lv_iload S.1 S.2.1 dL_law_706 (lv_at hl 5 rfl) ?_
  refine lv_iconst (v := 3) S.1 S.2.1 dL_law_708 (by decide) ?_
  refine lv_iadd S.1 S.2.1 dL_law_709 ?_
  refine fx_topi (y := 3) (by decide) ?_
  refine gx_sld (v := a3) S hG hX hbl (fin_l (by decide)) hx3 dL_law_710 ?_
  refine lv_i2c (v := c3) S.1 S.2.1 dL_law_711 hc3 ?_
  refine lv_aload_n S.1 S.2.1 dL_law_712 rfl (lv_at hl 3 rfl) ?_
  refine fx_cTi (As := [.ref N0, .int a1, .int a2, .int c3, .ref (N0 + 229)]) (rest := []) S hG (k328_L_setLabel g_a1_ge_3 hst (by omega) h0) (vx_cwSW 5 S.2.2.2.2 gL_law_L_setLabel rfl rfl rfl (by decide +kernel) ⟨Nat.le_of_ble_eq_true rfl, Nat.le_of_ble_eq_true rfl⟩) rfl hl.1 rfl (Nat.le_of_ble_eq_true rfl) dL_law_713 ⟨Nat.le_of_ble_eq_true rfl, Nat.le_of_ble_eq_true rfl⟩ (fun rv_u_1 u_1 H locs hp hG => ?_)
  obtain ⟨rfl, hu_1⟩ := hp
  refine W.widen (k := 232) (n := 4986) (by decide) (by decide) ?_
  refine lv_istore (lv' := [(6, .int 1), (0, .ref b), (1, .ref N0), (2, .ref (N0 + 164)), (3, .ref (N0 + 229)), (4, .ref (N0 + 230)), (5, .int 0)]) S.1 S.2.1 dL_law_716 hl (by decide) rfl (fun ls hl => ?_)
  refine lv_aload_n S.1 S.2.1 dL_law_718 rfl (lv_at hl 3 rfl) ?_
  refine lv_aload_n S.1 S.2.1 dL_law_719 rfl (lv_at hl 1 rfl) ?_
  refine lv_iload S.1 S.2.1 dL_law_720 (lv_at hl 6 rfl) ?_
  refine lv_iconst (v := 1) S.1 S.2.1 dL_law_722 (by decide) ?_
  refine lv_iadd S.1 S.2.1 dL_law_723 ?_
  refine fx_topi (y := 1) (by decide) ?_
  refine gx_sld (v := a1) S hG hX hbl (fin_l (by decide)) hx1 dL_law_724 ?_
  refine lv_aload_n S.1 S.2.1 dL_law_725 rfl (lv_at hl 1 rfl) ?_
  refine lv_iload S.1 S.2.1 dL_law_726 (lv_at hl 6 rfl) ?_
  refine lv_iconst (v := 2) S.1 S.2.1 dL_law_728 (by decide) ?_
  refine lv_iadd S.1 S.2.1 dL_law_729 ?_
  refine fx_topi (y := 2) (by decide) ?_
  refine gx_sld (v := a2) S hG hX hbl (fin_l (by decide)) hx2 dL_law_730 ?_
  refine lv_aload_n S.1 S.2.1 dL_law_731 rfl (lv_at hl 1 rfl) ?_
  refine lv_iload S.1 S.2.1 dL_law_732 (lv_at hl 6 rfl) ?_
  refine lv_iconst (v := 3) S.1 S.2.1 dL_law_734 (by decide) ?_
  refine lv_iadd S.1 S.2.1 dL_law_735 ?_
  refine fx_topi (y := 3) (by decide) ?_
  refine gx_sld (v := a3) S hG hX hbl (fin_l (by decide)) hx3 dL_law_736 ?_
  refine lv_i2c (v := c3) S.1 S.2.1 dL_law_737 hc3 ?_
  refine fx_cVi (As := [.int a1, .int a2, .int c3]) (rest := []) S hG (k329_X10_setLabel g_a1_ge_3 (by omega) h1) h1 rfl (cwV 3 S.2.2.2.2 gL_law_X10_setLabel rfl rfl rfl (by decide +kernel) ⟨Nat.le_of_ble_eq_true rfl, Nat.le_of_ble_eq_true rfl⟩) rfl hl.1 rfl (Nat.le_of_ble_eq_true rfl) dL_law_738 ⟨Nat.le_of_ble_eq_true rfl, Nat.le_of_ble_eq_true rfl⟩ (fun rv_2 _ H locs hp hG => ?_)
  subst rv_2
  refine lv_istore (lv' := [(7, .int 0), (6, .int 1), (0, .ref b), (1, .ref N0), (2, .ref (N0 + 164)), (3, .ref (N0 + 229)), (4, .ref (N0 + 230)), (5, .int 0)]) S.1 S.2.1 dL_law_741 hl (by decide) rfl (fun ls hl => ?_)
  refine lv_aload_n S.1 S.2.1 dL_law_743 rfl (lv_at hl 4 rfl) ?_
  refine fx_cVi (As := []) (rest := []) S hG (k25_X10_thrown (by omega) fu_s) fu_s rfl (cwV 0 S.2.2.2.2 gL_law_X10_thrown rfl rfl rfl (by decide +kernel) ⟨Nat.le_of_ble_eq_true rfl, Nat.le_of_ble_eq_true rfl⟩) rfl hl.1 rfl (Nat.le_of_ble_eq_true rfl) dL_law_744 ⟨Nat.le_of_ble_eq_true rfl, Nat.le_of_ble_eq_true rfl⟩ (fun rv_3 _ H locs hp hG => ?_)
  subst rv_3
  refine lv_iload S.1 S.2.1 dL_law_747 (lv_at hl 1 rfl) ?_
  refine lv_icmp_eq (tgt := 754) S.1 S.2.1 dL_law_749 (by decide) (fun _ => ?_) (fun c => absurd (by decide) c)
  refine lv_iload S.1 S.2.1 dL_law_754 (lv_at hl 1 rfl) ?_
  refine lv_if_ne (tgt := 771) S.1 S.2.1 dL_law_756 (by decide) (fun _ => ?_) (fun c => absurd c (by decide))
  refine lv_goto (tgt := 2650) S.1 S.2.1 dL_law_771 (by decide) ?_
  refine lv_iinc (v := 5) (lv' := [(5, .int 5), (7, .int 0), (6, .int 1), (0, .ref b), (1, .ref N0), (2, .ref (N0 + 164)), (3, .ref (N0 + 229)), (4, .ref (N0 + 230))]) S.1 S.2.1 dL_law_2650 hl (k := 7) rfl (by decide) (by decide) rfl (fun ls hl => ?_)
  refine lv_goto (tgt := 28) S.1 S.2.1 dL_law_2653 (by decide) ?_
  refine lv_iload S.1 S.2.1 dL_law_28 (lv_at hl 0 rfl) ?_
  refine lv_aload_n S.1 S.2.1 dL_law_30 rfl (lv_at hl 3 rfl) ?_
  refine gx_slen (v := 5) S hG hX hbl rfl dL_law_31 ?_
  refine lv_iconst (v := 5) S.1 S.2.1 dL_law_32 (by decide) ?_
  refine lv_isub S.1 S.2.1 dL_law_33 ?_
  refine fx_topi (y := 0) (by decide) ?_
  refine lv_icmp_gt (tgt := 2656) S.1 S.2.1 dL_law_34 (by decide) (fun _ => ?_) (fun c => absurd (by decide) c)
  refine lv_iconst (v := 1) S.1 S.2.1 dL_law_2656 (by decide) ?_
  refine va_forget (fun q hq => by rw [hN]; exact hG.2.1.2.2 q hq) ?_
  refine W.widen (k := 600002) (n := 7302232) (by decide) (by decide) ?_
  exact lw_ret (d0 := s.drawn) (Drawn.sameBut.refl _ _) S.1 S.2.1 hr hlocks dL_law_2657
theorem case_8 {p : Program} {e : Env} {s : State} {m : MethodId} {below : List Frame} {meth : Method} {c : Code} {b : Nat} {xs : Nat → Int32} {H : Heap} {locs : List Loc} {ls : Array Slot} {n : Nat} {a1 a2 a3 a4 : Int32} (S : CallFix p m c cL_law 9 s #[.ref b] wsL_law "TreeDifferLaw") (hr : meth.sig.returnType = ret) (hlocks : meth.locks = false) (hst : l.stackTraces = false) (hX : va_X b 5 xs s s.heap) (hbl : b < s.heap.size ∧ b < N0) (hN : s.heap.size = N0) (hn : N0 + 231 ≤ n) (hx1 : xs 1 = a1) (hx2 : xs 2 = a2) (hx3 : xs 3 = a3) (hx4 : xs 4 = a4) (hL : ∀ (i : Nat) (q : Nat × va_E), (lneed N0 cI cC cL cD cII cTr cTm cIt cB ql)[i]? = some q → F (N0 + q.1) = some q.2) (hG : fG N0 D vwCl (fty cI cC cL cD cII cTr cTm cIt cB) (fen ql) s F n H locs) (hl : lv_has ls 9 [(0, .ref b), (1, .ref N0), (2, .ref (N0 + 164)), (3, .ref (N0 + 229)), (4, .ref (N0 + 230)), (5, .int 0)]) : W p l e { frames := 2048, cells := 600002, slots := 7302232, locals := 84000 } s m #[.ref b] below meth c H locs 231 4980 (lw_Z below #[.ref b] s) (F0 m 692 ls []) := by
  have hn1 := pk_nc a1
  have hf1 := pk_fc a1
  have hv1 := pk_vc a1
  obtain ⟨g_c1_ge_0, g_c1_le_65535⟩ := fl_c0 a1
  generalize hc1 : (a1.toUInt32 % 65536).toInt32 = c1 at *
  have hn2 := pk_nc a2
  have hf2 := pk_fc a2
  have hv2 := pk_vc a2
  obtain ⟨g_c2_ge_0, g_c2_le_65535⟩ := fl_c0 a2
  generalize hc2 : (a2.toUInt32 % 65536).toInt32 = c2 at *
  have hn3 := pk_nc a3
  have hf3 := pk_fc a3
  have hv3 := pk_vc a3
  obtain ⟨g_c3_ge_0, g_c3_le_65535⟩ := fl_c0 a3
  generalize hc3 : (a3.toUInt32 % 65536).toInt32 = c3 at *
  have hn4 := pk_nc a4
  have hf4 := pk_fc a4
  have hv4 := pk_vc a4
  obtain ⟨g_c4_ge_0, g_c4_le_65535⟩ := fl_c0 a4
  generalize hc4 : (a4.toUInt32 % 65536).toInt32 = c4 at *
  rcases fl_cut a1 0 (-1) (by decide) with g_a1_le_m1 | g_a1_ge_0
  · skip
    exact l8_0 hc3 g_a1_le_m1 S hr hlocks hst hX hbl hN hn hx1 hx2 hx3 hx4 (hL 0 _ rfl) (hL 4 _ rfl) hG hl
  · skip
    rcases fl_cut a1 3 2 (by decide) with g_a1_le_2 | g_a1_ge_3
    · skip
      rcases fl_cut a1 1 0 (by decide) with g_a1_le_0 | g_a1_ge_1
      · skip
        obtain rfl : a1 = 0 := Int32.le_antisymm g_a1_le_0 g_a1_ge_0
        rcases fl_cut a2 0 (-1) (by decide) with g_a2_le_m1 | g_a2_ge_0
        · skip
          exact l8_1 hc3 g_a2_le_m1 S hr hlocks hst hX hbl hN hn hx1 hx2 hx3 hx4 (hL 0 _ rfl) (hL 6 _ rfl) (hL 10 _ rfl) (hL 4 _ rfl) (hL 11 _ rfl) (hL 12 _ rfl) hG hl
        · skip
          rcases fl_cut a2 1 0 (by decide) with g_a2_le_0 | g_a2_ge_1
          · skip
            obtain rfl : a2 = 0 := Int32.le_antisymm g_a2_le_0 g_a2_ge_0
            rcases fl_cut c3 97 96 (by decide) with g_c3_le_96 | g_c3_ge_97
            · skip
              exact l8_2 hc3 g_c3_le_96 S hr hlocks hst hX hbl hN hn hx1 hx2 hx3 hx4 (hL 0 _ rfl) (hL 6 _ rfl) (hL 10 _ rfl) (hL 4 _ rfl) (hL 11 _ rfl) (hL 12 _ rfl) hG hl
            · skip
              rcases fl_cut c3 123 122 (by decide) with g_c3_le_122 | g_c3_ge_123
              · skip
                exact l8_3 hc3 g_c3_ge_97 g_c3_le_122 hv3 S hr hlocks hst hX hbl hN hn hx1 hx2 hx3 hx4 (hL 0 _ rfl) (hL 6 _ rfl) (hL 10 _ rfl) (hL 13 _ rfl) (hL 3 _ rfl) (hL 4 _ rfl) (hL 11 _ rfl) (hL 12 _ rfl) (hL 18 _ rfl) hG hl
              · skip
                exact l8_4 hc3 g_c3_ge_123 S hr hlocks hst hX hbl hN hn hx1 hx2 hx3 hx4 (hL 0 _ rfl) (hL 6 _ rfl) (hL 10 _ rfl) (hL 4 _ rfl) (hL 11 _ rfl) (hL 12 _ rfl) hG hl
          · skip
            exact l8_5 hc3 g_a2_ge_1 S hr hlocks hst hX hbl hN hn hx1 hx2 hx3 hx4 (hL 0 _ rfl) (hL 6 _ rfl) (hL 10 _ rfl) (hL 4 _ rfl) (hL 11 _ rfl) (hL 12 _ rfl) hG hl
      · skip
        rcases fl_cut a1 2 1 (by decide) with g_a1_le_1 | g_a1_ge_2
        · skip
          obtain rfl : a1 = 1 := Int32.le_antisymm g_a1_le_1 g_a1_ge_1
          rcases fl_cut a2 0 (-1) (by decide) with g_a2_le_m1 | g_a2_ge_0
          · skip
            exact l8_6 hc3 g_a2_le_m1 S hr hlocks hst hX hbl hN hn hx1 hx2 hx3 hx4 (hL 0 _ rfl) (hL 6 _ rfl) (hL 22 _ rfl) (hL 4 _ rfl) (hL 11 _ rfl) (hL 23 _ rfl) hG hl
          · skip
            rcases fl_cut a2 1 0 (by decide) with g_a2_le_0 | g_a2_ge_1
            · skip
              obtain rfl : a2 = 0 := Int32.le_antisymm g_a2_le_0 g_a2_ge_0
              rcases fl_cut c3 97 96 (by decide) with g_c3_le_96 | g_c3_ge_97
              · skip
                exact l8_7 hc3 g_c3_le_96 S hr hlocks hst hX hbl hN hn hx1 hx2 hx3 hx4 (hL 0 _ rfl) (hL 6 _ rfl) (hL 22 _ rfl) (hL 4 _ rfl) (hL 11 _ rfl) (hL 23 _ rfl) hG hl
              · skip
                rcases fl_cut c3 123 122 (by decide) with g_c3_le_122 | g_c3_ge_123
                · skip
                  exact l8_8 hc3 g_c3_ge_97 g_c3_le_122 hv3 S hr hlocks hst hX hbl hN hn hx1 hx2 hx3 hx4 (hL 0 _ rfl) (hL 6 _ rfl) (hL 22 _ rfl) (hL 24 _ rfl) (hL 3 _ rfl) (hL 4 _ rfl) (hL 11 _ rfl) (hL 23 _ rfl) (hL 29 _ rfl) hG hl
                · skip
                  exact l8_9 hc3 g_c3_ge_123 S hr hlocks hst hX hbl hN hn hx1 hx2 hx3 hx4 (hL 0 _ rfl) (hL 6 _ rfl) (hL 22 _ rfl) (hL 4 _ rfl) (hL 11 _ rfl) (hL 23 _ rfl) hG hl
            · skip
              exact l8_10 hc3 g_a2_ge_1 S hr hlocks hst hX hbl hN hn hx1 hx2 hx3 hx4 (hL 0 _ rfl) (hL 6 _ rfl) (hL 22 _ rfl) (hL 4 _ rfl) (hL 11 _ rfl) (hL 23 _ rfl) hG hl
        · skip
          obtain rfl : a1 = 2 := Int32.le_antisymm g_a1_le_2 g_a1_ge_2
          rcases fl_cut a2 0 (-1) (by decide) with g_a2_le_m1 | g_a2_ge_0
          · skip
            exact l8_11 hc3 g_a2_le_m1 S hr hlocks hst hX hbl hN hn hx1 hx2 hx3 hx4 (hL 0 _ rfl) (hL 6 _ rfl) (hL 33 _ rfl) (hL 4 _ rfl) (hL 11 _ rfl) (hL 34 _ rfl) hG hl
          · skip
            rcases fl_cut a2 1 0 (by decide) with g_a2_le_0 | g_a2_ge_1
            · skip
              obtain rfl : a2 = 0 := Int32.le_antisymm g_a2_le_0 g_a2_ge_0
              rcases fl_cut c3 97 96 (by decide) with g_c3_le_96 | g_c3_ge_97
              · skip
                exact l8_12 hc3 g_c3_le_96 S hr hlocks hst hX hbl hN hn hx1 hx2 hx3 hx4 (hL 0 _ rfl) (hL 6 _ rfl) (hL 33 _ rfl) (hL 4 _ rfl) (hL 11 _ rfl) (hL 34 _ rfl) hG hl
              · skip
                rcases fl_cut c3 123 122 (by decide) with g_c3_le_122 | g_c3_ge_123
                · skip
                  exact l8_13 hc3 g_c3_ge_97 g_c3_le_122 hv3 S hr hlocks hst hX hbl hN hn hx1 hx2 hx3 hx4 (hL 0 _ rfl) (hL 6 _ rfl) (hL 33 _ rfl) (hL 35 _ rfl) (hL 3 _ rfl) (hL 4 _ rfl) (hL 11 _ rfl) (hL 34 _ rfl) (hL 40 _ rfl) hG hl
                · skip
                  exact l8_14 hc3 g_c3_ge_123 S hr hlocks hst hX hbl hN hn hx1 hx2 hx3 hx4 (hL 0 _ rfl) (hL 6 _ rfl) (hL 33 _ rfl) (hL 4 _ rfl) (hL 11 _ rfl) (hL 34 _ rfl) hG hl
            · skip
              exact l8_15 hc3 g_a2_ge_1 S hr hlocks hst hX hbl hN hn hx1 hx2 hx3 hx4 (hL 0 _ rfl) (hL 6 _ rfl) (hL 33 _ rfl) (hL 4 _ rfl) (hL 11 _ rfl) (hL 34 _ rfl) hG hl
    · skip
      exact l8_16 hc3 g_a1_ge_3 S hr hlocks hst hX hbl hN hn hx1 hx2 hx3 hx4 (hL 0 _ rfl) (hL 4 _ rfl) hG hl
