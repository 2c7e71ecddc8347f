theorem dX10_init_34 : decode cX10_init 34 = .ok (.dup, 1) := by decide +kernel
theorem dX10_init_35 : decode cX10_init 35 = .ok (.invokespecial 26, 3) := by decide +kernel
theorem dX10_init_38 : decode cX10_init 38 = .ok (.aastore, 1) := by decide +kernel
theorem dX10_init_39 : decode cX10_init 39 = .ok (.putfield 27, 3) := by decide +kernel
theorem dX10_init_42 : decode cX10_init 42 = .ok (.aload_n 0, 1) := by decide +kernel
theorem dX10_init_43 : decode cX10_init 43 = .ok (.bipush 80, 2) := by decide +kernel
theorem dX10_init_45 : decode cX10_init 45 = .ok (.newarray .char, 2) := by decide +kernel
theorem dX10_init_47 : decode cX10_init 47 = .ok (.putfield 33, 3) := by decide +kernel
theorem dX10_init_50 : decode cX10_init 50 = .ok (.aload_n 0, 1) := by decide +kernel
theorem dX10_init_51 : decode cX10_init 51 = .ok (.iconst (-1), 1) := by decide +kernel
theorem dX10_init_52 : decode cX10_init 52 = .ok (.putfield 37, 3) := by decide +kernel
theorem dX10_init_55 : decode cX10_init 55 = .ok (.aload_n 0, 1) := by decide +kernel
theorem dX10_init_56 : decode cX10_init 56 = .ok (.ldc 41, 2) := by decide +kernel
theorem dX10_init_58 : decode cX10_init 58 = .ok (.putfield 43, 3) := by decide +kernel
theorem dX10_init_61 : decode cX10_init 61 = .ok (.aload_n 0, 1) := by decide +kernel
theorem dX10_init_62 : decode cX10_init 62 = .ok (.new 2, 3) := by decide +kernel
theorem dX10_init_65 : decode cX10_init 65 = .ok (.dup, 1) := by decide +kernel
theorem dX10_init_66 : decode cX10_init 66 = .ok (.invokespecial 26, 3) := by decide +kernel
theorem dX10_init_69 : decode cX10_init 69 = .ok (.putfield 47, 3) := by decide +kernel
theorem dX10_init_72 : decode cX10_init 72 = .ok (.aload_n 0, 1) := by decide +kernel
theorem dX10_init_73 : decode cX10_init 73 = .ok (.bipush 20, 2) := by decide +kernel
theorem dX10_init_75 : decode cX10_init 75 = .ok (.bipush 20, 2) := by decide +kernel
theorem dX10_init_77 : decode cX10_init 77 = .ok (.multianewarray 51 2, 4) := by decide +kernel
theorem dX10_init_81 : decode cX10_init 81 = .ok (.putfield 53, 3) := by decide +kernel
theorem dX10_init_84 : decode cX10_init 84 = .ok (.aload_n 0, 1) := by decide +kernel
theorem dX10_init_85 : decode cX10_init 85 = .ok (.bipush 80, 2) := by decide +kernel
theorem dX10_init_87 : decode cX10_init 87 = .ok (.newarray .char, 2) := by decide +kernel
theorem dX10_init_89 : decode cX10_init 89 = .ok (.putfield 56, 3) := by decide +kernel
theorem dX10_init_92 : decode cX10_init 92 = .ok (.aload_n 0, 1) := by decide +kernel
theorem dX10_init_93 : decode cX10_init 93 = .ok (.bipush 80, 2) := by decide +kernel
theorem dX10_init_95 : decode cX10_init 95 = .ok (.newarray .int, 2) := by decide +kernel
theorem dX10_init_97 : decode cX10_init 97 = .ok (.putfield 59, 3) := by decide +kernel
theorem dX10_init_100 : decode cX10_init 100 = .ok (.aload_n 0, 1) := by decide +kernel
theorem dX10_init_101 : decode cX10_init 101 = .ok (.bipush 80, 2) := by decide +kernel
theorem dX10_init_103 : decode cX10_init 103 = .ok (.newarray .int, 2) := by decide +kernel
theorem dX10_init_105 : decode cX10_init 105 = .ok (.putfield 62, 3) := by decide +kernel
theorem dX10_init_108 : decode cX10_init 108 = .ok (.aload_n 0, 1) := by decide +kernel
theorem dX10_init_109 : decode cX10_init 109 = .ok (.bipush 20, 2) := by decide +kernel
theorem dX10_init_111 : decode cX10_init 111 = .ok (.newarray .int, 2) := by decide +kernel
theorem dX10_init_113 : decode cX10_init 113 = .ok (.putfield 65, 3) := by decide +kernel
theorem dX10_init_116 : decode cX10_init 116 = .ok (.aload_n 0, 1) := by decide +kernel
theorem dX10_init_117 : decode cX10_init 117 = .ok (.bipush 20, 2) := by decide +kernel
theorem dX10_init_119 : decode cX10_init 119 = .ok (.newarray .int, 2) := by decide +kernel
theorem dX10_init_121 : decode cX10_init 121 = .ok (.putfield 68, 3) := by decide +kernel
theorem dX10_init_124 : decode cX10_init 124 = .ok (.aload_n 0, 1) := by decide +kernel
theorem dX10_init_125 : decode cX10_init 125 = .ok (.new 2, 3) := by decide +kernel
theorem dX10_init_128 : decode cX10_init 128 = .ok (.dup, 1) := by decide +kernel
theorem dX10_init_129 : decode cX10_init 129 = .ok (.invokespecial 26, 3) := by decide +kernel
theorem dX10_init_132 : decode cX10_init 132 = .ok (.putfield 71, 3) := by decide +kernel
theorem dX10_init_135 : decode cX10_init 135 = .ok (.aload_n 0, 1) := by decide +kernel
theorem dX10_init_136 : decode cX10_init 136 = .ok (.new 2, 3) := by decide +kernel
theorem dX10_init_139 : decode cX10_init 139 = .ok (.dup, 1) := by decide +kernel
theorem dX10_init_140 : decode cX10_init 140 = .ok (.invokespecial 26, 3) := by decide +kernel
theorem dX10_init_143 : decode cX10_init 143 = .ok (.putfield 74, 3) := by decide +kernel
theorem dX10_init_146 : decode cX10_init 146 = .ok (.aload_n 0, 1) := by decide +kernel
theorem dX10_init_147 : decode cX10_init 147 = .ok (.bipush 80, 2) := by decide +kernel
theorem dX10_init_149 : decode cX10_init 149 = .ok (.newarray .char, 2) := by decide +kernel
theorem dX10_init_151 : decode cX10_init 151 = .ok (.putfield 77, 3) := by decide +kernel
theorem dX10_init_154 : decode cX10_init 154 = .ok (.aload_n 0, 1) := by decide +kernel
theorem dX10_init_155 : decode cX10_init 155 = .ok (.bipush 80, 2) := by decide +kernel
theorem dX10_init_157 : decode cX10_init 157 = .ok (.newarray .int, 2) := by decide +kernel
theorem dX10_init_159 : decode cX10_init 159 = .ok (.putfield 80, 3) := by decide +kernel
theorem dX10_init_162 : decode cX10_init 162 = .ok (.aload_n 0, 1) := by decide +kernel
theorem dX10_init_163 : decode cX10_init 163 = .ok (.bipush 80, 2) := by decide +kernel
theorem dX10_init_165 : decode cX10_init 165 = .ok (.newarray .int, 2) := by decide +kernel
theorem dX10_init_167 : decode cX10_init 167 = .ok (.putfield 83, 3) := by decide +kernel
theorem dX10_init_170 : decode cX10_init 170 = .ok (.aload_n 0, 1) := by decide +kernel
theorem dX10_init_171 : decode cX10_init 171 = .ok (.bipush 20, 2) := by decide +kernel
theorem dX10_init_173 : decode cX10_init 173 = .ok (.newarray .int, 2) := by decide +kernel
theorem dX10_init_175 : decode cX10_init 175 = .ok (.putfield 86, 3) := by decide +kernel
theorem dX10_init_178 : decode cX10_init 178 = .ok (.aload_n 0, 1) := by decide +kernel
theorem dX10_init_179 : decode cX10_init 179 = .ok (.bipush 20, 2) := by decide +kernel
theorem dX10_init_181 : decode cX10_init 181 = .ok (.newarray .int, 2) := by decide +kernel
theorem dX10_init_183 : decode cX10_init 183 = .ok (.putfield 89, 3) := by decide +kernel
theorem dX10_init_186 : decode cX10_init 186 = .ok (.aload_n 0, 1) := by decide +kernel
theorem dX10_init_187 : decode cX10_init 187 = .ok (.bipush 20, 2) := by decide +kernel
theorem dX10_init_189 : decode cX10_init 189 = .ok (.anewarray 92, 3) := by decide +kernel
theorem dX10_init_192 : decode cX10_init 192 = .ok (.putfield 94, 3) := by decide +kernel
theorem dX10_init_195 : decode cX10_init 195 = .ok (.aload_n 0, 1) := by decide +kernel
theorem dX10_init_196 : decode cX10_init 196 = .ok (.iconst (-1), 1) := by decide +kernel
theorem dX10_init_197 : decode cX10_init 197 = .ok (.putfield 98, 3) := by decide +kernel
theorem dX10_init_200 : decode cX10_init 200 = .ok (.aload_n 0, 1) := by decide +kernel
theorem dX10_init_201 : decode cX10_init 201 = .ok (.getfield 27, 3) := by decide +kernel
theorem dX10_init_204 : decode cX10_init 204 = .ok (.astore_n 1, 1) := by decide +kernel
theorem dX10_init_205 : decode cX10_init 205 = .ok (.aload_n 1, 1) := by decide +kernel
theorem dX10_init_206 : decode cX10_init 206 = .ok (.arraylength, 1) := by decide +kernel
theorem dX10_init_207 : decode cX10_init 207 = .ok (.istore_n 2, 1) := by decide +kernel
theorem dX10_init_208 : decode cX10_init 208 = .ok (.iconst 0, 1) := by decide +kernel
theorem dX10_init_209 : decode cX10_init 209 = .ok (.istore_n 3, 1) := by decide +kernel
theorem dX10_init_210 : decode cX10_init 210 = .ok (.iload_n 3, 1) := by decide +kernel
theorem dX10_init_211 : decode cX10_init 211 = .ok (.iload_n 2, 1) := by decide +kernel
theorem dX10_init_212 : decode cX10_init 212 = .ok (.if_icmp .ge 24, 3) := by decide +kernel
theorem dX10_init_215 : decode cX10_init 215 = .ok (.aload_n 1, 1) := by decide +kernel
theorem dX10_init_216 : decode cX10_init 216 = .ok (.iload_n 3, 1) := by decide +kernel
theorem dX10_init_217 : decode cX10_init 217 = .ok (.aaload, 1) := by decide +kernel
theorem dX10_init_218 : decode cX10_init 218 = .ok (.astore 4, 2) := by decide +kernel
theorem dX10_init_220 : decode cX10_init 220 = .ok (.aload 4, 2) := by decide +kernel
theorem dX10_init_222 : decode cX10_init 222 = .ok (.bipush 97, 2) := by decide +kernel
theorem dX10_init_224 : decode cX10_init 224 = .ok (.iconst 0, 1) := by decide +kernel
theorem dX10_init_225 : decode cX10_init 225 = .ok (.iconst 0, 1) := by decide +kernel
theorem dX10_init_226 : decode cX10_init 226 = .ok (.iconst (-1), 1) := by decide +kernel
theorem dX10_init_227 : decode cX10_init 227 = .ok (.invokevirtual 101, 3) := by decide +kernel
theorem dX10_init_230 : decode cX10_init 230 = .ok (.iinc 3 1, 3) := by decide +kernel
theorem dX10_init_233 : decode cX10_init 233 = .ok (.goto (-23), 3) := by decide +kernel
theorem dX10_init_236 : decode cX10_init 236 = .ok (.return_, 1) := by decide +kernel
theorem dX10_thrown_0 : decode cX10_thrown 0 = .ok (.aload_n 0, 1) := by decide +kernel
theorem dX10_thrown_1 : decode cX10_thrown 1 = .ok (.getfield 105, 3) := by decide +kernel
theorem dX10_thrown_4 : decode cX10_thrown 4 = .ok (.ireturn, 1) := by decide +kernel
theorem dX10_fails_0 : decode cX10_fails 0 = .ok (.aload_n 0, 1) := by decide +kernel
theorem dX10_fails_1 : decode cX10_fails 1 = .ok (.iload_n 1, 1) := by decide +kernel
theorem dX10_fails_2 : decode cX10_fails 2 = .ok (.putfield 105, 3) := by decide +kernel
theorem dX10_fails_5 : decode cX10_fails 5 = .ok (.iconst 0, 1) := by decide +kernel
theorem dX10_fails_6 : decode cX10_fails 6 = .ok (.ireturn, 1) := by decide +kernel
theorem dX10_isBetween_0 : decode cX10_isBetween 0 = .ok (.iload_n 1, 1) := by decide +kernel
theorem dX10_isBetween_1 : decode cX10_isBetween 1 = .ok (.iload_n 0, 1) := by decide +kernel
theorem dX10_isBetween_2 : decode cX10_isBetween 2 = .ok (.if_icmp .gt 12, 3) := by decide +kernel
theorem dX10_isBetween_5 : decode cX10_isBetween 5 = .ok (.iload_n 0, 1) := by decide +kernel
theorem dX10_isBetween_6 : decode cX10_isBetween 6 = .ok (.iload_n 2, 1) := by decide +kernel
theorem dX10_isBetween_7 : decode cX10_isBetween 7 = .ok (.if_icmp .gt 7, 3) := by decide +kernel
theorem dX10_isBetween_10 : decode cX10_isBetween 10 = .ok (.iconst 1, 1) := by decide +kernel
theorem dX10_isBetween_11 : decode cX10_isBetween 11 = .ok (.goto 4, 3) := by decide +kernel
theorem dX10_isBetween_14 : decode cX10_isBetween 14 = .ok (.iconst 0, 1) := by decide +kernel
theorem dX10_isBetween_15 : decode cX10_isBetween 15 = .ok (.ireturn, 1) := by decide +kernel
set_option maxRecDepth 20000 in
theorem ggX10_isTree_X10_isBetween : GoodIn wsX10_isTree wsX10_isBetween := goodIn_r _ [4] (by decide +kernel) (by decide +kernel)
set_option maxRecDepth 20000 in
theorem gX10_isTree_X10_isBetween : GoodIn wsX10_isTree (va_wsS RX10 108 yX10_isBetween wsX10_isBetween) := goodIn_app (goodIn_of _ (by decide +kernel)) ggX10_isTree_X10_isBetween
theorem dX10_isTree_0 : decode cX10_isTree 0 = .ok (.iload_n 0, 1) := by decide +kernel
theorem dX10_isTree_1 : decode cX10_isTree 1 = .ok (.iconst 0, 1) := by decide +kernel
theorem dX10_isTree_2 : decode cX10_isTree 2 = .ok (.iconst 2, 1) := by decide +kernel
theorem dX10_isTree_3 : decode cX10_isTree 3 = .ok (.invokestatic 108, 3) := by decide +kernel
theorem dX10_isTree_6 : decode cX10_isTree 6 = .ok (.ireturn, 1) := by decide +kernel
set_option maxRecDepth 20000 in
theorem ggX10_isNode_X10_isTree : GoodIn wsX10_isNode wsX10_isTree := goodIn_r _ [5, 6, 7, 4, 8] (by decide +kernel) (by decide +kernel)
set_option maxRecDepth 20000 in
theorem gX10_isNode_X10_isTree : GoodIn wsX10_isNode (va_wsS RX10 112 yX10_isTree wsX10_isTree) := goodIn_app (goodIn_of _ (by decide +kernel)) ggX10_isNode_X10_isTree
set_option maxRecDepth 20000 in
theorem ggX10_isNode_X10_isBetween : GoodIn wsX10_isNode wsX10_isBetween := goodIn_r _ [8] (by decide +kernel) (by decide +kernel)
set_option maxRecDepth 20000 in
theorem gX10_isNode_X10_isBetween : GoodIn wsX10_isNode (va_wsS RX10 108 yX10_isBetween wsX10_isBetween) := goodIn_app (goodIn_of _ (by decide +kernel)) ggX10_isNode_X10_isBetween
theorem dX10_isNode_0 : decode cX10_isNode 0 = .ok (.iload_n 1, 1) := by decide +kernel
theorem dX10_isNode_1 : decode cX10_isNode 1 = .ok (.invokestatic 112, 3) := by decide +kernel
theorem dX10_isNode_4 : decode cX10_isNode 4 = .ok (.ifCond .eq 26, 3) := by decide +kernel
theorem dX10_isNode_7 : decode cX10_isNode 7 = .ok (.iload_n 2, 1) := by decide +kernel
theorem dX10_isNode_8 : decode cX10_isNode 8 = .ok (.iconst 0, 1) := by decide +kernel
theorem dX10_isNode_9 : decode cX10_isNode 9 = .ok (.aload_n 0, 1) := by decide +kernel
theorem dX10_isNode_10 : decode cX10_isNode 10 = .ok (.getfield 27, 3) := by decide +kernel
theorem dX10_isNode_13 : decode cX10_isNode 13 = .ok (.iload_n 1, 1) := by decide +kernel
theorem dX10_isNode_14 : decode cX10_isNode 14 = .ok (.aaload, 1) := by decide +kernel
theorem dX10_isNode_15 : decode cX10_isNode 15 = .ok (.getfield 116, 3) := by decide +kernel
theorem dX10_isNode_18 : decode cX10_isNode 18 = .ok (.iconst 1, 1) := by decide +kernel
theorem dX10_isNode_19 : decode cX10_isNode 19 = .ok (.isub, 1) := by decide +kernel
theorem dX10_isNode_20 : decode cX10_isNode 20 = .ok (.invokestatic 108, 3) := by decide +kernel
theorem dX10_isNode_23 : decode cX10_isNode 23 = .ok (.ifCond .eq 7, 3) := by decide +kernel
theorem dX10_isNode_26 : decode cX10_isNode 26 = .ok (.iconst 1, 1) := by decide +kernel
theorem dX10_isNode_27 : decode cX10_isNode 27 = .ok (.goto 4, 3) := by decide +kernel
theorem dX10_isNode_30 : decode cX10_isNode 30 = .ok (.iconst 0, 1) := by decide +kernel
theorem dX10_isNode_31 : decode cX10_isNode 31 = .ok (.ireturn, 1) := by decide +kernel
set_option maxRecDepth 20000 in
theorem ggX10_isNowhere_X10_isNode : GoodIn wsX10_isNowhere wsX10_isNode := goodIn_r _ [6, 7, 8, 9, 5, 10, 11, 12, 13, 14, 15, 16, 17, 18, 19, 20, 21, 22, 23, 24, 25, 26, 27, 28, 29, 30, 31, 32, 33, 34, 35, 36, 37, 38, 39, 40, 41, 42, 43, 44, 45, 46, 47, 48, 49] (by decide +kernel) (by decide +kernel)
set_option maxRecDepth 20000 in
theorem gX10_isNowhere_X10_isNode : GoodIn wsX10_isNowhere (wsV RX10 119 RX10 yX10_isNode wsX10_isNode) := goodIn_app (goodIn_of _ (by decide +kernel)) ggX10_isNowhere_X10_isNode
theorem dX10_isNowhere_0 : decode cX10_isNowhere 0 = .ok (.aload_n 0, 1) := by decide +kernel
theorem dX10_isNowhere_1 : decode cX10_isNowhere 1 = .ok (.aload_n 0, 1) := by decide +kernel
theorem dX10_isNowhere_2 : decode cX10_isNowhere 2 = .ok (.iload_n 1, 1) := by decide +kernel
theorem dX10_isNowhere_3 : decode cX10_isNowhere 3 = .ok (.iload_n 2, 1) := by decide +kernel
theorem dX10_isNowhere_4 : decode cX10_isNowhere 4 = .ok (.invokevirtual 119, 3) := by decide +kernel
theorem dX10_isNowhere_7 : decode cX10_isNowhere 7 = .ok (.ifCond .eq 7, 3) := by decide +kernel
theorem dX10_isNowhere_10 : decode cX10_isNowhere 10 = .ok (.iconst 0, 1) := by decide +kernel
theorem dX10_isNowhere_11 : decode cX10_isNowhere 11 = .ok (.goto 4, 3) := by decide +kernel
theorem dX10_isNowhere_14 : decode cX10_isNowhere 14 = .ok (.iconst 1, 1) := by decide +kernel
theorem dX10_isNowhere_15 : decode cX10_isNowhere 15 = .ok (.putfield 105, 3) := by decide +kernel
theorem dX10_isNowhere_18 : decode cX10_isNowhere 18 = .ok (.aload_n 0, 1) := by decide +kernel
theorem dX10_isNowhere_19 : decode cX10_isNowhere 19 = .ok (.getfield 105, 3) := by decide +kernel
theorem dX10_isNowhere_22 : decode cX10_isNowhere 22 = .ok (.ifCond .le 7, 3) := by decide +kernel
theorem dX10_isNowhere_25 : decode cX10_isNowhere 25 = .ok (.iconst 1, 1) := by decide +kernel
theorem dX10_isNowhere_26 : decode cX10_isNowhere 26 = .ok (.goto 4, 3) := by decide +kernel
theorem dX10_isNowhere_29 : decode cX10_isNowhere 29 = .ok (.iconst 0, 1) := by decide +kernel
theorem dX10_isNowhere_30 : decode cX10_isNowhere 30 = .ok (.ireturn, 1) := by decide +kernel
set_option maxRecDepth 20000 in
theorem ggX10_type_X10_fails : GoodIn wsX10_type wsX10_fails := goodIn_r _ [8, 1, 9, 10, 11, 12, 13, 14, 15, 16, 17, 18, 19, 20, 21, 22, 23, 24, 25, 26, 27, 28, 29, 30, 31, 32, 33, 34, 35, 36, 37, 38, 39] (by decide +kernel) (by decide +kernel)
set_option maxRecDepth 20000 in
theorem gX10_type_X10_fails : GoodIn wsX10_type (wsV RX10 126 RX10 yX10_fails wsX10_fails) := goodIn_app (goodIn_of _ (by decide +kernel)) ggX10_type_X10_fails
theorem dX10_type_0 : decode cX10_type 0 = .ok (.aload_n 0, 1) := by decide +kernel
theorem dX10_type_1 : decode cX10_type 1 = .ok (.iconst 0, 1) := by decide +kernel
theorem dX10_type_2 : decode cX10_type 2 = .ok (.putfield 105, 3) := by decide +kernel
theorem dX10_type_5 : decode cX10_type 5 = .ok (.aload_n 0, 1) := by decide +kernel
theorem dX10_type_6 : decode cX10_type 6 = .ok (.getfield 123, 3) := by decide +kernel
theorem dX10_type_9 : decode cX10_type 9 = .ok (.bipush 80, 2) := by decide +kernel
theorem dX10_type_11 : decode cX10_type 11 = .ok (.if_icmp .ne 9, 3) := by decide +kernel
theorem dX10_type_14 : decode cX10_type 14 = .ok (.aload_n 0, 1) := by decide +kernel
theorem dX10_type_15 : decode cX10_type 15 = .ok (.iconst 1, 1) := by decide +kernel
theorem dX10_type_16 : decode cX10_type 16 = .ok (.invokevirtual 126, 3) := by decide +kernel
theorem dX10_type_19 : decode cX10_type 19 = .ok (.ireturn, 1) := by decide +kernel
theorem dX10_type_20 : decode cX10_type 20 = .ok (.aload_n 0, 1) := by decide +kernel
theorem dX10_type_21 : decode cX10_type 21 = .ok (.getfield 33, 3) := by decide +kernel
theorem dX10_type_24 : decode cX10_type 24 = .ok (.aload_n 0, 1) := by decide +kernel
theorem dX10_type_25 : decode cX10_type 25 = .ok (.getfield 123, 3) := by decide +kernel
theorem dX10_type_28 : decode cX10_type 28 = .ok (.iload_n 1, 1) := by decide +kernel
theorem dX10_type_29 : decode cX10_type 29 = .ok (.castore, 1) := by decide +kernel
theorem dX10_type_30 : decode cX10_type 30 = .ok (.aload_n 0, 1) := by decide +kernel
theorem dX10_type_31 : decode cX10_type 31 = .ok (.dup, 1) := by decide +kernel
theorem dX10_type_32 : decode cX10_type 32 = .ok (.getfield 123, 3) := by decide +kernel
theorem dX10_type_35 : decode cX10_type 35 = .ok (.iconst 1, 1) := by decide +kernel
theorem dX10_type_36 : decode cX10_type 36 = .ok (.iadd, 1) := by decide +kernel
theorem dX10_type_37 : decode cX10_type 37 = .ok (.putfield 123, 3) := by decide +kernel
theorem dX10_type_40 : decode cX10_type 40 = .ok (.aload_n 0, 1) := by decide +kernel
theorem dX10_type_41 : decode cX10_type 41 = .ok (.getfield 123, 3) := by decide +kernel
theorem dX10_type_44 : decode cX10_type 44 = .ok (.ireturn, 1) := by decide +kernel
theorem dX10_sign_0 : decode cX10_sign 0 = .ok (.aload_n 0, 1) := by decide +kernel
theorem dX10_sign_1 : decode cX10_sign 1 = .ok (.getfield 129, 3) := by decide +kernel
theorem dX10_sign_4 : decode cX10_sign 4 = .ok (.aload_n 0, 1) := by decide +kernel
theorem dX10_sign_5 : decode cX10_sign 5 = .ok (.getfield 123, 3) := by decide +kernel
theorem dX10_sign_8 : decode cX10_sign 8 = .ok (.if_icmp .ge 15, 3) := by decide +kernel
theorem dX10_sign_11 : decode cX10_sign 11 = .ok (.aload_n 0, 1) := by decide +kernel
theorem dX10_sign_12 : decode cX10_sign 12 = .ok (.getfield 33, 3) := by decide +kernel
theorem dX10_sign_15 : decode cX10_sign 15 = .ok (.aload_n 0, 1) := by decide +kernel
theorem dX10_sign_16 : decode cX10_sign 16 = .ok (.getfield 129, 3) := by decide +kernel
theorem dX10_sign_19 : decode cX10_sign 19 = .ok (.caload, 1) := by decide +kernel
theorem dX10_sign_20 : decode cX10_sign 20 = .ok (.goto 4, 3) := by decide +kernel
theorem dX10_sign_23 : decode cX10_sign 23 = .ok (.iconst 0, 1) := by decide +kernel
theorem dX10_sign_24 : decode cX10_sign 24 = .ok (.ireturn, 1) := by decide +kernel
theorem dX10_isFaulty_0 : decode cX10_isFaulty 0 = .ok (.aload_n 0, 1) := by decide +kernel
theorem dX10_isFaulty_1 : decode cX10_isFaulty 1 = .ok (.aload_n 0, 1) := by decide +kernel
theorem dX10_isFaulty_2 : decode cX10_isFaulty 2 = .ok (.getfield 132, 3) := by decide +kernel
theorem dX10_isFaulty_5 : decode cX10_isFaulty 5 = .ok (.ifCond .ge 10, 3) := by decide +kernel
theorem dX10_isFaulty_8 : decode cX10_isFaulty 8 = .ok (.aload_n 0, 1) := by decide +kernel
theorem dX10_isFaulty_9 : decode cX10_isFaulty 9 = .ok (.getfield 129, 3) := by decide +kernel
theorem dX10_isFaulty_12 : decode cX10_isFaulty 12 = .ok (.goto 7, 3) := by decide +kernel
theorem dX10_isFaulty_15 : decode cX10_isFaulty 15 = .ok (.aload_n 0, 1) := by decide +kernel
theorem dX10_isFaulty_16 : decode cX10_isFaulty 16 = .ok (.getfield 132, 3) := by decide +kernel
theorem dX10_isFaulty_19 : decode cX10_isFaulty 19 = .ok (.putfield 132, 3) := by decide +kernel
theorem dX10_isFaulty_22 : decode cX10_isFaulty 22 = .ok (.return_, 1) := by decide +kernel
set_option maxRecDepth 20000 in
theorem ggX10_takes_X10_sign : GoodIn wsX10_takes wsX10_sign := goodIn_r _ [8, 2, 3, 9, 10, 11, 12, 13, 14, 15, 16, 17, 18, 19, 20, 21, 22, 23, 24, 25, 26, 27, 28, 29, 30, 31, 32, 33, 34, 35, 36, 37, 38, 39, 40] (by decide +kernel) (by decide +kernel)
set_option maxRecDepth 20000 in
theorem gX10_takes_X10_sign : GoodIn wsX10_takes (wsV RX10 135 RX10 yX10_sign wsX10_sign) := goodIn_app (goodIn_of _ (by decide +kernel)) ggX10_takes_X10_sign
theorem dX10_takes_0 : decode cX10_takes 0 = .ok (.aload_n 0, 1) := by decide +kernel
theorem dX10_takes_1 : decode cX10_takes 1 = .ok (.getfield 132, 3) := by decide +kernel
theorem dX10_takes_4 : decode cX10_takes 4 = .ok (.ifCond .ge 30, 3) := by decide +kernel
theorem dX10_takes_7 : decode cX10_takes 7 = .ok (.aload_n 0, 1) := by decide +kernel
theorem dX10_takes_8 : decode cX10_takes 8 = .ok (.getfield 129, 3) := by decide +kernel
theorem dX10_takes_11 : decode cX10_takes 11 = .ok (.aload_n 0, 1) := by decide +kernel
theorem dX10_takes_12 : decode cX10_takes 12 = .ok (.getfield 123, 3) := by decide +kernel
theorem dX10_takes_15 : decode cX10_takes 15 = .ok (.if_icmp .eq 19, 3) := by decide +kernel
theorem dX10_takes_18 : decode cX10_takes 18 = .ok (.aload_n 0, 1) := by decide +kernel
theorem dX10_takes_19 : decode cX10_takes 19 = .ok (.invokevirtual 135, 3) := by decide +kernel
theorem dX10_takes_22 : decode cX10_takes 22 = .ok (.iload_n 1, 1) := by decide +kernel
theorem dX10_takes_23 : decode cX10_takes 23 = .ok (.if_icmp .lt 11, 3) := by decide +kernel
theorem dX10_takes_26 : decode cX10_takes 26 = .ok (.aload_n 0, 1) := by decide +kernel
theorem dX10_takes_27 : decode cX10_takes 27 = .ok (.invokevirtual 135, 3) := by decide +kernel
theorem dX10_takes_30 : decode cX10_takes 30 = .ok (.iload_n 2, 1) := by decide +kernel
theorem dX10_takes_31 : decode cX10_takes 31 = .ok (.if_icmp .le 5, 3) := by decide +kernel
theorem dX10_takes_34 : decode cX10_takes 34 = .ok (.iconst 0, 1) := by decide +kernel
theorem dX10_takes_35 : decode cX10_takes 35 = .ok (.ireturn, 1) := by decide +kernel
theorem dX10_takes_36 : decode cX10_takes 36 = .ok (.aload_n 0, 1) := by decide +kernel
theorem dX10_takes_37 : decode cX10_takes 37 = .ok (.dup, 1) := by decide +kernel
theorem dX10_takes_38 : decode cX10_takes 38 = .ok (.getfield 129, 3) := by decide +kernel
theorem dX10_takes_41 : decode cX10_takes 41 = .ok (.iconst 1, 1) := by decide +kernel
theorem dX10_takes_42 : decode cX10_takes 42 = .ok (.iadd, 1) := by decide +kernel
theorem dX10_takes_43 : decode cX10_takes 43 = .ok (.putfield 129, 3) := by decide +kernel
theorem dX10_takes_46 : decode cX10_takes 46 = .ok (.iconst 1, 1) := by decide +kernel
theorem dX10_takes_47 : decode cX10_takes 47 = .ok (.ireturn, 1) := by decide +kernel
set_option maxRecDepth 20000 in
theorem ggX10_wants_X10_isFaulty : GoodIn wsX10_wants wsX10_isFaulty := goodIn_r _ [5, 6, 7, 8, 9, 10, 11, 12, 13, 14, 15, 16, 17, 18, 19, 20, 21, 22, 23, 24, 25, 26, 27, 28, 29, 30, 31, 32, 33, 34, 35, 36, 37, 38] (by decide +kernel) (by decide +kernel)
set_option maxRecDepth 20000 in
theorem gX10_wants_X10_isFaulty : GoodIn wsX10_wants (wsV RX10 139 RX10 yX10_isFaulty wsX10_isFaulty) := goodIn_app (goodIn_of _ (by decide +kernel)) ggX10_wants_X10_isFaulty
theorem dX10_wants_0 : decode cX10_wants 0 = .ok (.iload_n 1, 1) := by decide +kernel
theorem dX10_wants_1 : decode cX10_wants 1 = .ok (.ifCond .ne 7, 3) := by decide +kernel
theorem dX10_wants_4 : decode cX10_wants 4 = .ok (.aload_n 0, 1) := by decide +kernel
theorem dX10_wants_5 : decode cX10_wants 5 = .ok (.invokevirtual 139, 3) := by decide +kernel
theorem dX10_wants_8 : decode cX10_wants 8 = .ok (.return_, 1) := by decide +kernel
set_option maxRecDepth 20000 in
theorem ggX10_readsNode_X10_sign : GoodIn wsX10_readsNode wsX10_sign := goodIn_r _ [7, 8, 9, 10, 45, 46, 47, 48, 49, 50, 51, 52, 53, 54, 55, 56, 57, 58, 59, 60, 61, 62, 63, 64, 65, 66, 67, 68, 69, 70, 71, 72, 73, 74, 75] (by decide +kernel) (by decide +kernel)
set_option maxRecDepth 20000 in
theorem gX10_readsNode_X10_sign : GoodIn wsX10_readsNode (wsV RX10 135 RX10 yX10_sign wsX10_sign) := goodIn_app (goodIn_of _ (by decide +kernel)) ggX10_readsNode_X10_sign
set_option maxRecDepth 20000 in
theorem ggX10_readsNode_X10_takes : GoodIn wsX10_readsNode wsX10_takes := goodIn_r _ [14, 1, 8, 9, 3, 4, 5, 6, 7, 10, 45, 46, 47, 48, 49, 50, 51, 52, 53, 54, 55, 56, 57, 58, 59, 60, 61, 62, 63, 64, 65, 66, 67, 68, 69, 70, 71, 72, 73, 74, 75] (by decide +kernel) (by decide +kernel)
set_option maxRecDepth 20000 in
theorem gX10_readsNode_X10_takes : GoodIn wsX10_readsNode (wsV RX10 142 RX10 yX10_takes wsX10_takes) := goodIn_app (goodIn_of _ (by decide +kernel)) ggX10_readsNode_X10_takes
set_option maxRecDepth 20000 in
theorem ggX10_readsNode_X10_isFaulty : GoodIn wsX10_readsNode wsX10_isFaulty := goodIn_r _ [18, 1, 8, 45, 46, 47, 48, 49, 50, 51, 52, 53, 54, 55, 56, 57, 58, 59, 60, 61, 62, 63, 64, 65, 66, 67, 68, 69, 70, 71, 72, 73, 74, 75] (by decide +kernel) (by decide +kernel)
set_option maxRecDepth 20000 in
theorem gX10_readsNode_X10_isFaulty : GoodIn wsX10_readsNode (wsV RX10 139 RX10 yX10_isFaulty wsX10_isFaulty) := goodIn_app (goodIn_of _ (by decide +kernel)) ggX10_readsNode_X10_isFaulty
set_option maxRecDepth 20000 in
theorem ggX10_readsNode_X9_adds : GoodIn wsX10_readsNode wsX9_adds := goodIn_r _ [22, 23, 24, 25, 26, 20, 27, 28, 29, 30, 31, 76, 77, 78, 79, 80] (by decide +kernel) (by decide +kernel)
set_option maxRecDepth 20000 in
theorem gX10_readsNode_X9_adds_n101 : GoodIn wsX10_readsNode (wsX9_adds) := ggX10_readsNode_X9_adds
set_option maxRecDepth 20000 in
theorem ggX10_readsNode_X9_isUsed : GoodIn wsX10_readsNode wsX9_isUsed := goodIn_r _ [34, 23, 31, 29, 76, 77, 78, 79, 80] (by decide +kernel) (by decide +kernel)
set_option maxRecDepth 20000 in
theorem gX10_readsNode_X9_isUsed_n146 : GoodIn wsX10_readsNode (wsX9_isUsed) := ggX10_readsNode_X9_isUsed
set_option maxRecDepth 20000 in
theorem ggX10_readsNode_X10_wants : GoodIn wsX10_readsNode wsX10_wants := goodIn_r _ [38, 15, 16, 17, 6, 18, 1, 8, 45, 46, 47, 48, 49, 50, 51, 52, 53, 54, 55, 56, 57, 58, 59, 60, 61, 62, 63, 64, 65, 66, 67, 68, 69, 70, 71, 72, 73, 74, 75] (by decide +kernel) (by decide +kernel)
set_option maxRecDepth 20000 in
theorem gX10_readsNode_X10_wants : GoodIn wsX10_readsNode (wsV RX10 149 RX10 yX10_wants wsX10_wants) := goodIn_app (goodIn_of _ (by decide +kernel)) ggX10_readsNode_X10_wants
set_option maxRecDepth 20000 in
theorem ggX10_readsNode_X10_readsNode : GoodIn wsX10_readsNode wsX10_readsNode := goodIn_r _ [0, 1, 2, 3, 4, 5, 6, 7, 8, 9, 10, 11, 12, 13, 14, 15, 16, 17, 18, 19, 20, 21, 22, 23, 24, 25, 26, 27, 28, 29, 30, 31, 32, 33, 34, 35, 36, 37, 38, 39, 40, 41, 42, 43, 44, 45, 46, 47, 48, 49, 50, 51, 52, 53, 54, 55, 56, 57, 58, 59, 60, 61, 62, 63, 64, 65, 66, 67, 68, 69, 70, 71, 72, 73, 74, 75, 76, 77, 78, 79, 80] (by decide +kernel) (by decide +kernel)
set_option maxRecDepth 20000 in
theorem gX10_readsNode_X10_readsNode : GoodIn wsX10_readsNode (wsV RX10 153 RX10 yX10_readsNode wsX10_readsNode) := goodIn_app (goodIn_of _ (by decide +kernel)) ggX10_readsNode_X10_readsNode
set_option maxRecDepth 20000 in
theorem ggX10_readsNode_X10_isBetween : GoodIn wsX10_readsNode wsX10_isBetween := goodIn_r _ [44] (by decide +kernel) (by decide +kernel)
set_option maxRecDepth 20000 in
theorem gX10_readsNode_X10_isBetween : GoodIn wsX10_readsNode (va_wsS RX10 108 yX10_isBetween wsX10_isBetween) := goodIn_app (goodIn_of _ (by decide +kernel)) ggX10_readsNode_X10_isBetween
theorem dX10_readsNode_0 : decode cX10_readsNode 0 = .ok (.aload_n 0, 1) := by decide +kernel
theorem dX10_readsNode_1 : decode cX10_readsNode 1 = .ok (.getfield 132, 3) := by decide +kernel
theorem dX10_readsNode_4 : decode cX10_readsNode 4 = .ok (.ifCond .lt 4, 3) := by decide +kernel
theorem dX10_readsNode_7 : decode cX10_readsNode 7 = .ok (.return_, 1) := by decide +kernel
theorem dX10_readsNode_8 : decode cX10_readsNode 8 = .ok (.aload_n 0, 1) := by decide +kernel
theorem dX10_readsNode_9 : decode cX10_readsNode 9 = .ok (.invokevirtual 135, 3) := by decide +kernel
theorem dX10_readsNode_12 : decode cX10_readsNode 12 = .ok (.istore_n 2, 1) := by decide +kernel
theorem dX10_readsNode_13 : decode cX10_readsNode 13 = .ok (.aload_n 0, 1) := by decide +kernel
theorem dX10_readsNode_14 : decode cX10_readsNode 14 = .ok (.getfield 47, 3) := by decide +kernel
theorem dX10_readsNode_17 : decode cX10_readsNode 17 = .ok (.getfield 116, 3) := by decide +kernel
theorem dX10_readsNode_20 : decode cX10_readsNode 20 = .ok (.bipush 20, 2) := by decide +kernel
theorem dX10_readsNode_22 : decode cX10_readsNode 22 = .ok (.if_icmp .eq 14, 3) := by decide +kernel
theorem dX10_readsNode_25 : decode cX10_readsNode 25 = .ok (.aload_n 0, 1) := by decide +kernel
theorem dX10_readsNode_26 : decode cX10_readsNode 26 = .ok (.bipush 97, 2) := by decide +kernel
theorem dX10_readsNode_28 : decode cX10_readsNode 28 = .ok (.bipush 122, 2) := by decide +kernel
theorem dX10_readsNode_30 : decode cX10_readsNode 30 = .ok (.invokevirtual 142, 3) := by decide +kernel
theorem dX10_readsNode_33 : decode cX10_readsNode 33 = .ok (.ifCond .ne 8, 3) := by decide +kernel
theorem dX10_readsNode_36 : decode cX10_readsNode 36 = .ok (.aload_n 0, 1) := by decide +kernel
theorem dX10_readsNode_37 : decode cX10_readsNode 37 = .ok (.invokevirtual 139, 3) := by decide +kernel
theorem dX10_readsNode_40 : decode cX10_readsNode 40 = .ok (.return_, 1) := by decide +kernel
theorem dX10_readsNode_41 : decode cX10_readsNode 41 = .ok (.aload_n 0, 1) := by decide +kernel
theorem dX10_readsNode_42 : decode cX10_readsNode 42 = .ok (.getfield 47, 3) := by decide +kernel
theorem dX10_readsNode_45 : decode cX10_readsNode 45 = .ok (.getfield 116, 3) := by decide +kernel
theorem dX10_readsNode_48 : decode cX10_readsNode 48 = .ok (.istore_n 3, 1) := by decide +kernel
theorem dX10_readsNode_49 : decode cX10_readsNode 49 = .ok (.aload_n 0, 1) := by decide +kernel
theorem dX10_readsNode_50 : decode cX10_readsNode 50 = .ok (.getfield 47, 3) := by decide +kernel
theorem dX10_readsNode_53 : decode cX10_readsNode 53 = .ok (.iload_n 2, 1) := by decide +kernel
theorem dX10_readsNode_54 : decode cX10_readsNode 54 = .ok (.iconst 0, 1) := by decide +kernel
theorem dX10_readsNode_55 : decode cX10_readsNode 55 = .ok (.iconst 0, 1) := by decide +kernel
theorem dX10_readsNode_56 : decode cX10_readsNode 56 = .ok (.iload_n 1, 1) := by decide +kernel
theorem dX10_readsNode_57 : decode cX10_readsNode 57 = .ok (.invokevirtual 101, 3) := by decide +kernel
theorem dX10_readsNode_60 : decode cX10_readsNode 60 = .ok (.iload_n 1, 1) := by decide +kernel
theorem dX10_readsNode_61 : decode cX10_readsNode 61 = .ok (.iconst (-1), 1) := by decide +kernel
theorem dX10_readsNode_62 : decode cX10_readsNode 62 = .ok (.if_icmp .eq 80, 3) := by decide +kernel
theorem dX10_readsNode_65 : decode cX10_readsNode 65 = .ok (.aload_n 0, 1) := by decide +kernel
theorem dX10_readsNode_66 : decode cX10_readsNode 66 = .ok (.bipush 35, 2) := by decide +kernel
theorem dX10_readsNode_68 : decode cX10_readsNode 68 = .ok (.bipush 35, 2) := by decide +kernel
theorem dX10_readsNode_70 : decode cX10_readsNode 70 = .ok (.invokevirtual 142, 3) := by decide +kernel
theorem dX10_readsNode_73 : decode cX10_readsNode 73 = .ok (.ifCond .eq 69, 3) := by decide +kernel
theorem dX10_readsNode_76 : decode cX10_readsNode 76 = .ok (.aload_n 0, 1) := by decide +kernel
theorem dX10_readsNode_77 : decode cX10_readsNode 77 = .ok (.invokevirtual 135, 3) := by decide +kernel
theorem dX10_readsNode_80 : decode cX10_readsNode 80 = .ok (.bipush 48, 2) := by decide +kernel
theorem dX10_readsNode_82 : decode cX10_readsNode 82 = .ok (.isub, 1) := by decide +kernel
theorem dX10_readsNode_83 : decode cX10_readsNode 83 = .ok (.istore 4, 2) := by decide +kernel
theorem dX10_readsNode_85 : decode cX10_readsNode 85 = .ok (.aload_n 0, 1) := by decide +kernel
theorem dX10_readsNode_86 : decode cX10_readsNode 86 = .ok (.getfield 47, 3) := by decide +kernel
theorem dX10_readsNode_89 : decode cX10_readsNode 89 = .ok (.iload_n 1, 1) := by decide +kernel
theorem dX10_readsNode_90 : decode cX10_readsNode 90 = .ok (.iload 4, 2) := by decide +kernel
theorem dX10_readsNode_92 : decode cX10_readsNode 92 = .ok (.iload_n 3, 1) := by decide +kernel
theorem dX10_readsNode_93 : decode cX10_readsNode 93 = .ok (.invokevirtual 146, 3) := by decide +kernel
theorem dX10_readsNode_96 : decode cX10_readsNode 96 = .ok (.ifCond .ne 7, 3) := by decide +kernel
theorem dX10_readsNode_99 : decode cX10_readsNode 99 = .ok (.iconst 1, 1) := by decide +kernel
theorem dX10_readsNode_100 : decode cX10_readsNode 100 = .ok (.goto 4, 3) := by decide +kernel
theorem dX10_readsNode_103 : decode cX10_readsNode 103 = .ok (.iconst 0, 1) := by decide +kernel
theorem dX10_readsNode_104 : decode cX10_readsNode 104 = .ok (.istore 5, 2) := by decide +kernel
theorem dX10_readsNode_106 : decode cX10_readsNode 106 = .ok (.aload_n 0, 1) := by decide +kernel
theorem dX10_readsNode_107 : decode cX10_readsNode 107 = .ok (.iload 5, 2) := by decide +kernel
theorem dX10_readsNode_109 : decode cX10_readsNode 109 = .ok (.ifCond .eq 18, 3) := by decide +kernel
theorem dX10_readsNode_112 : decode cX10_readsNode 112 = .ok (.aload_n 0, 1) := by decide +kernel
theorem dX10_readsNode_113 : decode cX10_readsNode 113 = .ok (.bipush 49, 2) := by decide +kernel
theorem dX10_readsNode_115 : decode cX10_readsNode 115 = .ok (.bipush 57, 2) := by decide +kernel
theorem dX10_readsNode_117 : decode cX10_readsNode 117 = .ok (.invokevirtual 142, 3) := by decide +kernel
theorem dX10_readsNode_120 : decode cX10_readsNode 120 = .ok (.ifCond .eq 7, 3) := by decide +kernel
theorem dX10_readsNode_123 : decode cX10_readsNode 123 = .ok (.iconst 1, 1) := by decide +kernel
theorem dX10_readsNode_124 : decode cX10_readsNode 124 = .ok (.goto 4, 3) := by decide +kernel
theorem dX10_readsNode_127 : decode cX10_readsNode 127 = .ok (.iconst 0, 1) := by decide +kernel
theorem dX10_readsNode_128 : decode cX10_readsNode 128 = .ok (.invokevirtual 149, 3) := by decide +kernel
theorem dX10_readsNode_131 : decode cX10_readsNode 131 = .ok (.aload_n 0, 1) := by decide +kernel
theorem dX10_readsNode_132 : decode cX10_readsNode 132 = .ok (.getfield 47, 3) := by decide +kernel
theorem dX10_readsNode_135 : decode cX10_readsNode 135 = .ok (.getfield 14, 3) := by decide +kernel
theorem dX10_readsNode_138 : decode cX10_readsNode 138 = .ok (.iload_n 3, 1) := by decide +kernel
theorem dX10_readsNode_139 : decode cX10_readsNode 139 = .ok (.iload 4, 2) := by decide +kernel
theorem dX10_readsNode_141 : decode cX10_readsNode 141 = .ok (.iastore, 1) := by decide +kernel
theorem dX10_readsNode_142 : decode cX10_readsNode 142 = .ok (.aload_n 0, 1) := by decide +kernel
theorem dX10_readsNode_143 : decode cX10_readsNode 143 = .ok (.bipush 61, 2) := by decide +kernel
theorem dX10_readsNode_145 : decode cX10_readsNode 145 = .ok (.bipush 61, 2) := by decide +kernel
theorem dX10_readsNode_147 : decode cX10_readsNode 147 = .ok (.invokevirtual 142, 3) := by decide +kernel
theorem dX10_readsNode_150 : decode cX10_readsNode 150 = .ok (.ifCond .eq 66, 3) := by decide +kernel
theorem dX10_readsNode_153 : decode cX10_readsNode 153 = .ok (.aload_n 0, 1) := by decide +kernel
theorem dX10_readsNode_154 : decode cX10_readsNode 154 = .ok (.invokevirtual 135, 3) := by decide +kernel
theorem dX10_readsNode_157 : decode cX10_readsNode 157 = .ok (.bipush 48, 2) := by decide +kernel
theorem dX10_readsNode_159 : decode cX10_readsNode 159 = .ok (.isub, 1) := by decide +kernel
theorem dX10_readsNode_160 : decode cX10_readsNode 160 = .ok (.istore 4, 2) := by decide +kernel
theorem dX10_readsNode_162 : decode cX10_readsNode 162 = .ok (.aload_n 0, 1) := by decide +kernel
theorem dX10_readsNode_163 : decode cX10_readsNode 163 = .ok (.aload_n 0, 1) := by decide +kernel
theorem dX10_readsNode_164 : decode cX10_readsNode 164 = .ok (.bipush 48, 2) := by decide +kernel
theorem dX10_readsNode_166 : decode cX10_readsNode 166 = .ok (.bipush 57, 2) := by decide +kernel
theorem dX10_readsNode_168 : decode cX10_readsNode 168 = .ok (.invokevirtual 142, 3) := by decide +kernel
theorem dX10_readsNode_171 : decode cX10_readsNode 171 = .ok (.invokevirtual 149, 3) := by decide +kernel
theorem dX10_readsNode_174 : decode cX10_readsNode 174 = .ok (.aload_n 0, 1) := by decide +kernel
theorem dX10_readsNode_175 : decode cX10_readsNode 175 = .ok (.invokevirtual 135, 3) := by decide +kernel
theorem dX10_readsNode_178 : decode cX10_readsNode 178 = .ok (.bipush 48, 2) := by decide +kernel
theorem dX10_readsNode_180 : decode cX10_readsNode 180 = .ok (.isub, 1) := by decide +kernel
theorem dX10_readsNode_181 : decode cX10_readsNode 181 = .ok (.istore 5, 2) := by decide +kernel
theorem dX10_readsNode_183 : decode cX10_readsNode 183 = .ok (.aload_n 0, 1) := by decide +kernel
theorem dX10_readsNode_184 : decode cX10_readsNode 184 = .ok (.getfield 47, 3) := by decide +kernel
theorem dX10_readsNode_187 : decode cX10_readsNode 187 = .ok (.getfield 17, 3) := by decide +kernel
theorem dX10_readsNode_190 : decode cX10_readsNode 190 = .ok (.iload_n 3, 1) := by decide +kernel
theorem dX10_readsNode_191 : decode cX10_readsNode 191 = .ok (.aload_n 0, 1) := by decide +kernel
theorem dX10_readsNode_192 : decode cX10_readsNode 192 = .ok (.bipush 48, 2) := by decide +kernel
theorem dX10_readsNode_194 : decode cX10_readsNode 194 = .ok (.bipush 57, 2) := by decide +kernel
theorem dX10_readsNode_196 : decode cX10_readsNode 196 = .ok (.invokevirtual 142, 3) := by decide +kernel
theorem dX10_readsNode_199 : decode cX10_readsNode 199 = .ok (.ifCond .eq 14, 3) := by decide +kernel
theorem dX10_readsNode_202 : decode cX10_readsNode 202 = .ok (.bipush 10, 2) := by decide +kernel
theorem dX10_readsNode_204 : decode cX10_readsNode 204 = .ok (.iload 4, 2) := by decide +kernel
theorem dX10_readsNode_206 : decode cX10_readsNode 206 = .ok (.imul, 1) := by decide +kernel
theorem dX10_readsNode_207 : decode cX10_readsNode 207 = .ok (.iload 5, 2) := by decide +kernel
theorem dX10_readsNode_209 : decode cX10_readsNode 209 = .ok (.iadd, 1) := by decide +kernel
theorem dX10_readsNode_210 : decode cX10_readsNode 210 = .ok (.goto 5, 3) := by decide +kernel
theorem dX10_readsNode_213 : decode cX10_readsNode 213 = .ok (.iload 4, 2) := by decide +kernel
theorem dX10_readsNode_215 : decode cX10_readsNode 215 = .ok (.iastore, 1) := by decide +kernel
theorem dX10_readsNode_216 : decode cX10_readsNode 216 = .ok (.aload_n 0, 1) := by decide +kernel
theorem dX10_readsNode_217 : decode cX10_readsNode 217 = .ok (.bipush 40, 2) := by decide +kernel
theorem dX10_readsNode_219 : decode cX10_readsNode 219 = .ok (.bipush 40, 2) := by decide +kernel
theorem dX10_readsNode_221 : decode cX10_readsNode 221 = .ok (.invokevirtual 142, 3) := by decide +kernel
theorem dX10_readsNode_224 : decode cX10_readsNode 224 = .ok (.ifCond .ne 4, 3) := by decide +kernel
theorem dX10_readsNode_227 : decode cX10_readsNode 227 = .ok (.return_, 1) := by decide +kernel
theorem dX10_readsNode_228 : decode cX10_readsNode 228 = .ok (.aload_n 0, 1) := by decide +kernel
theorem dX10_readsNode_229 : decode cX10_readsNode 229 = .ok (.iload_n 3, 1) := by decide +kernel
theorem dX10_readsNode_230 : decode cX10_readsNode 230 = .ok (.invokevirtual 153, 3) := by decide +kernel
theorem dX10_readsNode_233 : decode cX10_readsNode 233 = .ok (.aload_n 0, 1) := by decide +kernel
theorem dX10_readsNode_234 : decode cX10_readsNode 234 = .ok (.getfield 132, 3) := by decide +kernel
theorem dX10_readsNode_237 : decode cX10_readsNode 237 = .ok (.ifCond .ge 43, 3) := by decide +kernel
theorem dX10_readsNode_240 : decode cX10_readsNode 240 = .ok (.aload_n 0, 1) := by decide +kernel
theorem dX10_readsNode_241 : decode cX10_readsNode 241 = .ok (.bipush 41, 2) := by decide +kernel
theorem dX10_readsNode_243 : decode cX10_readsNode 243 = .ok (.bipush 41, 2) := by decide +kernel
theorem dX10_readsNode_245 : decode cX10_readsNode 245 = .ok (.invokevirtual 142, 3) := by decide +kernel
theorem dX10_readsNode_248 : decode cX10_readsNode 248 = .ok (.ifCond .ne 32, 3) := by decide +kernel
theorem dX10_readsNode_251 : decode cX10_readsNode 251 = .ok (.aload_n 0, 1) := by decide +kernel
theorem dX10_readsNode_252 : decode cX10_readsNode 252 = .ok (.invokevirtual 135, 3) := by decide +kernel
theorem dX10_readsNode_255 : decode cX10_readsNode 255 = .ok (.bipush 97, 2) := by decide +kernel
theorem dX10_readsNode_257 : decode cX10_readsNode 257 = .ok (.bipush 122, 2) := by decide +kernel
theorem dX10_readsNode_259 : decode cX10_readsNode 259 = .ok (.invokestatic 108, 3) := by decide +kernel
theorem dX10_readsNode_262 : decode cX10_readsNode 262 = .ok (.ifCond .eq 11, 3) := by decide +kernel
theorem dX10_readsNode_265 : decode cX10_readsNode 265 = .ok (.aload_n 0, 1) := by decide +kernel
theorem dX10_readsNode_266 : decode cX10_readsNode 266 = .ok (.iload_n 3, 1) := by decide +kernel
theorem dX10_readsNode_267 : decode cX10_readsNode 267 = .ok (.invokevirtual 153, 3) := by decide +kernel
theorem dX10_readsNode_270 : decode cX10_readsNode 270 = .ok (.goto (-37), 3) := by decide +kernel
theorem dX10_readsNode_273 : decode cX10_readsNode 273 = .ok (.aload_n 0, 1) := by decide +kernel
theorem dX10_readsNode_274 : decode cX10_readsNode 274 = .ok (.invokevirtual 139, 3) := by decide +kernel
theorem dX10_readsNode_277 : decode cX10_readsNode 277 = .ok (.goto (-44), 3) := by decide +kernel
theorem dX10_readsNode_280 : decode cX10_readsNode 280 = .ok (.return_, 1) := by decide +kernel
set_option maxRecDepth 20000 in
theorem ggX10_read_X10_isTree : GoodIn wsX10_read wsX10_isTree := goodIn_r _ [11, 12, 13, 10, 14] (by decide +kernel) (by decide +kernel)
set_option maxRecDepth 20000 in
theorem gX10_read_X10_isTree : GoodIn wsX10_read (va_wsS RX10 112 yX10_isTree wsX10_isTree) := goodIn_app (goodIn_of _ (by decide +kernel)) ggX10_read_X10_isTree
set_option maxRecDepth 20000 in
theorem ggX10_read_X10_fails : GoodIn wsX10_read wsX10_fails := goodIn_r _ [18, 1, 59, 60, 61, 62, 63, 64, 65, 66, 67, 68, 69, 70, 71, 72, 73, 74, 75, 76, 77, 78, 79, 80, 81, 82, 83, 84, 85, 86, 87, 88, 89] (by decide +kernel) (by decide +kernel)
set_option maxRecDepth 20000 in
theorem gX10_read_X10_fails : GoodIn wsX10_read (wsV RX10 126 RX10 yX10_fails wsX10_fails) := goodIn_app (goodIn_of _ (by decide +kernel)) ggX10_read_X10_fails
set_option maxRecDepth 20000 in
theorem ggX10_read_X10_readsNode : GoodIn wsX10_read wsX10_readsNode := goodIn_r _ [22, 3, 4, 23, 24, 25, 10, 26, 2, 5, 27, 28, 29, 30, 31, 32, 33, 34, 35, 36, 37, 38, 39, 40, 41, 42, 43, 44, 45, 46, 47, 48, 49, 50, 51, 52, 53, 54, 55, 19, 20, 21, 12, 13, 14, 59, 60, 61, 62, 63, 64, 65, 66, 67, 68, 69, 70, 71, 72, 73, 74, 75, 76, 77, 78, 79, 80, 81, 82, 83, 84, 85, 86, 87, 88, 89, 90, 91, 92, 93, 94] (by decide +kernel) (by decide +kernel)
set_option maxRecDepth 20000 in
theorem gX10_read_X10_readsNode : GoodIn wsX10_read (wsV RX10 153 RX10 yX10_readsNode wsX10_readsNode) := goodIn_app (goodIn_of _ (by decide +kernel)) ggX10_read_X10_readsNode
set_option maxRecDepth 20000 in
theorem ggX10_read_X10_isFaulty : GoodIn wsX10_read wsX10_isFaulty := goodIn_r _ [35, 3, 2, 59, 60, 61, 62, 63, 64, 65, 66, 67, 68, 69, 70, 71, 72, 73, 74, 75, 76, 77, 78, 79, 80, 81, 82, 83, 84, 85, 86, 87, 88, 89] (by decide +kernel) (by decide +kernel)
set_option maxRecDepth 20000 in
theorem gX10_read_X10_isFaulty : GoodIn wsX10_read (wsV RX10 139 RX10 yX10_isFaulty wsX10_isFaulty) := goodIn_app (goodIn_of _ (by decide +kernel)) ggX10_read_X10_isFaulty
set_option maxRecDepth 20000 in
theorem ggX10_read_X9_copies : GoodIn wsX10_read wsX9_copies := goodIn_r _ [58, 40, 45, 46, 47, 48, 41, 42, 43, 37, 44, 90, 91, 92, 93, 94] (by decide +kernel) (by decide +kernel)
set_option maxRecDepth 20000 in
theorem gX10_read_X9_copies_n157 : GoodIn wsX10_read (wsX9_copies) := ggX10_read_X9_copies
theorem dX10_read_0 : decode cX10_read 0 = .ok (.aload_n 0, 1) := by decide +kernel
theorem dX10_read_1 : decode cX10_read 1 = .ok (.iconst 0, 1) := by decide +kernel
theorem dX10_read_2 : decode cX10_read 2 = .ok (.putfield 105, 3) := by decide +kernel
theorem dX10_read_5 : decode cX10_read 5 = .ok (.iload_n 1, 1) := by decide +kernel
theorem dX10_read_6 : decode cX10_read 6 = .ok (.invokestatic 112, 3) := by decide +kernel
theorem dX10_read_9 : decode cX10_read 9 = .ok (.ifCond .ne 9, 3) := by decide +kernel
theorem dX10_read_12 : decode cX10_read 12 = .ok (.aload_n 0, 1) := by decide +kernel
theorem dX10_read_13 : decode cX10_read 13 = .ok (.iconst 1, 1) := by decide +kernel
theorem dX10_read_14 : decode cX10_read 14 = .ok (.invokevirtual 126, 3) := by decide +kernel
theorem dX10_read_17 : decode cX10_read 17 = .ok (.ireturn, 1) := by decide +kernel
theorem dX10_read_18 : decode cX10_read 18 = .ok (.aload_n 0, 1) := by decide +kernel
theorem dX10_read_19 : decode cX10_read 19 = .ok (.iconst 0, 1) := by decide +kernel
theorem dX10_read_20 : decode cX10_read 20 = .ok (.putfield 129, 3) := by decide +kernel
theorem dX10_read_23 : decode cX10_read 23 = .ok (.aload_n 0, 1) := by decide +kernel
theorem dX10_read_24 : decode cX10_read 24 = .ok (.iconst (-1), 1) := by decide +kernel
theorem dX10_read_25 : decode cX10_read 25 = .ok (.putfield 132, 3) := by decide +kernel
theorem dX10_read_28 : decode cX10_read 28 = .ok (.aload_n 0, 1) := by decide +kernel
theorem dX10_read_29 : decode cX10_read 29 = .ok (.getfield 47, 3) := by decide +kernel
theorem dX10_read_32 : decode cX10_read 32 = .ok (.iconst 0, 1) := by decide +kernel
theorem dX10_read_33 : decode cX10_read 33 = .ok (.putfield 116, 3) := by decide +kernel
theorem dX10_read_36 : decode cX10_read 36 = .ok (.aload_n 0, 1) := by decide +kernel
theorem dX10_read_37 : decode cX10_read 37 = .ok (.iconst (-1), 1) := by decide +kernel
theorem dX10_read_38 : decode cX10_read 38 = .ok (.invokevirtual 153, 3) := by decide +kernel
theorem dX10_read_41 : decode cX10_read 41 = .ok (.aload_n 0, 1) := by decide +kernel
theorem dX10_read_42 : decode cX10_read 42 = .ok (.getfield 129, 3) := by decide +kernel
theorem dX10_read_45 : decode cX10_read 45 = .ok (.aload_n 0, 1) := by decide +kernel
theorem dX10_read_46 : decode cX10_read 46 = .ok (.getfield 123, 3) := by decide +kernel
theorem dX10_read_49 : decode cX10_read 49 = .ok (.if_icmp .ge 7, 3) := by decide +kernel
theorem dX10_read_52 : decode cX10_read 52 = .ok (.aload_n 0, 1) := by decide +kernel
theorem dX10_read_53 : decode cX10_read 53 = .ok (.invokevirtual 139, 3) := by decide +kernel
theorem dX10_read_56 : decode cX10_read 56 = .ok (.aload_n 0, 1) := by decide +kernel
theorem dX10_read_57 : decode cX10_read 57 = .ok (.iconst 0, 1) := by decide +kernel
theorem dX10_read_58 : decode cX10_read 58 = .ok (.putfield 123, 3) := by decide +kernel
theorem dX10_read_61 : decode cX10_read 61 = .ok (.aload_n 0, 1) := by decide +kernel
theorem dX10_read_62 : decode cX10_read 62 = .ok (.getfield 132, 3) := by decide +kernel
theorem dX10_read_65 : decode cX10_read 65 = .ok (.ifCond .lt 17, 3) := by decide +kernel
theorem dX10_read_68 : decode cX10_read 68 = .ok (.aload_n 0, 1) := by decide +kernel
theorem dX10_read_69 : decode cX10_read 69 = .ok (.aload_n 0, 1) := by decide +kernel
theorem dX10_read_70 : decode cX10_read 70 = .ok (.getfield 132, 3) := by decide +kernel
theorem dX10_read_73 : decode cX10_read 73 = .ok (.putfield 37, 3) := by decide +kernel
theorem dX10_read_76 : decode cX10_read 76 = .ok (.aload_n 0, 1) := by decide +kernel
theorem dX10_read_77 : decode cX10_read 77 = .ok (.iconst 2, 1) := by decide +kernel
theorem dX10_read_78 : decode cX10_read 78 = .ok (.invokevirtual 126, 3) := by decide +kernel
theorem dX10_read_81 : decode cX10_read 81 = .ok (.ireturn, 1) := by decide +kernel
theorem dX10_read_82 : decode cX10_read 82 = .ok (.aload_n 0, 1) := by decide +kernel
theorem dX10_read_83 : decode cX10_read 83 = .ok (.getfield 27, 3) := by decide +kernel
theorem dX10_read_86 : decode cX10_read 86 = .ok (.iload_n 1, 1) := by decide +kernel
theorem dX10_read_87 : decode cX10_read 87 = .ok (.aaload, 1) := by decide +kernel
theorem dX10_read_88 : decode cX10_read 88 = .ok (.aload_n 0, 1) := by decide +kernel
theorem dX10_read_89 : decode cX10_read 89 = .ok (.getfield 47, 3) := by decide +kernel
theorem dX10_read_92 : decode cX10_read 92 = .ok (.invokevirtual 157, 3) := by decide +kernel
theorem dX10_read_95 : decode cX10_read 95 = .ok (.aload_n 0, 1) := by decide +kernel
theorem dX10_read_96 : decode cX10_read 96 = .ok (.getfield 47, 3) := by decide +kernel
theorem dX10_read_99 : decode cX10_read 99 = .ok (.getfield 116, 3) := by decide +kernel
theorem dX10_read_102 : decode cX10_read 102 = .ok (.ireturn, 1) := by decide +kernel
set_option maxRecDepth 20000 in
theorem ggX10_errorPosition_X10_fails : GoodIn wsX10_errorPosition wsX10_fails := goodIn_r _ [7, 1, 8, 9, 10, 11, 12, 13, 14, 15, 16, 17, 18, 19, 20, 21, 22, 23, 24, 25, 26, 27, 28, 29, 30, 31, 32, 33, 34, 35, 36, 37, 38] (by decide +kernel) (by decide +kernel)
set_option maxRecDepth 20000 in
theorem gX10_errorPosition_X10_fails : GoodIn wsX10_errorPosition (wsV RX10 126 RX10 yX10_fails wsX10_fails) := goodIn_app (goodIn_of _ (by decide +kernel)) ggX10_errorPosition_X10_fails
theorem dX10_errorPosition_0 : decode cX10_errorPosition 0 = .ok (.aload_n 0, 1) := by decide +kernel
theorem dX10_errorPosition_1 : decode cX10_errorPosition 1 = .ok (.iconst 0, 1) := by decide +kernel
theorem dX10_errorPosition_2 : decode cX10_errorPosition 2 = .ok (.putfield 105, 3) := by decide +kernel
theorem dX10_errorPosition_5 : decode cX10_errorPosition 5 = .ok (.aload_n 0, 1) := by decide +kernel
theorem dX10_errorPosition_6 : decode cX10_errorPosition 6 = .ok (.getfield 37, 3) := by decide +kernel
theorem dX10_errorPosition_9 : decode cX10_errorPosition 9 = .ok (.ifCond .ge 11, 3) := by decide +kernel
theorem dX10_errorPosition_12 : decode cX10_errorPosition 12 = .ok (.aload_n 0, 1) := by decide +kernel
theorem dX10_errorPosition_13 : decode cX10_errorPosition 13 = .ok (.iconst 1, 1) := by decide +kernel
theorem dX10_errorPosition_14 : decode cX10_errorPosition 14 = .ok (.invokevirtual 126, 3) := by decide +kernel
theorem dX10_errorPosition_17 : decode cX10_errorPosition 17 = .ok (.goto 7, 3) := by decide +kernel
theorem dX10_errorPosition_20 : decode cX10_errorPosition 20 = .ok (.aload_n 0, 1) := by decide +kernel
theorem dX10_errorPosition_21 : decode cX10_errorPosition 21 = .ok (.getfield 37, 3) := by decide +kernel
theorem dX10_errorPosition_24 : decode cX10_errorPosition 24 = .ok (.ireturn, 1) := by decide +kernel
set_option maxRecDepth 20000 in
theorem ggX10_writes_J4_append_cf468 : GoodIn wsX10_writes wsJ4_append_cf468 := goodIn_r _ [5, 6, 7, 8, 9, 10, 11, 12, 13, 14, 15, 16, 17, 18, 19, 20, 21, 22, 23, 24, 25, 26, 27, 28, 29, 30, 31, 32, 33, 34, 35, 36, 37, 38, 39, 40, 41, 42, 43, 44, 45, 46, 47, 48, 49, 50, 51, 52, 53, 54, 55, 56, 57, 58, 59, 60, 61, 62, 63, 64, 65, 66, 67, 68, 69, 70, 71, 72, 73, 74, 75, 76, 77, 78, 79, 80, 81, 82, 83, 84, 85, 86, 87, 88, 89, 90, 91, 92, 93, 94, 95, 96, 97, 98, 99, 100, 101, 102, 103, 104, 105, 106, 107, 108, 109, 110, 111, 112, 113, 114, 115, 116, 117, 172, 173, 174, 175] (by decide +kernel) (by decide +kernel)
set_option maxRecDepth 20000 in
theorem gX10_writes_J4_append_cf468 : GoodIn wsX10_writes (wsV RX10 161 RJ4 yJ4_append_cf468 wsJ4_append_cf468) := goodIn_app (goodIn_of _ (by decide +kernel)) ggX10_writes_J4_append_cf468
set_option maxRecDepth 20000 in
theorem ggX10_writes_J4_append_bf812 : GoodIn wsX10_writes wsJ4_append_bf812 := goodIn_r _ [121, 122, 123, 8, 124, 10, 125, 12, 13, 126, 127, 128, 129, 14, 15, 16, 17, 18, 19, 20, 21, 22, 23, 24, 25, 26, 27, 28, 29, 30, 31, 32, 33, 34, 35, 36, 37, 38, 39, 40, 41, 42, 43, 44, 45, 46, 47, 48, 49, 50, 51, 52, 53, 54, 55, 56, 57, 58, 59, 60, 61, 130, 131, 132, 133, 134, 135, 136, 73, 137, 103, 138, 139, 140, 88, 89, 90, 141, 142, 93, 143, 95, 144, 145, 98, 146, 147, 148, 149, 150, 151, 100, 101, 102, 104, 105, 172, 173, 174, 175] (by decide +kernel) (by decide +kernel)
set_option maxRecDepth 20000 in
theorem gX10_writes_J4_append_bf812 : GoodIn wsX10_writes (wsV RX10 167 RJ4 yJ4_append_bf812 wsJ4_append_bf812) := goodIn_app (goodIn_of _ (by decide +kernel)) ggX10_writes_J4_append_bf812
set_option maxRecDepth 20000 in
theorem ggX10_writes_X9_many : GoodIn wsX10_writes wsX9_many := goodIn_r _ [155, 156, 157, 167, 168, 169, 170, 171] (by decide +kernel) (by decide +kernel)
set_option maxRecDepth 20000 in
theorem gX10_writes_X9_many_n170 : GoodIn wsX10_writes (wsX9_many) := ggX10_writes_X9_many
set_option maxRecDepth 20000 in
theorem ggX10_writes_X9_kids : GoodIn wsX10_writes wsX9_kids := goodIn_r _ [160, 161, 156, 157, 162, 152, 154, 153, 155, 167, 168, 169, 170, 171] (by decide +kernel) (by decide +kernel)
set_option maxRecDepth 20000 in
theorem gX10_writes_X9_kids_n173 : GoodIn wsX10_writes (wsX9_kids) := ggX10_writes_X9_kids
set_option maxRecDepth 20000 in
theorem ggX10_writes_X10_writes : GoodIn wsX10_writes wsX10_writes := goodIn_r _ [0, 1, 2, 3, 4, 5, 6, 7, 8, 9, 10, 11, 12, 13, 14, 15, 16, 17, 18, 19, 20, 21, 22, 23, 24, 25, 26, 27, 28, 29, 30, 31, 32, 33, 34, 35, 36, 37, 38, 39, 40, 41, 42, 43, 44, 45, 46, 47, 48, 49, 50, 51, 52, 53, 54, 55, 56, 57, 58, 59, 60, 61, 62, 63, 64, 65, 66, 67, 68, 69, 70, 71, 72, 73, 74, 75, 76, 77, 78, 79, 80, 81, 82, 83, 84, 85, 86, 87, 88, 89, 90, 91, 92, 93, 94, 95, 96, 97, 98, 99, 100, 101, 102, 103, 104, 105, 106, 107, 108, 109, 110, 111, 112, 113, 114, 115, 116, 117, 118, 119, 120, 121, 122, 123, 124, 125, 126, 127, 128, 129, 130, 131, 132, 133, 134, 135, 136, 137, 138, 139, 140, 141, 142, 143, 144, 145, 146, 147, 148, 149, 150, 151, 152, 153, 154, 155, 156, 157, 158, 159, 160, 161, 162, 163, 164, 165, 166, 167, 168, 169, 170, 171, 172, 173, 174, 175] (by decide +kernel) (by decide +kernel)
set_option maxRecDepth 20000 in
theorem gX10_writes_X10_writes : GoodIn wsX10_writes (wsV RX10 177 RX10 yX10_writes wsX10_writes) := goodIn_app (goodIn_of _ (by decide +kernel)) ggX10_writes_X10_writes
theorem dX10_writes_0 : decode cX10_writes 0 = .ok (.aload_n 3, 1) := by decide +kernel
theorem dX10_writes_1 : decode cX10_writes 1 = .ok (.aload_n 1, 1) := by decide +kernel
theorem dX10_writes_2 : decode cX10_writes 2 = .ok (.getfield 11, 3) := by decide +kernel
theorem dX10_writes_5 : decode cX10_writes 5 = .ok (.iload_n 2, 1) := by decide +kernel
theorem dX10_writes_6 : decode cX10_writes 6 = .ok (.iaload, 1) := by decide +kernel
theorem dX10_writes_7 : decode cX10_writes 7 = .ok (.i2c, 1) := by decide +kernel
theorem dX10_writes_8 : decode cX10_writes 8 = .ok (.invokevirtual 161, 3) := by decide +kernel
theorem dX10_writes_11 : decode cX10_writes 11 = .ok (.pop, 1) := by decide +kernel
theorem dX10_writes_12 : decode cX10_writes 12 = .ok (.aload_n 1, 1) := by decide +kernel
theorem dX10_writes_13 : decode cX10_writes 13 = .ok (.getfield 14, 3) := by decide +kernel
theorem dX10_writes_16 : decode cX10_writes 16 = .ok (.iload_n 2, 1) := by decide +kernel
theorem dX10_writes_17 : decode cX10_writes 17 = .ok (.iaload, 1) := by decide +kernel
theorem dX10_writes_18 : decode cX10_writes 18 = .ok (.ifCond .le 19, 3) := by decide +kernel
theorem dX10_writes_21 : decode cX10_writes 21 = .ok (.aload_n 3, 1) := by decide +kernel
theorem dX10_writes_22 : decode cX10_writes 22 = .ok (.bipush 35, 2) := by decide +kernel
theorem dX10_writes_24 : decode cX10_writes 24 = .ok (.invokevirtual 161, 3) := by decide +kernel
theorem dX10_writes_27 : decode cX10_writes 27 = .ok (.aload_n 1, 1) := by decide +kernel
theorem dX10_writes_28 : decode cX10_writes 28 = .ok (.getfield 14, 3) := by decide +kernel
theorem dX10_writes_31 : decode cX10_writes 31 = .ok (.iload_n 2, 1) := by decide +kernel
theorem dX10_writes_32 : decode cX10_writes 32 = .ok (.iaload, 1) := by decide +kernel
theorem dX10_writes_33 : decode cX10_writes 33 = .ok (.invokevirtual 167, 3) := by decide +kernel
theorem dX10_writes_36 : decode cX10_writes 36 = .ok (.pop, 1) := by decide +kernel
theorem dX10_writes_37 : decode cX10_writes 37 = .ok (.aload_n 1, 1) := by decide +kernel
theorem dX10_writes_38 : decode cX10_writes 38 = .ok (.getfield 17, 3) := by decide +kernel
theorem dX10_writes_41 : decode cX10_writes 41 = .ok (.iload_n 2, 1) := by decide +kernel
theorem dX10_writes_42 : decode cX10_writes 42 = .ok (.iaload, 1) := by decide +kernel
theorem dX10_writes_43 : decode cX10_writes 43 = .ok (.ifCond .le 19, 3) := by decide +kernel
theorem dX10_writes_46 : decode cX10_writes 46 = .ok (.aload_n 3, 1) := by decide +kernel
theorem dX10_writes_47 : decode cX10_writes 47 = .ok (.bipush 61, 2) := by decide +kernel
theorem dX10_writes_49 : decode cX10_writes 49 = .ok (.invokevirtual 161, 3) := by decide +kernel
theorem dX10_writes_52 : decode cX10_writes 52 = .ok (.aload_n 1, 1) := by decide +kernel
theorem dX10_writes_53 : decode cX10_writes 53 = .ok (.getfield 17, 3) := by decide +kernel
theorem dX10_writes_56 : decode cX10_writes 56 = .ok (.iload_n 2, 1) := by decide +kernel
theorem dX10_writes_57 : decode cX10_writes 57 = .ok (.iaload, 1) := by decide +kernel
theorem dX10_writes_58 : decode cX10_writes 58 = .ok (.invokevirtual 167, 3) := by decide +kernel
theorem dX10_writes_61 : decode cX10_writes 61 = .ok (.pop, 1) := by decide +kernel
theorem dX10_writes_62 : decode cX10_writes 62 = .ok (.aload_n 1, 1) := by decide +kernel
theorem dX10_writes_63 : decode cX10_writes 63 = .ok (.iload_n 2, 1) := by decide +kernel
theorem dX10_writes_64 : decode cX10_writes 64 = .ok (.invokevirtual 170, 3) := by decide +kernel
theorem dX10_writes_67 : decode cX10_writes 67 = .ok (.ifCond .ne 4, 3) := by decide +kernel
theorem dX10_writes_70 : decode cX10_writes 70 = .ok (.return_, 1) := by decide +kernel
theorem dX10_writes_71 : decode cX10_writes 71 = .ok (.aload_n 3, 1) := by decide +kernel
theorem dX10_writes_72 : decode cX10_writes 72 = .ok (.bipush 40, 2) := by decide +kernel
theorem dX10_writes_74 : decode cX10_writes 74 = .ok (.invokevirtual 161, 3) := by decide +kernel
theorem dX10_writes_77 : decode cX10_writes 77 = .ok (.pop, 1) := by decide +kernel
theorem dX10_writes_78 : decode cX10_writes 78 = .ok (.aload_n 1, 1) := by decide +kernel
theorem dX10_writes_79 : decode cX10_writes 79 = .ok (.iload_n 2, 1) := by decide +kernel
theorem dX10_writes_80 : decode cX10_writes 80 = .ok (.invokevirtual 173, 3) := by decide +kernel
theorem dX10_writes_83 : decode cX10_writes 83 = .ok (.astore 4, 2) := by decide +kernel
theorem dX10_writes_85 : decode cX10_writes 85 = .ok (.aload 4, 2) := by decide +kernel
theorem dX10_writes_87 : decode cX10_writes 87 = .ok (.arraylength, 1) := by decide +kernel
theorem dX10_writes_88 : decode cX10_writes 88 = .ok (.istore 5, 2) := by decide +kernel
theorem dX10_writes_90 : decode cX10_writes 90 = .ok (.iconst 0, 1) := by decide +kernel
theorem dX10_writes_91 : decode cX10_writes 91 = .ok (.istore 6, 2) := by decide +kernel
theorem dX10_writes_93 : decode cX10_writes 93 = .ok (.iload 6, 2) := by decide +kernel
theorem dX10_writes_95 : decode cX10_writes 95 = .ok (.iload 5, 2) := by decide +kernel
theorem dX10_writes_97 : decode cX10_writes 97 = .ok (.if_icmp .ge 24, 3) := by decide +kernel
theorem dX10_writes_100 : decode cX10_writes 100 = .ok (.aload 4, 2) := by decide +kernel
theorem dX10_writes_102 : decode cX10_writes 102 = .ok (.iload 6, 2) := by decide +kernel
theorem dX10_writes_104 : decode cX10_writes 104 = .ok (.iaload, 1) := by decide +kernel
theorem dX10_writes_105 : decode cX10_writes 105 = .ok (.istore 7, 2) := by decide +kernel
theorem dX10_writes_107 : decode cX10_writes 107 = .ok (.aload_n 0, 1) := by decide +kernel
theorem dX10_writes_108 : decode cX10_writes 108 = .ok (.aload_n 1, 1) := by decide +kernel
theorem dX10_writes_109 : decode cX10_writes 109 = .ok (.iload 7, 2) := by decide +kernel
theorem dX10_writes_111 : decode cX10_writes 111 = .ok (.aload_n 3, 1) := by decide +kernel
theorem dX10_writes_112 : decode cX10_writes 112 = .ok (.invokevirtual 177, 3) := by decide +kernel
theorem dX10_writes_115 : decode cX10_writes 115 = .ok (.iinc 6 1, 3) := by decide +kernel
theorem dX10_writes_118 : decode cX10_writes 118 = .ok (.goto (-25), 3) := by decide +kernel
theorem dX10_writes_121 : decode cX10_writes 121 = .ok (.aload_n 3, 1) := by decide +kernel
theorem dX10_writes_122 : decode cX10_writes 122 = .ok (.bipush 41, 2) := by decide +kernel
theorem dX10_writes_124 : decode cX10_writes 124 = .ok (.invokevirtual 161, 3) := by decide +kernel
theorem dX10_writes_127 : decode cX10_writes 127 = .ok (.pop, 1) := by decide +kernel
theorem dX10_writes_128 : decode cX10_writes 128 = .ok (.return_, 1) := by decide +kernel
set_option maxRecDepth 20000 in
theorem ggX10_writeTree_X10_isTree : GoodIn wsX10_writeTree wsX10_isTree := goodIn_r _ [10, 11, 12, 9, 13] (by decide +kernel) (by decide +kernel)
set_option maxRecDepth 20000 in
theorem gX10_writeTree_X10_isTree : GoodIn wsX10_writeTree (va_wsS RX10 112 yX10_isTree wsX10_isTree) := goodIn_app (goodIn_of _ (by decide +kernel)) ggX10_writeTree_X10_isTree
set_option maxRecDepth 20000 in
theorem ggX10_writeTree_X10_fails : GoodIn wsX10_writeTree wsX10_fails := goodIn_r _ [17, 1, 255, 256, 257, 258, 259, 260, 261, 262, 263, 264, 265, 266, 267, 268, 269, 270, 271, 272, 273, 274, 275, 276, 277, 278, 279, 280, 281, 282, 283, 284, 285] (by decide +kernel) (by decide +kernel)
set_option maxRecDepth 20000 in
theorem gX10_writeTree_X10_fails : GoodIn wsX10_writeTree (wsV RX10 126 RX10 yX10_fails wsX10_fails) := goodIn_app (goodIn_of _ (by decide +kernel)) ggX10_writeTree_X10_fails
set_option maxRecDepth 20000 in
theorem ggX10_writeTree_J4_init_da8c8 : GoodIn wsX10_writeTree wsJ4_init_da8c8 := goodIn_r _ [20, 21, 22, 23, 24, 25, 26, 27, 28, 29, 30, 31, 32, 33, 34, 35, 36, 37, 38, 39, 286, 287, 288, 289] (by decide +kernel) (by decide +kernel)
set_option maxRecDepth 20000 in
theorem gX10_writeTree_J4_init_da8c8 : GoodIn wsX10_writeTree (wsJ4_init_da8c8) := ggX10_writeTree_J4_init_da8c8
set_option maxRecDepth 20000 in
theorem ggX10_writeTree_X10_writes : GoodIn wsX10_writeTree wsX10_writes := goodIn_r _ [43, 44, 45, 46, 4, 47, 48, 49, 50, 51, 23, 52, 53, 30, 54, 55, 56, 57, 58, 31, 59, 60, 61, 62, 63, 64, 65, 66, 67, 68, 69, 70, 71, 72, 73, 74, 75, 76, 77, 78, 79, 80, 81, 82, 83, 84, 85, 86, 29, 87, 88, 89, 90, 91, 92, 93, 94, 95, 96, 97, 98, 28, 99, 100, 101, 102, 103, 104, 105, 106, 107, 32, 33, 34, 35, 36, 37, 38, 39, 108, 109, 110, 111, 112, 113, 114, 115, 116, 117, 118, 119, 120, 121, 122, 123, 124, 125, 126, 127, 128, 129, 130, 131, 132, 133, 134, 135, 136, 137, 138, 139, 140, 141, 142, 143, 144, 145, 146, 147, 148, 149, 150, 151, 152, 153, 154, 155, 156, 157, 158, 159, 160, 161, 162, 163, 164, 165, 166, 167, 168, 169, 170, 171, 172, 173, 174, 175, 176, 177, 178, 179, 180, 181, 182, 183, 184, 185, 186, 187, 188, 189, 190, 191, 40, 41, 42, 9, 290, 291, 292, 293, 294, 286, 287, 288, 289] (by decide +kernel) (by decide +kernel)
set_option maxRecDepth 20000 in
theorem gX10_writeTree_X10_writes : GoodIn wsX10_writeTree (wsV RX10 177 RX10 yX10_writes wsX10_writes) := goodIn_app (goodIn_of _ (by decide +kernel)) ggX10_writeTree_X10_writes
set_option maxRecDepth 20000 in
theorem ggX10_writeTree_J4_toString_0e30d : GoodIn wsX10_writeTree wsJ4_toString_0e30d := goodIn_r _ [195, 196, 197, 122, 198, 199, 200, 201, 202, 203, 204, 26, 27, 205, 206, 207, 208, 209, 210, 211, 212, 23, 213, 30, 214, 215, 216, 217, 218, 4, 219, 220, 50, 221, 222, 53, 223, 95, 96, 97, 98, 28, 31, 224, 225, 79, 226, 81, 82, 83, 84, 85, 86, 227, 228, 229, 29, 87, 88, 71, 89, 90, 91, 92, 93, 230, 231, 232, 233, 3, 234, 235, 34, 236, 237, 238, 239, 114, 115, 116, 117, 118, 119, 120, 121, 123, 124, 125, 126, 127, 128, 240, 241, 242, 132, 133, 134, 36, 37, 38, 39, 243, 244, 245, 246, 295, 296, 297, 298, 286, 287, 288, 289] (by decide +kernel) (by decide +kernel)
set_option maxRecDepth 20000 in
theorem gX10_writeTree_J4_toString_0e30d : GoodIn wsX10_writeTree (wsV RX10 182 RJ4 yJ4_toString_0e30d wsJ4_toString_0e30d) := goodIn_app (goodIn_of _ (by decide +kernel)) ggX10_writeTree_J4_toString_0e30d
set_option maxRecDepth 20000 in
theorem ggX10_writeTree_J0_length_8abf5 : GoodIn wsX10_writeTree wsJ0_length_8abf5 := goodIn_r _ [250, 206, 251, 252, 253, 122, 254, 207, 205, 295, 296, 297, 298] (by decide +kernel) (by decide +kernel)
set_option maxRecDepth 20000 in
theorem gX10_writeTree_J0_length_8abf5 : GoodIn wsX10_writeTree (wsV RX10 186 RJ0 yJ0_length_8abf5 wsJ0_length_8abf5) := goodIn_app (goodIn_of _ (by decide +kernel)) ggX10_writeTree_J0_length_8abf5
theorem dX10_writeTree_0 : decode cX10_writeTree 0 = .ok (.aload_n 0, 1) := by decide +kernel
theorem dX10_writeTree_1 : decode cX10_writeTree 1 = .ok (.iconst 0, 1) := by decide +kernel
theorem dX10_writeTree_2 : decode cX10_writeTree 2 = .ok (.putfield 105, 3) := by decide +kernel
theorem dX10_writeTree_5 : decode cX10_writeTree 5 = .ok (.iload_n 1, 1) := by decide +kernel
theorem dX10_writeTree_6 : decode cX10_writeTree 6 = .ok (.invokestatic 112, 3) := by decide +kernel
theorem dX10_writeTree_9 : decode cX10_writeTree 9 = .ok (.ifCond .ne 9, 3) := by decide +kernel
theorem dX10_writeTree_12 : decode cX10_writeTree 12 = .ok (.aload_n 0, 1) := by decide +kernel
theorem dX10_writeTree_13 : decode cX10_writeTree 13 = .ok (.iconst 1, 1) := by decide +kernel
theorem dX10_writeTree_14 : decode cX10_writeTree 14 = .ok (.invokevirtual 126, 3) := by decide +kernel
theorem dX10_writeTree_17 : decode cX10_writeTree 17 = .ok (.ireturn, 1) := by decide +kernel
theorem dX10_writeTree_18 : decode cX10_writeTree 18 = .ok (.new 162, 3) := by decide +kernel
theorem dX10_writeTree_21 : decode cX10_writeTree 21 = .ok (.dup, 1) := by decide +kernel
theorem dX10_writeTree_22 : decode cX10_writeTree 22 = .ok (.invokespecial 181, 3) := by decide +kernel
theorem dX10_writeTree_25 : decode cX10_writeTree 25 = .ok (.astore_n 2, 1) := by decide +kernel
theorem dX10_writeTree_26 : decode cX10_writeTree 26 = .ok (.aload_n 0, 1) := by decide +kernel
theorem dX10_writeTree_27 : decode cX10_writeTree 27 = .ok (.aload_n 0, 1) := by decide +kernel
theorem dX10_writeTree_28 : decode cX10_writeTree 28 = .ok (.getfield 27, 3) := by decide +kernel
theorem dX10_writeTree_31 : decode cX10_writeTree 31 = .ok (.iload_n 1, 1) := by decide +kernel
theorem dX10_writeTree_32 : decode cX10_writeTree 32 = .ok (.aaload, 1) := by decide +kernel
theorem dX10_writeTree_33 : decode cX10_writeTree 33 = .ok (.iconst 0, 1) := by decide +kernel
theorem dX10_writeTree_34 : decode cX10_writeTree 34 = .ok (.aload_n 2, 1) := by decide +kernel
theorem dX10_writeTree_35 : decode cX10_writeTree 35 = .ok (.invokevirtual 177, 3) := by decide +kernel
theorem dX10_writeTree_38 : decode cX10_writeTree 38 = .ok (.aload_n 0, 1) := by decide +kernel
theorem dX10_writeTree_39 : decode cX10_writeTree 39 = .ok (.aload_n 2, 1) := by decide +kernel
theorem dX10_writeTree_40 : decode cX10_writeTree 40 = .ok (.invokevirtual 182, 3) := by decide +kernel
theorem dX10_writeTree_43 : decode cX10_writeTree 43 = .ok (.putfield 43, 3) := by decide +kernel
theorem dX10_writeTree_46 : decode cX10_writeTree 46 = .ok (.aload_n 0, 1) := by decide +kernel
theorem dX10_writeTree_47 : decode cX10_writeTree 47 = .ok (.getfield 43, 3) := by decide +kernel
theorem dX10_writeTree_50 : decode cX10_writeTree 50 = .ok (.invokevirtual 186, 3) := by decide +kernel
theorem dX10_writeTree_53 : decode cX10_writeTree 53 = .ok (.ireturn, 1) := by decide +kernel
set_option maxRecDepth 20000 in
theorem ggX10_writeScript_X10_fails : GoodIn wsX10_writeScript wsX10_fails := goodIn_r _ [15, 1, 238, 239, 240, 241, 242, 243, 244, 245, 246, 247, 248, 249, 250, 251, 252, 253, 254, 255, 256, 257, 258, 259, 260, 261, 262, 263, 264, 265, 266, 267, 268] (by decide +kernel) (by decide +kernel)
set_option maxRecDepth 20000 in
theorem gX10_writeScript_X10_fails : GoodIn wsX10_writeScript (wsV RX10 126 RX10 yX10_fails wsX10_fails) := goodIn_app (goodIn_of _ (by decide +kernel)) ggX10_writeScript_X10_fails
set_option maxRecDepth 20000 in
theorem ggX10_writeScript_J4_init_da8c8 : GoodIn wsX10_writeScript wsJ4_init_da8c8 := goodIn_r _ [18, 19, 20, 21, 22, 23, 24, 25, 26, 27, 28, 29, 30, 31, 32, 33, 34, 35, 36, 37, 269, 270, 271, 272] (by decide +kernel) (by decide +kernel)
set_option maxRecDepth 20000 in
theorem gX10_writeScript_J4_init_da8c8 : GoodIn wsX10_writeScript (wsJ4_init_da8c8) := ggX10_writeScript_J4_init_da8c8
set_option maxRecDepth 20000 in
theorem ggX10_writeScript_J4_append_cf468 : GoodIn wsX10_writeScript wsJ4_append_cf468 := goodIn_r _ [41, 42, 43, 44, 45, 21, 46, 47, 28, 48, 49, 50, 51, 52, 29, 53, 54, 55, 56, 57, 58, 59, 60, 61, 62, 63, 64, 65, 66, 67, 68, 69, 70, 71, 72, 73, 74, 75, 76, 77, 78, 79, 80, 27, 81, 82, 83, 84, 85, 86, 87, 88, 89, 90, 91, 92, 26, 93, 94, 95, 96, 97, 98, 99, 100, 101, 30, 31, 32, 33, 34, 35, 36, 37, 102, 103, 104, 105, 106, 107, 108, 109, 110, 111, 112, 113, 114, 115, 116, 117, 118, 119, 120, 121, 122, 123, 124, 125, 126, 127, 128, 129, 130, 131, 132, 133, 134, 135, 136, 137, 138, 139, 140, 269, 270, 271, 272] (by decide +kernel) (by decide +kernel)
set_option maxRecDepth 20000 in
theorem gX10_writeScript_J4_append_cf468 : GoodIn wsX10_writeScript (wsV RX10 161 RJ4 yJ4_append_cf468 wsJ4_append_cf468) := goodIn_app (goodIn_of _ (by decide +kernel)) ggX10_writeScript_J4_append_cf468
set_option maxRecDepth 20000 in
theorem ggX10_writeScript_J4_append_bf812 : GoodIn wsX10_writeScript wsJ4_append_bf812 := goodIn_r _ [144, 145, 146, 44, 147, 21, 148, 47, 28, 149, 150, 151, 152, 48, 49, 50, 51, 52, 29, 53, 54, 55, 56, 57, 58, 59, 60, 61, 62, 63, 64, 65, 66, 67, 68, 69, 70, 71, 72, 73, 74, 75, 76, 77, 78, 79, 80, 27, 81, 82, 83, 84, 85, 86, 87, 88, 89, 90, 91, 92, 26, 153, 154, 155, 156, 157, 158, 159, 32, 160, 126, 161, 162, 163, 111, 112, 113, 164, 165, 116, 166, 118, 167, 168, 121, 169, 170, 171, 172, 173, 174, 123, 124, 125, 127, 128, 269, 270, 271, 272] (by decide +kernel) (by decide +kernel)
set_option maxRecDepth 20000 in
theorem gX10_writeScript_J4_append_bf812 : GoodIn wsX10_writeScript (wsV RX10 167 RJ4 yJ4_append_bf812 wsJ4_append_bf812) := goodIn_app (goodIn_of _ (by decide +kernel)) ggX10_writeScript_J4_append_bf812
set_option maxRecDepth 20000 in
theorem ggX10_writeScript_J4_toString_0e30d : GoodIn wsX10_writeScript wsJ4_toString_0e30d := goodIn_r _ [178, 179, 180, 116, 181, 182, 183, 184, 185, 186, 187, 24, 25, 188, 189, 190, 191, 192, 193, 194, 195, 21, 196, 28, 197, 198, 199, 200, 201, 5, 202, 203, 44, 204, 205, 47, 206, 89, 90, 91, 92, 26, 29, 207, 208, 73, 209, 75, 76, 77, 78, 79, 80, 210, 211, 212, 27, 81, 82, 65, 83, 84, 85, 86, 87, 213, 214, 215, 216, 4, 217, 218, 32, 219, 220, 221, 222, 108, 109, 110, 111, 112, 113, 114, 115, 117, 118, 119, 120, 121, 122, 223, 224, 225, 126, 127, 128, 34, 35, 36, 37, 226, 227, 228, 229, 273, 274, 275, 276, 269, 270, 271, 272] (by decide +kernel) (by decide +kernel)
set_option maxRecDepth 20000 in
theorem gX10_writeScript_J4_toString_0e30d : GoodIn wsX10_writeScript (wsV RX10 182 RJ4 yJ4_toString_0e30d wsJ4_toString_0e30d) := goodIn_app (goodIn_of _ (by decide +kernel)) ggX10_writeScript_J4_toString_0e30d
set_option maxRecDepth 20000 in
theorem ggX10_writeScript_J0_length_8abf5 : GoodIn wsX10_writeScript wsJ0_length_8abf5 := goodIn_r _ [233, 189, 234, 235, 236, 116, 237, 190, 188, 273, 274, 275, 276] (by decide +kernel) (by decide +kernel)
set_option maxRecDepth 20000 in
theorem gX10_writeScript_J0_length_8abf5 : GoodIn wsX10_writeScript (wsV RX10 186 RJ0 yJ0_length_8abf5 wsJ0_length_8abf5) := goodIn_app (goodIn_of _ (by decide +kernel)) ggX10_writeScript_J0_length_8abf5
theorem dX10_writeScript_0 : decode cX10_writeScript 0 = .ok (.aload_n 0, 1) := by decide +kernel
theorem dX10_writeScript_1 : decode cX10_writeScript 1 = .ok (.iconst 0, 1) := by decide +kernel
theorem dX10_writeScript_2 : decode cX10_writeScript 2 = .ok (.putfield 105, 3) := by decide +kernel
theorem dX10_writeScript_5 : decode cX10_writeScript 5 = .ok (.aload_n 0, 1) := by decide +kernel
theorem dX10_writeScript_6 : decode cX10_writeScript 6 = .ok (.getfield 192, 3) := by decide +kernel
theorem dX10_writeScript_9 : decode cX10_writeScript 9 = .ok (.ifCond .ne 9, 3) := by decide +kernel
theorem dX10_writeScript_12 : decode cX10_writeScript 12 = .ok (.aload_n 0, 1) := by decide +kernel
theorem dX10_writeScript_13 : decode cX10_writeScript 13 = .ok (.iconst 1, 1) := by decide +kernel
theorem dX10_writeScript_14 : decode cX10_writeScript 14 = .ok (.invokevirtual 126, 3) := by decide +kernel
theorem dX10_writeScript_17 : decode cX10_writeScript 17 = .ok (.ireturn, 1) := by decide +kernel
theorem dX10_writeScript_18 : decode cX10_writeScript 18 = .ok (.new 162, 3) := by decide +kernel
theorem dX10_writeScript_21 : decode cX10_writeScript 21 = .ok (.dup, 1) := by decide +kernel
theorem dX10_writeScript_22 : decode cX10_writeScript 22 = .ok (.invokespecial 181, 3) := by decide +kernel
theorem dX10_writeScript_25 : decode cX10_writeScript 25 = .ok (.astore_n 1, 1) := by decide +kernel
theorem dX10_writeScript_26 : decode cX10_writeScript 26 = .ok (.iconst 0, 1) := by decide +kernel
theorem dX10_writeScript_27 : decode cX10_writeScript 27 = .ok (.istore_n 2, 1) := by decide +kernel
theorem dX10_writeScript_28 : decode cX10_writeScript 28 = .ok (.iload_n 2, 1) := by decide +kernel
theorem dX10_writeScript_29 : decode cX10_writeScript 29 = .ok (.aload_n 0, 1) := by decide +kernel
theorem dX10_writeScript_30 : decode cX10_writeScript 30 = .ok (.getfield 196, 3) := by decide +kernel
theorem dX10_writeScript_33 : decode cX10_writeScript 33 = .ok (.if_icmp .ge 49, 3) := by decide +kernel
theorem dX10_writeScript_36 : decode cX10_writeScript 36 = .ok (.aload_n 1, 1) := by decide +kernel
theorem dX10_writeScript_37 : decode cX10_writeScript 37 = .ok (.aload_n 0, 1) := by decide +kernel
theorem dX10_writeScript_38 : decode cX10_writeScript 38 = .ok (.getfield 77, 3) := by decide +kernel
theorem dX10_writeScript_41 : decode cX10_writeScript 41 = .ok (.iload_n 2, 1) := by decide +kernel
theorem dX10_writeScript_42 : decode cX10_writeScript 42 = .ok (.caload, 1) := by decide +kernel
theorem dX10_writeScript_43 : decode cX10_writeScript 43 = .ok (.invokevirtual 161, 3) := by decide +kernel
theorem dX10_writeScript_46 : decode cX10_writeScript 46 = .ok (.aload_n 0, 1) := by decide +kernel
theorem dX10_writeScript_47 : decode cX10_writeScript 47 = .ok (.getfield 77, 3) := by decide +kernel
theorem dX10_writeScript_50 : decode cX10_writeScript 50 = .ok (.iload_n 2, 1) := by decide +kernel
theorem dX10_writeScript_51 : decode cX10_writeScript 51 = .ok (.caload, 1) := by decide +kernel
theorem dX10_writeScript_52 : decode cX10_writeScript 52 = .ok (.bipush 105, 2) := by decide +kernel
theorem dX10_writeScript_54 : decode cX10_writeScript 54 = .ok (.if_icmp .ne 12, 3) := by decide +kernel
theorem dX10_writeScript_57 : decode cX10_writeScript 57 = .ok (.aload_n 0, 1) := by decide +kernel
theorem dX10_writeScript_58 : decode cX10_writeScript 58 = .ok (.getfield 83, 3) := by decide +kernel
theorem dX10_writeScript_61 : decode cX10_writeScript 61 = .ok (.iload_n 2, 1) := by decide +kernel
theorem dX10_writeScript_62 : decode cX10_writeScript 62 = .ok (.iaload, 1) := by decide +kernel
theorem dX10_writeScript_63 : decode cX10_writeScript 63 = .ok (.goto 9, 3) := by decide +kernel
theorem dX10_writeScript_66 : decode cX10_writeScript 66 = .ok (.aload_n 0, 1) := by decide +kernel
theorem dX10_writeScript_67 : decode cX10_writeScript 67 = .ok (.getfield 80, 3) := by decide +kernel
theorem dX10_writeScript_70 : decode cX10_writeScript 70 = .ok (.iload_n 2, 1) := by decide +kernel
theorem dX10_writeScript_71 : decode cX10_writeScript 71 = .ok (.iaload, 1) := by decide +kernel
theorem dX10_writeScript_72 : decode cX10_writeScript 72 = .ok (.invokevirtual 167, 3) := by decide +kernel
theorem dX10_writeScript_75 : decode cX10_writeScript 75 = .ok (.pop, 1) := by decide +kernel
theorem dX10_writeScript_76 : decode cX10_writeScript 76 = .ok (.iinc 2 1, 3) := by decide +kernel
theorem dX10_writeScript_79 : decode cX10_writeScript 79 = .ok (.goto (-51), 3) := by decide +kernel
theorem dX10_writeScript_82 : decode cX10_writeScript 82 = .ok (.aload_n 0, 1) := by decide +kernel
theorem dX10_writeScript_83 : decode cX10_writeScript 83 = .ok (.aload_n 1, 1) := by decide +kernel
theorem dX10_writeScript_84 : decode cX10_writeScript 84 = .ok (.invokevirtual 182, 3) := by decide +kernel
theorem dX10_writeScript_87 : decode cX10_writeScript 87 = .ok (.putfield 43, 3) := by decide +kernel
theorem dX10_writeScript_90 : decode cX10_writeScript 90 = .ok (.aload_n 0, 1) := by decide +kernel
theorem dX10_writeScript_91 : decode cX10_writeScript 91 = .ok (.getfield 43, 3) := by decide +kernel
theorem dX10_writeScript_94 : decode cX10_writeScript 94 = .ok (.invokevirtual 186, 3) := by decide +kernel
theorem dX10_writeScript_97 : decode cX10_writeScript 97 = .ok (.ireturn, 1) := by decide +kernel
set_option maxRecDepth 20000 in
theorem ggX10_charAt_J0_length_8abf5 : GoodIn wsX10_charAt wsJ0_length_8abf5 := goodIn_r _ [7, 8, 9, 10, 11, 6, 12, 13, 14, 91, 92, 93, 94] (by decide +kernel) (by decide +kernel)
set_option maxRecDepth 20000 in
theorem gX10_charAt_J0_length_8abf5 : GoodIn wsX10_charAt (wsV RX10 186 RJ0 yJ0_length_8abf5 wsJ0_length_8abf5) := goodIn_app (goodIn_of _ (by decide +kernel)) ggX10_charAt_J0_length_8abf5
set_option maxRecDepth 20000 in
theorem ggX10_charAt_X10_isBetween : GoodIn wsX10_charAt wsX10_isBetween := goodIn_r _ [18] (by decide +kernel) (by decide +kernel)
set_option maxRecDepth 20000 in
theorem gX10_charAt_X10_isBetween : GoodIn wsX10_charAt (va_wsS RX10 108 yX10_isBetween wsX10_isBetween) := goodIn_app (goodIn_of _ (by decide +kernel)) ggX10_charAt_X10_isBetween
set_option maxRecDepth 20000 in
theorem ggX10_charAt_J0_charAt_5068e : GoodIn wsX10_charAt wsJ0_charAt_5068e := goodIn_r _ [22, 8, 23, 24, 25, 6, 26, 13, 14, 27, 28, 29, 30, 31, 32, 33, 34, 35, 36, 37, 38, 39, 40, 41, 42, 43, 44, 45, 46, 47, 48, 49, 50, 51, 52, 53, 54, 55, 91, 92, 93, 94] (by decide +kernel) (by decide +kernel)
set_option maxRecDepth 20000 in
theorem gX10_charAt_J0_charAt_5068e : GoodIn wsX10_charAt (wsV RX10 198 RJ0 yJ0_charAt_5068e wsJ0_charAt_5068e) := goodIn_app (goodIn_of _ (by decide +kernel)) ggX10_charAt_J0_charAt_5068e
set_option maxRecDepth 20000 in
theorem ggX10_charAt_X10_fails : GoodIn wsX10_charAt wsX10_fails := goodIn_r _ [59, 1, 60, 61, 62, 63, 64, 65, 66, 67, 68, 69, 70, 71, 72, 73, 74, 75, 76, 77, 78, 79, 80, 81, 82, 83, 84, 85, 86, 87, 88, 89, 90] (by decide +kernel) (by decide +kernel)
set_option maxRecDepth 20000 in
theorem gX10_charAt_X10_fails : GoodIn wsX10_charAt (wsV RX10 126 RX10 yX10_fails wsX10_fails) := goodIn_app (goodIn_of _ (by decide +kernel)) ggX10_charAt_X10_fails
theorem dX10_charAt_0 : decode cX10_charAt 0 = .ok (.aload_n 0, 1) := by decide +kernel
theorem dX10_charAt_1 : decode cX10_charAt 1 = .ok (.iconst 0, 1) := by decide +kernel
theorem dX10_charAt_2 : decode cX10_charAt 2 = .ok (.putfield 105, 3) := by decide +kernel
theorem dX10_charAt_5 : decode cX10_charAt 5 = .ok (.iload_n 1, 1) := by decide +kernel
theorem dX10_charAt_6 : decode cX10_charAt 6 = .ok (.iconst 0, 1) := by decide +kernel
theorem dX10_charAt_7 : decode cX10_charAt 7 = .ok (.aload_n 0, 1) := by decide +kernel
theorem dX10_charAt_8 : decode cX10_charAt 8 = .ok (.getfield 43, 3) := by decide +kernel
theorem dX10_charAt_11 : decode cX10_charAt 11 = .ok (.invokevirtual 186, 3) := by decide +kernel
theorem dX10_charAt_14 : decode cX10_charAt 14 = .ok (.iconst 1, 1) := by decide +kernel
theorem dX10_charAt_15 : decode cX10_charAt 15 = .ok (.isub, 1) := by decide +kernel
theorem dX10_charAt_16 : decode cX10_charAt 16 = .ok (.invokestatic 108, 3) := by decide +kernel
theorem dX10_charAt_19 : decode cX10_charAt 19 = .ok (.ifCond .eq 14, 3) := by decide +kernel
theorem dX10_charAt_22 : decode cX10_charAt 22 = .ok (.aload_n 0, 1) := by decide +kernel
theorem dX10_charAt_23 : decode cX10_charAt 23 = .ok (.getfield 43, 3) := by decide +kernel
theorem dX10_charAt_26 : decode cX10_charAt 26 = .ok (.iload_n 1, 1) := by decide +kernel
theorem dX10_charAt_27 : decode cX10_charAt 27 = .ok (.invokevirtual 198, 3) := by decide +kernel
theorem dX10_charAt_30 : decode cX10_charAt 30 = .ok (.goto 9, 3) := by decide +kernel
theorem dX10_charAt_33 : decode cX10_charAt 33 = .ok (.aload_n 0, 1) := by decide +kernel
theorem dX10_charAt_34 : decode cX10_charAt 34 = .ok (.iconst 1, 1) := by decide +kernel
theorem dX10_charAt_35 : decode cX10_charAt 35 = .ok (.invokevirtual 126, 3) := by decide +kernel
theorem dX10_charAt_38 : decode cX10_charAt 38 = .ok (.i2c, 1) := by decide +kernel
theorem dX10_charAt_39 : decode cX10_charAt 39 = .ok (.ireturn, 1) := by decide +kernel
set_option maxRecDepth 20000 in
theorem ggX10_isLabel_X10_isBetween : GoodIn wsX10_isLabel wsX10_isBetween := goodIn_r _ [4] (by decide +kernel) (by decide +kernel)
set_option maxRecDepth 20000 in
theorem gX10_isLabel_X10_isBetween : GoodIn wsX10_isLabel (va_wsS RX10 108 yX10_isBetween wsX10_isBetween) := goodIn_app (goodIn_of _ (by decide +kernel)) ggX10_isLabel_X10_isBetween
theorem dX10_isLabel_0 : decode cX10_isLabel 0 = .ok (.iload_n 0, 1) := by decide +kernel
theorem dX10_isLabel_1 : decode cX10_isLabel 1 = .ok (.bipush 97, 2) := by decide +kernel
theorem dX10_isLabel_3 : decode cX10_isLabel 3 = .ok (.bipush 122, 2) := by decide +kernel
theorem dX10_isLabel_5 : decode cX10_isLabel 5 = .ok (.invokestatic 108, 3) := by decide +kernel
theorem dX10_isLabel_8 : decode cX10_isLabel 8 = .ok (.ireturn, 1) := by decide +kernel
set_option maxRecDepth 20000 in
theorem ggX10_addNode_X10_isNowhere : GoodIn wsX10_addNode wsX10_isNowhere := goodIn_r _ [6, 7, 8, 9, 10, 5, 11, 1, 12, 13, 14, 15, 16, 17, 49, 50, 51, 52, 53, 54, 55, 56, 57, 58, 59, 60, 61, 62, 63, 64, 65, 66, 67, 68, 69, 70, 71, 72, 73, 74, 75, 76, 77, 78, 79, 80, 81, 82, 83, 84] (by decide +kernel) (by decide +kernel)
set_option maxRecDepth 20000 in
theorem gX10_addNode_X10_isNowhere : GoodIn wsX10_addNode (wsV RX10 202 RX10 yX10_isNowhere wsX10_isNowhere) := goodIn_app (goodIn_of _ (by decide +kernel)) ggX10_addNode_X10_isNowhere
set_option maxRecDepth 20000 in
theorem ggX10_addNode_X9_kids : GoodIn wsX10_addNode wsX9_kids := goodIn_r _ [21, 22, 23, 24, 25, 26, 27, 19, 28, 80, 81, 82, 83, 84] (by decide +kernel) (by decide +kernel)
set_option maxRecDepth 20000 in
theorem gX10_addNode_X9_kids_n173 : GoodIn wsX10_addNode (wsX9_kids) := ggX10_addNode_X9_kids
set_option maxRecDepth 20000 in
theorem ggX10_addNode_X10_isBetween : GoodIn wsX10_addNode wsX10_isBetween := goodIn_r _ [17] (by decide +kernel) (by decide +kernel)
set_option maxRecDepth 20000 in
theorem gX10_addNode_X10_isBetween : GoodIn wsX10_addNode (va_wsS RX10 108 yX10_isBetween wsX10_isBetween) := goodIn_app (goodIn_of _ (by decide +kernel)) ggX10_addNode_X10_isBetween
set_option maxRecDepth 20000 in
theorem ggX10_addNode_X10_fails : GoodIn wsX10_addNode wsX10_fails := goodIn_r _ [32, 7, 49, 50, 51, 52, 53, 54, 55, 56, 57, 58, 59, 60, 61, 62, 63, 64, 65, 66, 67, 68, 69, 70, 71, 72, 73, 74, 75, 76, 77, 78, 79] (by decide +kernel) (by decide +kernel)
set_option maxRecDepth 20000 in
theorem gX10_addNode_X10_fails : GoodIn wsX10_addNode (wsV RX10 126 RX10 yX10_fails wsX10_fails) := goodIn_app (goodIn_of _ (by decide +kernel)) ggX10_addNode_X10_fails
set_option maxRecDepth 20000 in
theorem ggX10_addNode_X10_isLabel : GoodIn wsX10_addNode wsX10_isLabel := goodIn_r _ [35, 15, 16, 5, 17] (by decide +kernel) (by decide +kernel)
set_option maxRecDepth 20000 in
theorem gX10_addNode_X10_isLabel : GoodIn wsX10_addNode (va_wsS RX10 205 yX10_isLabel wsX10_isLabel) := goodIn_app (goodIn_of _ (by decide +kernel)) ggX10_addNode_X10_isLabel
set_option maxRecDepth 20000 in
theorem ggX10_addNode_X9_end : GoodIn wsX10_addNode wsX9_end := goodIn_r _ [38, 23, 24, 80, 81, 82, 83, 84] (by decide +kernel) (by decide +kernel)
set_option maxRecDepth 20000 in
theorem gX10_addNode_X9_end_n1 : GoodIn wsX10_addNode (wsX9_end) := ggX10_addNode_X9_end
set_option maxRecDepth 20000 in
theorem ggX10_addNode_X9_moves : GoodIn wsX10_addNode wsX9_moves := goodIn_r _ [41, 23, 42, 43, 44, 24, 45, 46, 47, 19, 48, 80, 81, 82, 83, 84] (by decide +kernel) (by decide +kernel)
set_option maxRecDepth 20000 in
theorem gX10_addNode_X9_moves_n209 : GoodIn wsX10_addNode (wsX9_moves) := ggX10_addNode_X9_moves
set_option maxRecDepth 20000 in
theorem ggX10_addNode_X9_sets : GoodIn wsX10_addNode wsX9_sets := goodIn_r _ [48, 42, 43, 44, 24, 80, 81, 82, 83, 84] (by decide +kernel) (by decide +kernel)
set_option maxRecDepth 20000 in
theorem gX10_addNode_X9_sets_n213 : GoodIn wsX10_addNode (wsX9_sets) := ggX10_addNode_X9_sets
theorem dX10_addNode_0 : decode cX10_addNode 0 = .ok (.aload_n 0, 1) := by decide +kernel
theorem dX10_addNode_1 : decode cX10_addNode 1 = .ok (.iload_n 1, 1) := by decide +kernel
theorem dX10_addNode_2 : decode cX10_addNode 2 = .ok (.iload_n 2, 1) := by decide +kernel
theorem dX10_addNode_3 : decode cX10_addNode 3 = .ok (.invokevirtual 202, 3) := by decide +kernel
theorem dX10_addNode_6 : decode cX10_addNode 6 = .ok (.ifCond .eq 5, 3) := by decide +kernel
theorem dX10_addNode_9 : decode cX10_addNode 9 = .ok (.iconst 0, 1) := by decide +kernel
theorem dX10_addNode_10 : decode cX10_addNode 10 = .ok (.ireturn, 1) := by decide +kernel
theorem dX10_addNode_11 : decode cX10_addNode 11 = .ok (.aload_n 0, 1) := by decide +kernel
theorem dX10_addNode_12 : decode cX10_addNode 12 = .ok (.getfield 27, 3) := by decide +kernel
theorem dX10_addNode_15 : decode cX10_addNode 15 = .ok (.iload_n 1, 1) := by decide +kernel
theorem dX10_addNode_16 : decode cX10_addNode 16 = .ok (.aaload, 1) := by decide +kernel
theorem dX10_addNode_17 : decode cX10_addNode 17 = .ok (.astore 5, 2) := by decide +kernel
theorem dX10_addNode_19 : decode cX10_addNode 19 = .ok (.aload 5, 2) := by decide +kernel
theorem dX10_addNode_21 : decode cX10_addNode 21 = .ok (.iload_n 2, 1) := by decide +kernel
theorem dX10_addNode_22 : decode cX10_addNode 22 = .ok (.invokevirtual 173, 3) := by decide +kernel
theorem dX10_addNode_25 : decode cX10_addNode 25 = .ok (.astore 6, 2) := by decide +kernel
theorem dX10_addNode_27 : decode cX10_addNode 27 = .ok (.iload_n 3, 1) := by decide +kernel
theorem dX10_addNode_28 : decode cX10_addNode 28 = .ok (.iconst 0, 1) := by decide +kernel
theorem dX10_addNode_29 : decode cX10_addNode 29 = .ok (.aload 6, 2) := by decide +kernel
theorem dX10_addNode_31 : decode cX10_addNode 31 = .ok (.arraylength, 1) := by decide +kernel
theorem dX10_addNode_32 : decode cX10_addNode 32 = .ok (.invokestatic 108, 3) := by decide +kernel
theorem dX10_addNode_35 : decode cX10_addNode 35 = .ok (.ifCond .ne 9, 3) := by decide +kernel
theorem dX10_addNode_38 : decode cX10_addNode 38 = .ok (.aload_n 0, 1) := by decide +kernel
theorem dX10_addNode_39 : decode cX10_addNode 39 = .ok (.iconst 1, 1) := by decide +kernel
theorem dX10_addNode_40 : decode cX10_addNode 40 = .ok (.invokevirtual 126, 3) := by decide +kernel
theorem dX10_addNode_43 : decode cX10_addNode 43 = .ok (.ireturn, 1) := by decide +kernel
theorem dX10_addNode_44 : decode cX10_addNode 44 = .ok (.iload 4, 2) := by decide +kernel
theorem dX10_addNode_46 : decode cX10_addNode 46 = .ok (.invokestatic 205, 3) := by decide +kernel
theorem dX10_addNode_49 : decode cX10_addNode 49 = .ok (.ifCond .ne 9, 3) := by decide +kernel
theorem dX10_addNode_52 : decode cX10_addNode 52 = .ok (.aload_n 0, 1) := by decide +kernel
theorem dX10_addNode_53 : decode cX10_addNode 53 = .ok (.iconst 2, 1) := by decide +kernel
theorem dX10_addNode_54 : decode cX10_addNode 54 = .ok (.invokevirtual 126, 3) := by decide +kernel
theorem dX10_addNode_57 : decode cX10_addNode 57 = .ok (.ireturn, 1) := by decide +kernel
theorem dX10_addNode_58 : decode cX10_addNode 58 = .ok (.aload 5, 2) := by decide +kernel
theorem dX10_addNode_60 : decode cX10_addNode 60 = .ok (.getfield 116, 3) := by decide +kernel
theorem dX10_addNode_63 : decode cX10_addNode 63 = .ok (.bipush 20, 2) := by decide +kernel
theorem dX10_addNode_65 : decode cX10_addNode 65 = .ok (.if_icmp .ne 9, 3) := by decide +kernel
theorem dX10_addNode_68 : decode cX10_addNode 68 = .ok (.aload_n 0, 1) := by decide +kernel
theorem dX10_addNode_69 : decode cX10_addNode 69 = .ok (.iconst 3, 1) := by decide +kernel
theorem dX10_addNode_70 : decode cX10_addNode 70 = .ok (.invokevirtual 126, 3) := by decide +kernel
theorem dX10_addNode_73 : decode cX10_addNode 73 = .ok (.ireturn, 1) := by decide +kernel
theorem dX10_addNode_74 : decode cX10_addNode 74 = .ok (.iload_n 3, 1) := by decide +kernel
theorem dX10_addNode_75 : decode cX10_addNode 75 = .ok (.aload 6, 2) := by decide +kernel
theorem dX10_addNode_77 : decode cX10_addNode 77 = .ok (.arraylength, 1) := by decide +kernel
theorem dX10_addNode_78 : decode cX10_addNode 78 = .ok (.if_icmp .ge 10, 3) := by decide +kernel
theorem dX10_addNode_81 : decode cX10_addNode 81 = .ok (.aload 6, 2) := by decide +kernel
theorem dX10_addNode_83 : decode cX10_addNode 83 = .ok (.iload_n 3, 1) := by decide +kernel
theorem dX10_addNode_84 : decode cX10_addNode 84 = .ok (.iaload, 1) := by decide +kernel
theorem dX10_addNode_85 : decode cX10_addNode 85 = .ok (.goto 9, 3) := by decide +kernel
theorem dX10_addNode_88 : decode cX10_addNode 88 = .ok (.aload 5, 2) := by decide +kernel
theorem dX10_addNode_90 : decode cX10_addNode 90 = .ok (.iload_n 2, 1) := by decide +kernel
theorem dX10_addNode_91 : decode cX10_addNode 91 = .ok (.invokevirtual 1, 3) := by decide +kernel
theorem dX10_addNode_94 : decode cX10_addNode 94 = .ok (.istore 7, 2) := by decide +kernel
theorem dX10_addNode_96 : decode cX10_addNode 96 = .ok (.aload 5, 2) := by decide +kernel
theorem dX10_addNode_98 : decode cX10_addNode 98 = .ok (.iload 7, 2) := by decide +kernel
theorem dX10_addNode_100 : decode cX10_addNode 100 = .ok (.iconst 1, 1) := by decide +kernel
theorem dX10_addNode_101 : decode cX10_addNode 101 = .ok (.invokevirtual 209, 3) := by decide +kernel
theorem dX10_addNode_104 : decode cX10_addNode 104 = .ok (.aload 5, 2) := by decide +kernel
theorem dX10_addNode_106 : decode cX10_addNode 106 = .ok (.iload 7, 2) := by decide +kernel
theorem dX10_addNode_108 : decode cX10_addNode 108 = .ok (.iload 4, 2) := by decide +kernel
theorem dX10_addNode_110 : decode cX10_addNode 110 = .ok (.iconst 0, 1) := by decide +kernel
theorem dX10_addNode_111 : decode cX10_addNode 111 = .ok (.iconst 0, 1) := by decide +kernel
theorem dX10_addNode_112 : decode cX10_addNode 112 = .ok (.iload_n 2, 1) := by decide +kernel
theorem dX10_addNode_113 : decode cX10_addNode 113 = .ok (.invokevirtual 213, 3) := by decide +kernel
theorem dX10_addNode_116 : decode cX10_addNode 116 = .ok (.iload 7, 2) := by decide +kernel
theorem dX10_addNode_118 : decode cX10_addNode 118 = .ok (.ireturn, 1) := by decide +kernel
set_option maxRecDepth 20000 in
theorem ggX10_removeNode_X10_isNowhere : GoodIn wsX10_removeNode wsX10_isNowhere := goodIn_r _ [6, 7, 8, 9, 10, 5, 11, 1, 12, 13, 14, 15, 16, 17, 38, 39, 40, 41, 42, 43, 44, 45, 46, 47, 48, 49, 50, 51, 52, 53, 54, 55, 56, 57, 58, 59, 60, 61, 62, 63, 64, 65, 66, 67, 68, 69, 70, 71, 72, 73] (by decide +kernel) (by decide +kernel)
set_option maxRecDepth 20000 in
theorem gX10_removeNode_X10_isNowhere : GoodIn wsX10_removeNode (wsV RX10 202 RX10 yX10_isNowhere wsX10_isNowhere) := goodIn_app (goodIn_of _ (by decide +kernel)) ggX10_removeNode_X10_isNowhere
set_option maxRecDepth 20000 in
theorem ggX10_removeNode_X10_fails : GoodIn wsX10_removeNode wsX10_fails := goodIn_r _ [21, 7, 38, 39, 40, 41, 42, 43, 44, 45, 46, 47, 48, 49, 50, 51, 52, 53, 54, 55, 56, 57, 58, 59, 60, 61, 62, 63, 64, 65, 66, 67, 68] (by decide +kernel) (by decide +kernel)
set_option maxRecDepth 20000 in
theorem gX10_removeNode_X10_fails : GoodIn wsX10_removeNode (wsV RX10 126 RX10 yX10_fails wsX10_fails) := goodIn_app (goodIn_of _ (by decide +kernel)) ggX10_removeNode_X10_fails
set_option maxRecDepth 20000 in
theorem ggX10_removeNode_X9_end : GoodIn wsX10_removeNode wsX9_end := goodIn_r _ [25, 26, 27, 69, 70, 71, 72, 73] (by decide +kernel) (by decide +kernel)
set_option maxRecDepth 20000 in
theorem gX10_removeNode_X9_end_n1 : GoodIn wsX10_removeNode (wsX9_end) := ggX10_removeNode_X9_end
set_option maxRecDepth 20000 in
theorem ggX10_removeNode_X9_moves : GoodIn wsX10_removeNode wsX9_moves := goodIn_r _ [30, 26, 31, 32, 33, 27, 34, 35, 36, 23, 37, 69, 70, 71, 72, 73] (by decide +kernel) (by decide +kernel)
set_option maxRecDepth 20000 in
theorem gX10_removeNode_X9_moves_n209 : GoodIn wsX10_removeNode (wsX9_moves) := ggX10_removeNode_X9_moves
theorem dX10_removeNode_0 : decode cX10_removeNode 0 = .ok (.aload_n 0, 1) := by decide +kernel
theorem dX10_removeNode_1 : decode cX10_removeNode 1 = .ok (.iload_n 1, 1) := by decide +kernel
theorem dX10_removeNode_2 : decode cX10_removeNode 2 = .ok (.iload_n 2, 1) := by decide +kernel
theorem dX10_removeNode_3 : decode cX10_removeNode 3 = .ok (.invokevirtual 202, 3) := by decide +kernel
theorem dX10_removeNode_6 : decode cX10_removeNode 6 = .ok (.ifCond .eq 5, 3) := by decide +kernel
theorem dX10_removeNode_9 : decode cX10_removeNode 9 = .ok (.iconst 0, 1) := by decide +kernel
theorem dX10_removeNode_10 : decode cX10_removeNode 10 = .ok (.ireturn, 1) := by decide +kernel
theorem dX10_removeNode_11 : decode cX10_removeNode 11 = .ok (.iload_n 2, 1) := by decide +kernel
theorem dX10_removeNode_12 : decode cX10_removeNode 12 = .ok (.ifCond .ne 9, 3) := by decide +kernel
theorem dX10_removeNode_15 : decode cX10_removeNode 15 = .ok (.aload_n 0, 1) := by decide +kernel
theorem dX10_removeNode_16 : decode cX10_removeNode 16 = .ok (.iconst 2, 1) := by decide +kernel
theorem dX10_removeNode_17 : decode cX10_removeNode 17 = .ok (.invokevirtual 126, 3) := by decide +kernel
theorem dX10_removeNode_20 : decode cX10_removeNode 20 = .ok (.ireturn, 1) := by decide +kernel
theorem dX10_removeNode_21 : decode cX10_removeNode 21 = .ok (.aload_n 0, 1) := by decide +kernel
theorem dX10_removeNode_22 : decode cX10_removeNode 22 = .ok (.getfield 27, 3) := by decide +kernel
theorem dX10_removeNode_25 : decode cX10_removeNode 25 = .ok (.iload_n 1, 1) := by decide +kernel
theorem dX10_removeNode_26 : decode cX10_removeNode 26 = .ok (.aaload, 1) := by decide +kernel
theorem dX10_removeNode_27 : decode cX10_removeNode 27 = .ok (.astore_n 3, 1) := by decide +kernel
theorem dX10_removeNode_28 : decode cX10_removeNode 28 = .ok (.aload_n 3, 1) := by decide +kernel
theorem dX10_removeNode_29 : decode cX10_removeNode 29 = .ok (.iload_n 2, 1) := by decide +kernel
theorem dX10_removeNode_30 : decode cX10_removeNode 30 = .ok (.iload_n 2, 1) := by decide +kernel
theorem dX10_removeNode_31 : decode cX10_removeNode 31 = .ok (.aload_n 3, 1) := by decide +kernel
theorem dX10_removeNode_32 : decode cX10_removeNode 32 = .ok (.iload_n 2, 1) := by decide +kernel
theorem dX10_removeNode_33 : decode cX10_removeNode 33 = .ok (.invokevirtual 1, 3) := by decide +kernel
theorem dX10_removeNode_36 : decode cX10_removeNode 36 = .ok (.isub, 1) := by decide +kernel
theorem dX10_removeNode_37 : decode cX10_removeNode 37 = .ok (.invokevirtual 209, 3) := by decide +kernel
theorem dX10_removeNode_40 : decode cX10_removeNode 40 = .ok (.aload_n 3, 1) := by decide +kernel
theorem dX10_removeNode_41 : decode cX10_removeNode 41 = .ok (.getfield 116, 3) := by decide +kernel
theorem dX10_removeNode_44 : decode cX10_removeNode 44 = .ok (.ireturn, 1) := by decide +kernel
set_option maxRecDepth 20000 in
theorem ggX10_setLabel_X10_isNowhere : GoodIn wsX10_setLabel wsX10_isNowhere := goodIn_r _ [6, 7, 8, 9, 10, 5, 11, 1, 12, 13, 14, 15, 16, 17, 25, 26, 27, 28, 29, 30, 31, 32, 33, 34, 35, 36, 37, 38, 39, 40, 41, 42, 43, 44, 45, 46, 47, 48, 49, 50, 51, 52, 53, 54, 55, 56, 57, 58, 59, 60] (by decide +kernel) (by decide +kernel)
set_option maxRecDepth 20000 in
theorem gX10_setLabel_X10_isNowhere : GoodIn wsX10_setLabel (wsV RX10 202 RX10 yX10_isNowhere wsX10_isNowhere) := goodIn_app (goodIn_of _ (by decide +kernel)) ggX10_setLabel_X10_isNowhere
set_option maxRecDepth 20000 in
theorem ggX10_setLabel_X10_isLabel : GoodIn wsX10_setLabel wsX10_isLabel := goodIn_r _ [20, 15, 16, 5, 17] (by decide +kernel) (by decide +kernel)
set_option maxRecDepth 20000 in
theorem gX10_setLabel_X10_isLabel : GoodIn wsX10_setLabel (va_wsS RX10 205 yX10_isLabel wsX10_isLabel) := goodIn_app (goodIn_of _ (by decide +kernel)) ggX10_setLabel_X10_isLabel
set_option maxRecDepth 20000 in
theorem ggX10_setLabel_X10_fails : GoodIn wsX10_setLabel wsX10_fails := goodIn_r _ [24, 7, 25, 26, 27, 28, 29, 30, 31, 32, 33, 34, 35, 36, 37, 38, 39, 40, 41, 42, 43, 44, 45, 46, 47, 48, 49, 50, 51, 52, 53, 54, 55] (by decide +kernel) (by decide +kernel)
set_option maxRecDepth 20000 in
theorem gX10_setLabel_X10_fails : GoodIn wsX10_setLabel (wsV RX10 126 RX10 yX10_fails wsX10_fails) := goodIn_app (goodIn_of _ (by decide +kernel)) ggX10_setLabel_X10_fails
theorem dX10_setLabel_0 : decode cX10_setLabel 0 = .ok (.aload_n 0, 1) := by decide +kernel
theorem dX10_setLabel_1 : decode cX10_setLabel 1 = .ok (.iload_n 1, 1) := by decide +kernel
theorem dX10_setLabel_2 : decode cX10_setLabel 2 = .ok (.iload_n 2, 1) := by decide +kernel
theorem dX10_setLabel_3 : decode cX10_setLabel 3 = .ok (.invokevirtual 202, 3) := by decide +kernel
theorem dX10_setLabel_6 : decode cX10_setLabel 6 = .ok (.ifCond .eq 5, 3) := by decide +kernel
theorem dX10_setLabel_9 : decode cX10_setLabel 9 = .ok (.iconst 0, 1) := by decide +kernel
theorem dX10_setLabel_10 : decode cX10_setLabel 10 = .ok (.ireturn, 1) := by decide +kernel
theorem dX10_setLabel_11 : decode cX10_setLabel 11 = .ok (.iload_n 3, 1) := by decide +kernel
theorem dX10_setLabel_12 : decode cX10_setLabel 12 = .ok (.invokestatic 205, 3) := by decide +kernel
theorem dX10_setLabel_15 : decode cX10_setLabel 15 = .ok (.ifCond .ne 9, 3) := by decide +kernel
theorem dX10_setLabel_18 : decode cX10_setLabel 18 = .ok (.aload_n 0, 1) := by decide +kernel
theorem dX10_setLabel_19 : decode cX10_setLabel 19 = .ok (.iconst 2, 1) := by decide +kernel
theorem dX10_setLabel_20 : decode cX10_setLabel 20 = .ok (.invokevirtual 126, 3) := by decide +kernel
theorem dX10_setLabel_23 : decode cX10_setLabel 23 = .ok (.ireturn, 1) := by decide +kernel
theorem dX10_setLabel_24 : decode cX10_setLabel 24 = .ok (.aload_n 0, 1) := by decide +kernel
theorem dX10_setLabel_25 : decode cX10_setLabel 25 = .ok (.getfield 27, 3) := by decide +kernel
theorem dX10_setLabel_28 : decode cX10_setLabel 28 = .ok (.iload_n 1, 1) := by decide +kernel
theorem dX10_setLabel_29 : decode cX10_setLabel 29 = .ok (.aaload, 1) := by decide +kernel
theorem dX10_setLabel_30 : decode cX10_setLabel 30 = .ok (.astore 4, 2) := by decide +kernel
theorem dX10_setLabel_32 : decode cX10_setLabel 32 = .ok (.aload 4, 2) := by decide +kernel
theorem dX10_setLabel_34 : decode cX10_setLabel 34 = .ok (.getfield 11, 3) := by decide +kernel
theorem dX10_setLabel_37 : decode cX10_setLabel 37 = .ok (.iload_n 2, 1) := by decide +kernel
theorem dX10_setLabel_38 : decode cX10_setLabel 38 = .ok (.iload_n 3, 1) := by decide +kernel
theorem dX10_setLabel_39 : decode cX10_setLabel 39 = .ok (.iastore, 1) := by decide +kernel
theorem dX10_setLabel_40 : decode cX10_setLabel 40 = .ok (.iconst 0, 1) := by decide +kernel
theorem dX10_setLabel_41 : decode cX10_setLabel 41 = .ok (.istore 5, 2) := by decide +kernel
theorem dX10_setLabel_43 : decode cX10_setLabel 43 = .ok (.iconst 0, 1) := by decide +kernel
theorem dX10_setLabel_44 : decode cX10_setLabel 44 = .ok (.istore 6, 2) := by decide +kernel
theorem dX10_setLabel_46 : decode cX10_setLabel 46 = .ok (.iload 6, 2) := by decide +kernel
theorem dX10_setLabel_48 : decode cX10_setLabel 48 = .ok (.aload 4, 2) := by decide +kernel
theorem dX10_setLabel_50 : decode cX10_setLabel 50 = .ok (.getfield 116, 3) := by decide +kernel
theorem dX10_setLabel_53 : decode cX10_setLabel 53 = .ok (.if_icmp .ge 31, 3) := by decide +kernel
theorem dX10_setLabel_56 : decode cX10_setLabel 56 = .ok (.iload 5, 2) := by decide +kernel
theorem dX10_setLabel_58 : decode cX10_setLabel 58 = .ok (.aload 4, 2) := by decide +kernel
theorem dX10_setLabel_60 : decode cX10_setLabel 60 = .ok (.getfield 11, 3) := by decide +kernel
theorem dX10_setLabel_63 : decode cX10_setLabel 63 = .ok (.iload 6, 2) := by decide +kernel
theorem dX10_setLabel_65 : decode cX10_setLabel 65 = .ok (.iaload, 1) := by decide +kernel
theorem dX10_setLabel_66 : decode cX10_setLabel 66 = .ok (.iload_n 3, 1) := by decide +kernel
theorem dX10_setLabel_67 : decode cX10_setLabel 67 = .ok (.if_icmp .ne 7, 3) := by decide +kernel
theorem dX10_setLabel_70 : decode cX10_setLabel 70 = .ok (.iconst 1, 1) := by decide +kernel
theorem dX10_setLabel_71 : decode cX10_setLabel 71 = .ok (.goto 4, 3) := by decide +kernel
theorem dX10_setLabel_74 : decode cX10_setLabel 74 = .ok (.iconst 0, 1) := by decide +kernel
theorem dX10_setLabel_75 : decode cX10_setLabel 75 = .ok (.iadd, 1) := by decide +kernel
theorem dX10_setLabel_76 : decode cX10_setLabel 76 = .ok (.istore 5, 2) := by decide +kernel
theorem dX10_setLabel_78 : decode cX10_setLabel 78 = .ok (.iinc 6 1, 3) := by decide +kernel
theorem dX10_setLabel_81 : decode cX10_setLabel 81 = .ok (.goto (-35), 3) := by decide +kernel
theorem dX10_setLabel_84 : decode cX10_setLabel 84 = .ok (.iload 5, 2) := by decide +kernel
theorem dX10_setLabel_86 : decode cX10_setLabel 86 = .ok (.ireturn, 1) := by decide +kernel
set_option maxRecDepth 20000 in
theorem ggX10_setKey_X10_isNowhere : GoodIn wsX10_setKey wsX10_isNowhere := goodIn_r _ [6, 7, 8, 9, 10, 5, 11, 1, 12, 13, 14, 15, 16, 17, 29, 30, 31, 32, 33, 34, 35, 36, 37, 38, 39, 40, 41, 42, 43, 44, 45, 46, 47, 48, 49, 50, 51, 52, 53, 54, 55, 56, 57, 58, 59, 60, 61, 62, 63, 64] (by decide +kernel) (by decide +kernel)
set_option maxRecDepth 20000 in
theorem gX10_setKey_X10_isNowhere : GoodIn wsX10_setKey (wsV RX10 202 RX10 yX10_isNowhere wsX10_isNowhere) := goodIn_app (goodIn_of _ (by decide +kernel)) ggX10_setKey_X10_isNowhere
set_option maxRecDepth 20000 in
theorem ggX10_setKey_X10_isBetween : GoodIn wsX10_setKey wsX10_isBetween := goodIn_r _ [17] (by decide +kernel) (by decide +kernel)
set_option maxRecDepth 20000 in
theorem gX10_setKey_X10_isBetween : GoodIn wsX10_setKey (va_wsS RX10 108 yX10_isBetween wsX10_isBetween) := goodIn_app (goodIn_of _ (by decide +kernel)) ggX10_setKey_X10_isBetween
set_option maxRecDepth 20000 in
theorem ggX10_setKey_X10_fails : GoodIn wsX10_setKey wsX10_fails := goodIn_r _ [21, 7, 29, 30, 31, 32, 33, 34, 35, 36, 37, 38, 39, 40, 41, 42, 43, 44, 45, 46, 47, 48, 49, 50, 51, 52, 53, 54, 55, 56, 57, 58, 59] (by decide +kernel) (by decide +kernel)
set_option maxRecDepth 20000 in
theorem gX10_setKey_X10_fails : GoodIn wsX10_setKey (wsV RX10 126 RX10 yX10_fails wsX10_fails) := goodIn_app (goodIn_of _ (by decide +kernel)) ggX10_setKey_X10_fails
set_option maxRecDepth 20000 in
theorem ggX10_setKey_X9_isUsed : GoodIn wsX10_setKey wsX9_isUsed := goodIn_r _ [25, 26, 27, 28, 60, 61, 62, 63, 64] (by decide +kernel) (by decide +kernel)
set_option maxRecDepth 20000 in
theorem gX10_setKey_X9_isUsed_n146 : GoodIn wsX10_setKey (wsX9_isUsed) := ggX10_setKey_X9_isUsed
theorem dX10_setKey_0 : decode cX10_setKey 0 = .ok (.aload_n 0, 1) := by decide +kernel
theorem dX10_setKey_1 : decode cX10_setKey 1 = .ok (.iload_n 1, 1) := by decide +kernel
theorem dX10_setKey_2 : decode cX10_setKey 2 = .ok (.iload_n 2, 1) := by decide +kernel
theorem dX10_setKey_3 : decode cX10_setKey 3 = .ok (.invokevirtual 202, 3) := by decide +kernel
theorem dX10_setKey_6 : decode cX10_setKey 6 = .ok (.ifCond .eq 5, 3) := by decide +kernel
theorem dX10_setKey_9 : decode cX10_setKey 9 = .ok (.iconst 0, 1) := by decide +kernel
theorem dX10_setKey_10 : decode cX10_setKey 10 = .ok (.ireturn, 1) := by decide +kernel
theorem dX10_setKey_11 : decode cX10_setKey 11 = .ok (.iload_n 3, 1) := by decide +kernel
theorem dX10_setKey_12 : decode cX10_setKey 12 = .ok (.iconst 0, 1) := by decide +kernel
theorem dX10_setKey_13 : decode cX10_setKey 13 = .ok (.bipush 9, 2) := by decide +kernel
theorem dX10_setKey_15 : decode cX10_setKey 15 = .ok (.invokestatic 108, 3) := by decide +kernel
theorem dX10_setKey_18 : decode cX10_setKey 18 = .ok (.ifCond .ne 9, 3) := by decide +kernel
theorem dX10_setKey_21 : decode cX10_setKey 21 = .ok (.aload_n 0, 1) := by decide +kernel
theorem dX10_setKey_22 : decode cX10_setKey 22 = .ok (.iconst 2, 1) := by decide +kernel
theorem dX10_setKey_23 : decode cX10_setKey 23 = .ok (.invokevirtual 126, 3) := by decide +kernel
theorem dX10_setKey_26 : decode cX10_setKey 26 = .ok (.ireturn, 1) := by decide +kernel
theorem dX10_setKey_27 : decode cX10_setKey 27 = .ok (.iload_n 2, 1) := by decide +kernel
theorem dX10_setKey_28 : decode cX10_setKey 28 = .ok (.ifCond .ne 9, 3) := by decide +kernel
theorem dX10_setKey_31 : decode cX10_setKey 31 = .ok (.aload_n 0, 1) := by decide +kernel
theorem dX10_setKey_32 : decode cX10_setKey 32 = .ok (.iconst 3, 1) := by decide +kernel
theorem dX10_setKey_33 : decode cX10_setKey 33 = .ok (.invokevirtual 126, 3) := by decide +kernel
theorem dX10_setKey_36 : decode cX10_setKey 36 = .ok (.ireturn, 1) := by decide +kernel
theorem dX10_setKey_37 : decode cX10_setKey 37 = .ok (.aload_n 0, 1) := by decide +kernel
theorem dX10_setKey_38 : decode cX10_setKey 38 = .ok (.getfield 27, 3) := by decide +kernel
theorem dX10_setKey_41 : decode cX10_setKey 41 = .ok (.iload_n 1, 1) := by decide +kernel
theorem dX10_setKey_42 : decode cX10_setKey 42 = .ok (.aaload, 1) := by decide +kernel
theorem dX10_setKey_43 : decode cX10_setKey 43 = .ok (.astore 4, 2) := by decide +kernel
theorem dX10_setKey_45 : decode cX10_setKey 45 = .ok (.aload 4, 2) := by decide +kernel
theorem dX10_setKey_47 : decode cX10_setKey 47 = .ok (.aload 4, 2) := by decide +kernel
theorem dX10_setKey_49 : decode cX10_setKey 49 = .ok (.getfield 7, 3) := by decide +kernel
theorem dX10_setKey_52 : decode cX10_setKey 52 = .ok (.iload_n 2, 1) := by decide +kernel
theorem dX10_setKey_53 : decode cX10_setKey 53 = .ok (.iaload, 1) := by decide +kernel
theorem dX10_setKey_54 : decode cX10_setKey 54 = .ok (.iload_n 3, 1) := by decide +kernel
theorem dX10_setKey_55 : decode cX10_setKey 55 = .ok (.iload_n 2, 1) := by decide +kernel
theorem dX10_setKey_56 : decode cX10_setKey 56 = .ok (.invokevirtual 146, 3) := by decide +kernel
theorem dX10_setKey_59 : decode cX10_setKey 59 = .ok (.ifCond .eq 9, 3) := by decide +kernel
theorem dX10_setKey_62 : decode cX10_setKey 62 = .ok (.aload_n 0, 1) := by decide +kernel
theorem dX10_setKey_63 : decode cX10_setKey 63 = .ok (.iconst 4, 1) := by decide +kernel
theorem dX10_setKey_64 : decode cX10_setKey 64 = .ok (.invokevirtual 126, 3) := by decide +kernel
theorem dX10_setKey_67 : decode cX10_setKey 67 = .ok (.ireturn, 1) := by decide +kernel
theorem dX10_setKey_68 : decode cX10_setKey 68 = .ok (.aload 4, 2) := by decide +kernel
theorem dX10_setKey_70 : decode cX10_setKey 70 = .ok (.getfield 14, 3) := by decide +kernel
theorem dX10_setKey_73 : decode cX10_setKey 73 = .ok (.iload_n 2, 1) := by decide +kernel
theorem dX10_setKey_74 : decode cX10_setKey 74 = .ok (.iaload, 1) := by decide +kernel
theorem dX10_setKey_75 : decode cX10_setKey 75 = .ok (.istore 5, 2) := by decide +kernel
theorem dX10_setKey_77 : decode cX10_setKey 77 = .ok (.aload 4, 2) := by decide +kernel
theorem dX10_setKey_79 : decode cX10_setKey 79 = .ok (.getfield 14, 3) := by decide +kernel
theorem dX10_setKey_82 : decode cX10_setKey 82 = .ok (.iload_n 2, 1) := by decide +kernel
theorem dX10_setKey_83 : decode cX10_setKey 83 = .ok (.iload_n 3, 1) := by decide +kernel
theorem dX10_setKey_84 : decode cX10_setKey 84 = .ok (.iastore, 1) := by decide +kernel
theorem dX10_setKey_85 : decode cX10_setKey 85 = .ok (.iload 5, 2) := by decide +kernel
theorem dX10_setKey_87 : decode cX10_setKey 87 = .ok (.ireturn, 1) := by decide +kernel
set_option maxRecDepth 20000 in
theorem ggX10_setValue_X10_isNowhere : GoodIn wsX10_setValue wsX10_isNowhere := goodIn_r _ [6, 7, 8, 9, 10, 5, 11, 1, 12, 13, 14, 15, 16, 17, 22, 23, 24, 25, 26, 27, 28, 29, 30, 31, 32, 33, 34, 35, 36, 37, 38, 39, 40, 41, 42, 43, 44, 45, 46, 47, 48, 49, 50, 51, 52, 53, 54, 55, 56, 57] (by decide +kernel) (by decide +kernel)
set_option maxRecDepth 20000 in
theorem gX10_setValue_X10_isNowhere : GoodIn wsX10_setValue (wsV RX10 202 RX10 yX10_isNowhere wsX10_isNowhere) := goodIn_app (goodIn_of _ (by decide +kernel)) ggX10_setValue_X10_isNowhere
set_option maxRecDepth 20000 in
theorem ggX10_setValue_X10_isBetween : GoodIn wsX10_setValue wsX10_isBetween := goodIn_r _ [17] (by decide +kernel) (by decide +kernel)
set_option maxRecDepth 20000 in
theorem gX10_setValue_X10_isBetween : GoodIn wsX10_setValue (va_wsS RX10 108 yX10_isBetween wsX10_isBetween) := goodIn_app (goodIn_of _ (by decide +kernel)) ggX10_setValue_X10_isBetween
set_option maxRecDepth 20000 in
theorem ggX10_setValue_X10_fails : GoodIn wsX10_setValue wsX10_fails := goodIn_r _ [21, 7, 22, 23, 24, 25, 26, 27, 28, 29, 30, 31, 32, 33, 34, 35, 36, 37, 38, 39, 40, 41, 42, 43, 44, 45, 46, 47, 48, 49, 50, 51, 52] (by decide +kernel) (by decide +kernel)
set_option maxRecDepth 20000 in
theorem gX10_setValue_X10_fails : GoodIn wsX10_setValue (wsV RX10 126 RX10 yX10_fails wsX10_fails) := goodIn_app (goodIn_of _ (by decide +kernel)) ggX10_setValue_X10_fails
theorem dX10_setValue_0 : decode cX10_setValue 0 = .ok (.aload_n 0, 1) := by decide +kernel
theorem dX10_setValue_1 : decode cX10_setValue 1 = .ok (.iload_n 1, 1) := by decide +kernel
theorem dX10_setValue_2 : decode cX10_setValue 2 = .ok (.iload_n 2, 1) := by decide +kernel
theorem dX10_setValue_3 : decode cX10_setValue 3 = .ok (.invokevirtual 202, 3) := by decide +kernel
theorem dX10_setValue_6 : decode cX10_setValue 6 = .ok (.ifCond .eq 5, 3) := by decide +kernel
theorem dX10_setValue_9 : decode cX10_setValue 9 = .ok (.iconst 0, 1) := by decide +kernel
theorem dX10_setValue_10 : decode cX10_setValue 10 = .ok (.ireturn, 1) := by decide +kernel
theorem dX10_setValue_11 : decode cX10_setValue 11 = .ok (.iload_n 3, 1) := by decide +kernel
theorem dX10_setValue_12 : decode cX10_setValue 12 = .ok (.iconst 0, 1) := by decide +kernel
theorem dX10_setValue_13 : decode cX10_setValue 13 = .ok (.bipush 99, 2) := by decide +kernel
theorem dX10_setValue_15 : decode cX10_setValue 15 = .ok (.invokestatic 108, 3) := by decide +kernel
theorem dX10_setValue_18 : decode cX10_setValue 18 = .ok (.ifCond .ne 9, 3) := by decide +kernel
theorem dX10_setValue_21 : decode cX10_setValue 21 = .ok (.aload_n 0, 1) := by decide +kernel
theorem dX10_setValue_22 : decode cX10_setValue 22 = .ok (.iconst 2, 1) := by decide +kernel
theorem dX10_setValue_23 : decode cX10_setValue 23 = .ok (.invokevirtual 126, 3) := by decide +kernel
theorem dX10_setValue_26 : decode cX10_setValue 26 = .ok (.ireturn, 1) := by decide +kernel
theorem dX10_setValue_27 : decode cX10_setValue 27 = .ok (.aload_n 0, 1) := by decide +kernel
theorem dX10_setValue_28 : decode cX10_setValue 28 = .ok (.getfield 27, 3) := by decide +kernel
theorem dX10_setValue_31 : decode cX10_setValue 31 = .ok (.iload_n 1, 1) := by decide +kernel
theorem dX10_setValue_32 : decode cX10_setValue 32 = .ok (.aaload, 1) := by decide +kernel
theorem dX10_setValue_33 : decode cX10_setValue 33 = .ok (.getfield 17, 3) := by decide +kernel
theorem dX10_setValue_36 : decode cX10_setValue 36 = .ok (.iload_n 2, 1) := by decide +kernel
theorem dX10_setValue_37 : decode cX10_setValue 37 = .ok (.iaload, 1) := by decide +kernel
theorem dX10_setValue_38 : decode cX10_setValue 38 = .ok (.istore 4, 2) := by decide +kernel
theorem dX10_setValue_40 : decode cX10_setValue 40 = .ok (.aload_n 0, 1) := by decide +kernel
theorem dX10_setValue_41 : decode cX10_setValue 41 = .ok (.getfield 27, 3) := by decide +kernel
theorem dX10_setValue_44 : decode cX10_setValue 44 = .ok (.iload_n 1, 1) := by decide +kernel
theorem dX10_setValue_45 : decode cX10_setValue 45 = .ok (.aaload, 1) := by decide +kernel
theorem dX10_setValue_46 : decode cX10_setValue 46 = .ok (.getfield 17, 3) := by decide +kernel
theorem dX10_setValue_49 : decode cX10_setValue 49 = .ok (.iload_n 2, 1) := by decide +kernel
theorem dX10_setValue_50 : decode cX10_setValue 50 = .ok (.iload_n 3, 1) := by decide +kernel
theorem dX10_setValue_51 : decode cX10_setValue 51 = .ok (.iastore, 1) := by decide +kernel
theorem dX10_setValue_52 : decode cX10_setValue 52 = .ok (.iload 4, 2) := by decide +kernel
theorem dX10_setValue_54 : decode cX10_setValue 54 = .ok (.ireturn, 1) := by decide +kernel
set_option maxRecDepth 20000 in
theorem ggX10_areNone_X10_isTree : GoodIn wsX10_areNone wsX10_isTree := goodIn_r _ [5, 6, 7, 4, 8] (by decide +kernel) (by decide +kernel)
set_option maxRecDepth 20000 in
theorem gX10_areNone_X10_isTree : GoodIn wsX10_areNone (va_wsS RX10 112 yX10_isTree wsX10_isTree) := goodIn_app (goodIn_of _ (by decide +kernel)) ggX10_areNone_X10_isTree
theorem dX10_areNone_0 : decode cX10_areNone 0 = .ok (.aload_n 0, 1) := by decide +kernel
theorem dX10_areNone_1 : decode cX10_areNone 1 = .ok (.iload_n 1, 1) := by decide +kernel
theorem dX10_areNone_2 : decode cX10_areNone 2 = .ok (.invokestatic 112, 3) := by decide +kernel
theorem dX10_areNone_5 : decode cX10_areNone 5 = .ok (.ifCond .eq 14, 3) := by decide +kernel
theorem dX10_areNone_8 : decode cX10_areNone 8 = .ok (.iload_n 2, 1) := by decide +kernel
theorem dX10_areNone_9 : decode cX10_areNone 9 = .ok (.invokestatic 112, 3) := by decide +kernel
theorem dX10_areNone_12 : decode cX10_areNone 12 = .ok (.ifCond .eq 7, 3) := by decide +kernel
theorem dX10_areNone_15 : decode cX10_areNone 15 = .ok (.iconst 0, 1) := by decide +kernel
theorem dX10_areNone_16 : decode cX10_areNone 16 = .ok (.goto 4, 3) := by decide +kernel
theorem dX10_areNone_19 : decode cX10_areNone 19 = .ok (.iconst 1, 1) := by decide +kernel
theorem dX10_areNone_20 : decode cX10_areNone 20 = .ok (.putfield 105, 3) := by decide +kernel
theorem dX10_areNone_23 : decode cX10_areNone 23 = .ok (.aload_n 0, 1) := by decide +kernel
theorem dX10_areNone_24 : decode cX10_areNone 24 = .ok (.getfield 105, 3) := by decide +kernel
theorem dX10_areNone_27 : decode cX10_areNone 27 = .ok (.ifCond .le 7, 3) := by decide +kernel
theorem dX10_areNone_30 : decode cX10_areNone 30 = .ok (.iconst 1, 1) := by decide +kernel
theorem dX10_areNone_31 : decode cX10_areNone 31 = .ok (.goto 4, 3) := by decide +kernel
theorem dX10_areNone_34 : decode cX10_areNone 34 = .ok (.iconst 0, 1) := by decide +kernel
theorem dX10_areNone_35 : decode cX10_areNone 35 = .ok (.ireturn, 1) := by decide +kernel
set_option maxRecDepth 20000 in
theorem ggX10_copyTree_X10_areNone : GoodIn wsX10_copyTree wsX10_areNone := goodIn_r _ [6, 7, 8, 9, 5, 10, 11, 12, 13, 27, 28, 29, 30, 31, 32, 33, 34, 35, 36, 37, 38, 39, 40, 41, 42, 43, 44, 45, 46, 47, 48, 49, 50, 51, 52, 53, 54, 55, 56, 57] (by decide +kernel) (by decide +kernel)
set_option maxRecDepth 20000 in
theorem gX10_copyTree_X10_areNone : GoodIn wsX10_copyTree (wsV RX10 217 RX10 yX10_areNone wsX10_areNone) := goodIn_app (goodIn_of _ (by decide +kernel)) ggX10_copyTree_X10_areNone
set_option maxRecDepth 20000 in
theorem ggX10_copyTree_X9_copies : GoodIn wsX10_copyTree wsX9_copies := goodIn_r _ [17, 18, 19, 20, 21, 22, 23, 24, 25, 15, 26, 58, 59, 60, 61, 62] (by decide +kernel) (by decide +kernel)
set_option maxRecDepth 20000 in
theorem gX10_copyTree_X9_copies_n157 : GoodIn wsX10_copyTree (wsX9_copies) := ggX10_copyTree_X9_copies
theorem dX10_copyTree_0 : decode cX10_copyTree 0 = .ok (.aload_n 0, 1) := by decide +kernel
theorem dX10_copyTree_1 : decode cX10_copyTree 1 = .ok (.iload_n 1, 1) := by decide +kernel
theorem dX10_copyTree_2 : decode cX10_copyTree 2 = .ok (.iload_n 2, 1) := by decide +kernel
theorem dX10_copyTree_3 : decode cX10_copyTree 3 = .ok (.invokevirtual 217, 3) := by decide +kernel
theorem dX10_copyTree_6 : decode cX10_copyTree 6 = .ok (.ifCond .eq 5, 3) := by decide +kernel
theorem dX10_copyTree_9 : decode cX10_copyTree 9 = .ok (.iconst 0, 1) := by decide +kernel
theorem dX10_copyTree_10 : decode cX10_copyTree 10 = .ok (.ireturn, 1) := by decide +kernel
theorem dX10_copyTree_11 : decode cX10_copyTree 11 = .ok (.aload_n 0, 1) := by decide +kernel
theorem dX10_copyTree_12 : decode cX10_copyTree 12 = .ok (.getfield 27, 3) := by decide +kernel
theorem dX10_copyTree_15 : decode cX10_copyTree 15 = .ok (.iload_n 2, 1) := by decide +kernel
theorem dX10_copyTree_16 : decode cX10_copyTree 16 = .ok (.aaload, 1) := by decide +kernel
theorem dX10_copyTree_17 : decode cX10_copyTree 17 = .ok (.aload_n 0, 1) := by decide +kernel
theorem dX10_copyTree_18 : decode cX10_copyTree 18 = .ok (.getfield 27, 3) := by decide +kernel
theorem dX10_copyTree_21 : decode cX10_copyTree 21 = .ok (.iload_n 1, 1) := by decide +kernel
theorem dX10_copyTree_22 : decode cX10_copyTree 22 = .ok (.aaload, 1) := by decide +kernel
theorem dX10_copyTree_23 : decode cX10_copyTree 23 = .ok (.invokevirtual 157, 3) := by decide +kernel
theorem dX10_copyTree_26 : decode cX10_copyTree 26 = .ok (.aload_n 0, 1) := by decide +kernel
theorem dX10_copyTree_27 : decode cX10_copyTree 27 = .ok (.getfield 27, 3) := by decide +kernel
theorem dX10_copyTree_30 : decode cX10_copyTree 30 = .ok (.iload_n 1, 1) := by decide +kernel
theorem dX10_copyTree_31 : decode cX10_copyTree 31 = .ok (.aaload, 1) := by decide +kernel
theorem dX10_copyTree_32 : decode cX10_copyTree 32 = .ok (.getfield 116, 3) := by decide +kernel
theorem dX10_copyTree_35 : decode cX10_copyTree 35 = .ok (.ireturn, 1) := by decide +kernel
set_option maxRecDepth 20000 in
theorem ggX10_size_X10_areNone : GoodIn wsX10_size wsX10_areNone := goodIn_r _ [6, 7, 8, 9, 5, 10, 11, 12, 13, 14, 15, 16, 17, 18, 19, 20, 21, 22, 23, 24, 25, 26, 27, 28, 29, 30, 31, 32, 33, 34, 35, 36, 37, 38, 39, 40, 41, 42, 43, 44] (by decide +kernel) (by decide +kernel)
set_option maxRecDepth 20000 in
theorem gX10_size_X10_areNone : GoodIn wsX10_size (wsV RX10 217 RX10 yX10_areNone wsX10_areNone) := goodIn_app (goodIn_of _ (by decide +kernel)) ggX10_size_X10_areNone
theorem dX10_size_0 : decode cX10_size 0 = .ok (.aload_n 0, 1) := by decide +kernel
theorem dX10_size_1 : decode cX10_size 1 = .ok (.iload_n 1, 1) := by decide +kernel
theorem dX10_size_2 : decode cX10_size 2 = .ok (.iload_n 1, 1) := by decide +kernel
theorem dX10_size_3 : decode cX10_size 3 = .ok (.invokevirtual 217, 3) := by decide +kernel
theorem dX10_size_6 : decode cX10_size 6 = .ok (.ifCond .eq 7, 3) := by decide +kernel
theorem dX10_size_9 : decode cX10_size 9 = .ok (.iconst 0, 1) := by decide +kernel
theorem dX10_size_10 : decode cX10_size 10 = .ok (.goto 12, 3) := by decide +kernel
theorem dX10_size_13 : decode cX10_size 13 = .ok (.aload_n 0, 1) := by decide +kernel
theorem dX10_size_14 : decode cX10_size 14 = .ok (.getfield 27, 3) := by decide +kernel
theorem dX10_size_17 : decode cX10_size 17 = .ok (.iload_n 1, 1) := by decide +kernel
theorem dX10_size_18 : decode cX10_size 18 = .ok (.aaload, 1) := by decide +kernel
theorem dX10_size_19 : decode cX10_size 19 = .ok (.getfield 116, 3) := by decide +kernel
theorem dX10_size_22 : decode cX10_size 22 = .ok (.ireturn, 1) := by decide +kernel
set_option maxRecDepth 20000 in
theorem ggX10_label_X10_isNowhere : GoodIn wsX10_label wsX10_isNowhere := goodIn_r _ [6, 7, 8, 9, 10, 5, 11, 1, 12, 13, 14, 15, 16, 17, 18, 19, 20, 21, 22, 23, 24, 25, 26, 27, 28, 29, 30, 31, 32, 33, 34, 35, 36, 37, 38, 39, 40, 41, 42, 43, 44, 45, 46, 47, 48, 49, 50, 51, 52, 53] (by decide +kernel) (by decide +kernel)
set_option maxRecDepth 20000 in
theorem gX10_label_X10_isNowhere : GoodIn wsX10_label (wsV RX10 202 RX10 yX10_isNowhere wsX10_isNowhere) := goodIn_app (goodIn_of _ (by decide +kernel)) ggX10_label_X10_isNowhere
theorem dX10_label_0 : decode cX10_label 0 = .ok (.aload_n 0, 1) := by decide +kernel
theorem dX10_label_1 : decode cX10_label 1 = .ok (.iload_n 1, 1) := by decide +kernel
theorem dX10_label_2 : decode cX10_label 2 = .ok (.iload_n 2, 1) := by decide +kernel
theorem dX10_label_3 : decode cX10_label 3 = .ok (.invokevirtual 202, 3) := by decide +kernel
theorem dX10_label_6 : decode cX10_label 6 = .ok (.ifCond .eq 7, 3) := by decide +kernel
theorem dX10_label_9 : decode cX10_label 9 = .ok (.iconst 0, 1) := by decide +kernel
theorem dX10_label_10 : decode cX10_label 10 = .ok (.goto 15, 3) := by decide +kernel
theorem dX10_label_13 : decode cX10_label 13 = .ok (.aload_n 0, 1) := by decide +kernel
theorem dX10_label_14 : decode cX10_label 14 = .ok (.getfield 27, 3) := by decide +kernel
theorem dX10_label_17 : decode cX10_label 17 = .ok (.iload_n 1, 1) := by decide +kernel
theorem dX10_label_18 : decode cX10_label 18 = .ok (.aaload, 1) := by decide +kernel
theorem dX10_label_19 : decode cX10_label 19 = .ok (.getfield 11, 3) := by decide +kernel
theorem dX10_label_22 : decode cX10_label 22 = .ok (.iload_n 2, 1) := by decide +kernel
theorem dX10_label_23 : decode cX10_label 23 = .ok (.iaload, 1) := by decide +kernel
theorem dX10_label_24 : decode cX10_label 24 = .ok (.i2c, 1) := by decide +kernel
theorem dX10_label_25 : decode cX10_label 25 = .ok (.ireturn, 1) := by decide +kernel
set_option maxRecDepth 20000 in
theorem ggX10_key_X10_isNowhere : GoodIn wsX10_key wsX10_isNowhere := goodIn_r _ [6, 7, 8, 9, 10, 5, 11, 1, 12, 13, 14, 15, 16, 17, 18, 19, 20, 21, 22, 23, 24, 25, 26, 27, 28, 29, 30, 31, 32, 33, 34, 35, 36, 37, 38, 39, 40, 41, 42, 43, 44, 45, 46, 47, 48, 49, 50, 51, 52, 53] (by decide +kernel) (by decide +kernel)
set_option maxRecDepth 20000 in
theorem gX10_key_X10_isNowhere : GoodIn wsX10_key (wsV RX10 202 RX10 yX10_isNowhere wsX10_isNowhere) := goodIn_app (goodIn_of _ (by decide +kernel)) ggX10_key_X10_isNowhere
theorem dX10_key_0 : decode cX10_key 0 = .ok (.aload_n 0, 1) := by decide +kernel
theorem dX10_key_1 : decode cX10_key 1 = .ok (.iload_n 1, 1) := by decide +kernel
theorem dX10_key_2 : decode cX10_key 2 = .ok (.iload_n 2, 1) := by decide +kernel
theorem dX10_key_3 : decode cX10_key 3 = .ok (.invokevirtual 202, 3) := by decide +kernel
theorem dX10_key_6 : decode cX10_key 6 = .ok (.ifCond .eq 7, 3) := by decide +kernel
theorem dX10_key_9 : decode cX10_key 9 = .ok (.iconst 0, 1) := by decide +kernel
theorem dX10_key_10 : decode cX10_key 10 = .ok (.goto 14, 3) := by decide +kernel
theorem dX10_key_13 : decode cX10_key 13 = .ok (.aload_n 0, 1) := by decide +kernel
theorem dX10_key_14 : decode cX10_key 14 = .ok (.getfield 27, 3) := by decide +kernel
theorem dX10_key_17 : decode cX10_key 17 = .ok (.iload_n 1, 1) := by decide +kernel
theorem dX10_key_18 : decode cX10_key 18 = .ok (.aaload, 1) := by decide +kernel
theorem dX10_key_19 : decode cX10_key 19 = .ok (.getfield 14, 3) := by decide +kernel
theorem dX10_key_22 : decode cX10_key 22 = .ok (.iload_n 2, 1) := by decide +kernel
theorem dX10_key_23 : decode cX10_key 23 = .ok (.iaload, 1) := by decide +kernel
theorem dX10_key_24 : decode cX10_key 24 = .ok (.ireturn, 1) := by decide +kernel
set_option maxRecDepth 20000 in
theorem ggX10_value_X10_isNowhere : GoodIn wsX10_value wsX10_isNowhere := goodIn_r _ [6, 7, 8, 9, 10, 5, 11, 1, 12, 13, 14, 15, 16, 17, 18, 19, 20, 21, 22, 23, 24, 25, 26, 27, 28, 29, 30, 31, 32, 33, 34, 35, 36, 37, 38, 39, 40, 41, 42, 43, 44, 45, 46, 47, 48, 49, 50, 51, 52, 53] (by decide +kernel) (by decide +kernel)
set_option maxRecDepth 20000 in
theorem gX10_value_X10_isNowhere : GoodIn wsX10_value (wsV RX10 202 RX10 yX10_isNowhere wsX10_isNowhere) := goodIn_app (goodIn_of _ (by decide +kernel)) ggX10_value_X10_isNowhere
theorem dX10_value_0 : decode cX10_value 0 = .ok (.aload_n 0, 1) := by decide +kernel
theorem dX10_value_1 : decode cX10_value 1 = .ok (.iload_n 1, 1) := by decide +kernel
theorem dX10_value_2 : decode cX10_value 2 = .ok (.iload_n 2, 1) := by decide +kernel
theorem dX10_value_3 : decode cX10_value 3 = .ok (.invokevirtual 202, 3) := by decide +kernel
theorem dX10_value_6 : decode cX10_value 6 = .ok (.ifCond .eq 7, 3) := by decide +kernel
theorem dX10_value_9 : decode cX10_value 9 = .ok (.iconst 0, 1) := by decide +kernel
theorem dX10_value_10 : decode cX10_value 10 = .ok (.goto 14, 3) := by decide +kernel
theorem dX10_value_13 : decode cX10_value 13 = .ok (.aload_n 0, 1) := by decide +kernel
theorem dX10_value_14 : decode cX10_value 14 = .ok (.getfield 27, 3) := by decide +kernel
theorem dX10_value_17 : decode cX10_value 17 = .ok (.iload_n 1, 1) := by decide +kernel
theorem dX10_value_18 : decode cX10_value 18 = .ok (.aaload, 1) := by decide +kernel
theorem dX10_value_19 : decode cX10_value 19 = .ok (.getfield 17, 3) := by decide +kernel
theorem dX10_value_22 : decode cX10_value 22 = .ok (.iload_n 2, 1) := by decide +kernel
theorem dX10_value_23 : decode cX10_value 23 = .ok (.iaload, 1) := by decide +kernel
theorem dX10_value_24 : decode cX10_value 24 = .ok (.ireturn, 1) := by decide +kernel
set_option maxRecDepth 20000 in
theorem ggX10_children_X10_isNowhere : GoodIn wsX10_children wsX10_isNowhere := goodIn_r _ [6, 7, 8, 9, 10, 5, 11, 1, 12, 13, 14, 15, 16, 17, 24, 25, 26, 27, 28, 29, 30, 31, 32, 33, 34, 35, 36, 37, 38, 39, 40, 41, 42, 43, 44, 45, 46, 47, 48, 49, 50, 51, 52, 53, 54, 55, 56, 57, 58, 59] (by decide +kernel) (by decide +kernel)
set_option maxRecDepth 20000 in
theorem gX10_children_X10_isNowhere : GoodIn wsX10_children (wsV RX10 202 RX10 yX10_isNowhere wsX10_isNowhere) := goodIn_app (goodIn_of _ (by decide +kernel)) ggX10_children_X10_isNowhere
set_option maxRecDepth 20000 in
theorem ggX10_children_X9_many : GoodIn wsX10_children wsX9_many := goodIn_r _ [21, 22, 23, 55, 56, 57, 58, 59] (by decide +kernel) (by decide +kernel)
set_option maxRecDepth 20000 in
theorem gX10_children_X9_many_n170 : GoodIn wsX10_children (wsX9_many) := ggX10_children_X9_many
theorem dX10_children_0 : decode cX10_children 0 = .ok (.aload_n 0, 1) := by decide +kernel
theorem dX10_children_1 : decode cX10_children 1 = .ok (.iload_n 1, 1) := by decide +kernel
theorem dX10_children_2 : decode cX10_children 2 = .ok (.iload_n 2, 1) := by decide +kernel
theorem dX10_children_3 : decode cX10_children 3 = .ok (.invokevirtual 202, 3) := by decide +kernel
theorem dX10_children_6 : decode cX10_children 6 = .ok (.ifCond .eq 7, 3) := by decide +kernel
theorem dX10_children_9 : decode cX10_children 9 = .ok (.iconst 0, 1) := by decide +kernel
theorem dX10_children_10 : decode cX10_children 10 = .ok (.goto 13, 3) := by decide +kernel
theorem dX10_children_13 : decode cX10_children 13 = .ok (.aload_n 0, 1) := by decide +kernel
theorem dX10_children_14 : decode cX10_children 14 = .ok (.getfield 27, 3) := by decide +kernel
theorem dX10_children_17 : decode cX10_children 17 = .ok (.iload_n 1, 1) := by decide +kernel
theorem dX10_children_18 : decode cX10_children 18 = .ok (.aaload, 1) := by decide +kernel
theorem dX10_children_19 : decode cX10_children 19 = .ok (.iload_n 2, 1) := by decide +kernel
theorem dX10_children_20 : decode cX10_children 20 = .ok (.invokevirtual 170, 3) := by decide +kernel
theorem dX10_children_23 : decode cX10_children 23 = .ok (.ireturn, 1) := by decide +kernel
set_option maxRecDepth 20000 in
theorem ggX10_parent_X10_isNowhere : GoodIn wsX10_parent wsX10_isNowhere := goodIn_r _ [6, 7, 8, 9, 10, 5, 11, 1, 12, 13, 14, 15, 16, 17, 22, 23, 24, 25, 26, 27, 28, 29, 30, 31, 32, 33, 34, 35, 36, 37, 38, 39, 40, 41, 42, 43, 44, 45, 46, 47, 48, 49, 50, 51, 52, 53, 54, 55, 56, 57] (by decide +kernel) (by decide +kernel)
set_option maxRecDepth 20000 in
theorem gX10_parent_X10_isNowhere : GoodIn wsX10_parent (wsV RX10 202 RX10 yX10_isNowhere wsX10_isNowhere) := goodIn_app (goodIn_of _ (by decide +kernel)) ggX10_parent_X10_isNowhere
set_option maxRecDepth 20000 in
theorem ggX10_parent_X10_fails : GoodIn wsX10_parent wsX10_fails := goodIn_r _ [21, 7, 22, 23, 24, 25, 26, 27, 28, 29, 30, 31, 32, 33, 34, 35, 36, 37, 38, 39, 40, 41, 42, 43, 44, 45, 46, 47, 48, 49, 50, 51, 52] (by decide +kernel) (by decide +kernel)
set_option maxRecDepth 20000 in
theorem gX10_parent_X10_fails : GoodIn wsX10_parent (wsV RX10 126 RX10 yX10_fails wsX10_fails) := goodIn_app (goodIn_of _ (by decide +kernel)) ggX10_parent_X10_fails
theorem dX10_parent_0 : decode cX10_parent 0 = .ok (.aload_n 0, 1) := by decide +kernel
theorem dX10_parent_1 : decode cX10_parent 1 = .ok (.iload_n 1, 1) := by decide +kernel
theorem dX10_parent_2 : decode cX10_parent 2 = .ok (.iload_n 2, 1) := by decide +kernel
theorem dX10_parent_3 : decode cX10_parent 3 = .ok (.invokevirtual 202, 3) := by decide +kernel
theorem dX10_parent_6 : decode cX10_parent 6 = .ok (.ifCond .eq 5, 3) := by decide +kernel
theorem dX10_parent_9 : decode cX10_parent 9 = .ok (.iconst 0, 1) := by decide +kernel
theorem dX10_parent_10 : decode cX10_parent 10 = .ok (.ireturn, 1) := by decide +kernel
theorem dX10_parent_11 : decode cX10_parent 11 = .ok (.iload_n 2, 1) := by decide +kernel
theorem dX10_parent_12 : decode cX10_parent 12 = .ok (.ifCond .ne 11, 3) := by decide +kernel
theorem dX10_parent_15 : decode cX10_parent 15 = .ok (.aload_n 0, 1) := by decide +kernel
theorem dX10_parent_16 : decode cX10_parent 16 = .ok (.iconst 2, 1) := by decide +kernel
theorem dX10_parent_17 : decode cX10_parent 17 = .ok (.invokevirtual 126, 3) := by decide +kernel
theorem dX10_parent_20 : decode cX10_parent 20 = .ok (.goto 14, 3) := by decide +kernel
theorem dX10_parent_23 : decode cX10_parent 23 = .ok (.aload_n 0, 1) := by decide +kernel
theorem dX10_parent_24 : decode cX10_parent 24 = .ok (.getfield 27, 3) := by decide +kernel
theorem dX10_parent_27 : decode cX10_parent 27 = .ok (.iload_n 1, 1) := by decide +kernel
theorem dX10_parent_28 : decode cX10_parent 28 = .ok (.aaload, 1) := by decide +kernel
theorem dX10_parent_29 : decode cX10_parent 29 = .ok (.getfield 7, 3) := by decide +kernel
theorem dX10_parent_32 : decode cX10_parent 32 = .ok (.iload_n 2, 1) := by decide +kernel
theorem dX10_parent_33 : decode cX10_parent 33 = .ok (.iaload, 1) := by decide +kernel
theorem dX10_parent_34 : decode cX10_parent 34 = .ok (.ireturn, 1) := by decide +kernel
set_option maxRecDepth 20000 in
theorem ggX10_subtreeSize_X10_isNowhere : GoodIn wsX10_subtreeSize wsX10_isNowhere := goodIn_r _ [6, 7, 8, 9, 10, 5, 11, 1, 12, 13, 14, 15, 16, 17, 24, 25, 26, 27, 28, 29, 30, 31, 32, 33, 34, 35, 36, 37, 38, 39, 40, 41, 42, 43, 44, 45, 46, 47, 48, 49, 50, 51, 52, 53, 54, 55, 56, 57, 58, 59] (by decide +kernel) (by decide +kernel)
set_option maxRecDepth 20000 in
theorem gX10_subtreeSize_X10_isNowhere : GoodIn wsX10_subtreeSize (wsV RX10 202 RX10 yX10_isNowhere wsX10_isNowhere) := goodIn_app (goodIn_of _ (by decide +kernel)) ggX10_subtreeSize_X10_isNowhere
set_option maxRecDepth 20000 in
theorem ggX10_subtreeSize_X9_end : GoodIn wsX10_subtreeSize wsX9_end := goodIn_r _ [21, 22, 23, 55, 56, 57, 58, 59] (by decide +kernel) (by decide +kernel)
set_option maxRecDepth 20000 in
theorem gX10_subtreeSize_X9_end_n1 : GoodIn wsX10_subtreeSize (wsX9_end) := ggX10_subtreeSize_X9_end
theorem dX10_subtreeSize_0 : decode cX10_subtreeSize 0 = .ok (.aload_n 0, 1) := by decide +kernel
theorem dX10_subtreeSize_1 : decode cX10_subtreeSize 1 = .ok (.iload_n 1, 1) := by decide +kernel
theorem dX10_subtreeSize_2 : decode cX10_subtreeSize 2 = .ok (.iload_n 2, 1) := by decide +kernel
theorem dX10_subtreeSize_3 : decode cX10_subtreeSize 3 = .ok (.invokevirtual 202, 3) := by decide +kernel
theorem dX10_subtreeSize_6 : decode cX10_subtreeSize 6 = .ok (.ifCond .eq 7, 3) := by decide +kernel
theorem dX10_subtreeSize_9 : decode cX10_subtreeSize 9 = .ok (.iconst 0, 1) := by decide +kernel
theorem dX10_subtreeSize_10 : decode cX10_subtreeSize 10 = .ok (.goto 15, 3) := by decide +kernel
theorem dX10_subtreeSize_13 : decode cX10_subtreeSize 13 = .ok (.aload_n 0, 1) := by decide +kernel
theorem dX10_subtreeSize_14 : decode cX10_subtreeSize 14 = .ok (.getfield 27, 3) := by decide +kernel
theorem dX10_subtreeSize_17 : decode cX10_subtreeSize 17 = .ok (.iload_n 1, 1) := by decide +kernel
theorem dX10_subtreeSize_18 : decode cX10_subtreeSize 18 = .ok (.aaload, 1) := by decide +kernel
theorem dX10_subtreeSize_19 : decode cX10_subtreeSize 19 = .ok (.iload_n 2, 1) := by decide +kernel
theorem dX10_subtreeSize_20 : decode cX10_subtreeSize 20 = .ok (.invokevirtual 1, 3) := by decide +kernel
theorem dX10_subtreeSize_23 : decode cX10_subtreeSize 23 = .ok (.iload_n 2, 1) := by decide +kernel
theorem dX10_subtreeSize_24 : decode cX10_subtreeSize 24 = .ok (.isub, 1) := by decide +kernel
theorem dX10_subtreeSize_25 : decode cX10_subtreeSize 25 = .ok (.ireturn, 1) := by decide +kernel
set_option maxRecDepth 20000 in
theorem ggX10_subtreeHash_X10_isNowhere : GoodIn wsX10_subtreeHash wsX10_isNowhere := goodIn_r _ [6, 7, 8, 9, 10, 5, 11, 1, 12, 13, 14, 15, 16, 17, 37, 38, 39, 40, 41, 42, 43, 44, 45, 46, 47, 48, 49, 50, 51, 52, 53, 54, 55, 56, 57, 58, 59, 60, 61, 62, 63, 64, 65, 66, 67, 68, 69, 70, 71, 72] (by decide +kernel) (by decide +kernel)
set_option maxRecDepth 20000 in
theorem gX10_subtreeHash_X10_isNowhere : GoodIn wsX10_subtreeHash (wsV RX10 202 RX10 yX10_isNowhere wsX10_isNowhere) := goodIn_app (goodIn_of _ (by decide +kernel)) ggX10_subtreeHash_X10_isNowhere
set_option maxRecDepth 20000 in
theorem ggX10_subtreeHash_X9_hash : GoodIn wsX10_subtreeHash wsX9_hash := goodIn_r _ [21, 22, 23, 24, 25, 26, 27, 19, 28, 29, 30, 31, 32, 33, 34, 35, 36, 18, 20, 68, 69, 70, 71, 72] (by decide +kernel) (by decide +kernel)
set_option maxRecDepth 20000 in
theorem gX10_subtreeHash_X9_hash_n220 : GoodIn wsX10_subtreeHash (wsX9_hash) := ggX10_subtreeHash_X9_hash
theorem dX10_subtreeHash_0 : decode cX10_subtreeHash 0 = .ok (.aload_n 0, 1) := by decide +kernel
theorem dX10_subtreeHash_1 : decode cX10_subtreeHash 1 = .ok (.iload_n 1, 1) := by decide +kernel
theorem dX10_subtreeHash_2 : decode cX10_subtreeHash 2 = .ok (.iload_n 2, 1) := by decide +kernel
theorem dX10_subtreeHash_3 : decode cX10_subtreeHash 3 = .ok (.invokevirtual 202, 3) := by decide +kernel
theorem dX10_subtreeHash_6 : decode cX10_subtreeHash 6 = .ok (.ifCond .eq 7, 3) := by decide +kernel
theorem dX10_subtreeHash_9 : decode cX10_subtreeHash 9 = .ok (.iconst 0, 1) := by decide +kernel
theorem dX10_subtreeHash_10 : decode cX10_subtreeHash 10 = .ok (.goto 13, 3) := by decide +kernel
theorem dX10_subtreeHash_13 : decode cX10_subtreeHash 13 = .ok (.aload_n 0, 1) := by decide +kernel
theorem dX10_subtreeHash_14 : decode cX10_subtreeHash 14 = .ok (.getfield 27, 3) := by decide +kernel
theorem dX10_subtreeHash_17 : decode cX10_subtreeHash 17 = .ok (.iload_n 1, 1) := by decide +kernel
theorem dX10_subtreeHash_18 : decode cX10_subtreeHash 18 = .ok (.aaload, 1) := by decide +kernel
theorem dX10_subtreeHash_19 : decode cX10_subtreeHash 19 = .ok (.iload_n 2, 1) := by decide +kernel
theorem dX10_subtreeHash_20 : decode cX10_subtreeHash 20 = .ok (.invokevirtual 220, 3) := by decide +kernel
theorem dX10_subtreeHash_23 : decode cX10_subtreeHash 23 = .ok (.ireturn, 1) := by decide +kernel
set_option maxRecDepth 20000 in
theorem ggX10_areEqual_X10_isNowhere : GoodIn wsX10_areEqual wsX10_isNowhere := goodIn_r _ [6, 7, 8, 9, 10, 5, 11, 1, 12, 13, 14, 15, 16, 17, 27, 28, 29, 30, 31, 32, 33, 34, 35, 36, 37, 38, 39, 40, 41, 42, 43, 44, 45, 46, 47, 48, 49, 50, 51, 52, 53, 54, 55, 56, 57, 58, 59, 60, 61, 62] (by decide +kernel) (by decide +kernel)
set_option maxRecDepth 20000 in
theorem gX10_areEqual_X10_isNowhere : GoodIn wsX10_areEqual (wsV RX10 202 RX10 yX10_isNowhere wsX10_isNowhere) := goodIn_app (goodIn_of _ (by decide +kernel)) ggX10_areEqual_X10_isNowhere
set_option maxRecDepth 20000 in
theorem ggX10_areEqual_X10_areLike : GoodIn wsX10_areEqual wsX10_areLike := goodIn_r _ [20, 21, 22, 23, 24, 25, 26, 58, 59, 60, 61, 62] (by decide +kernel) (by decide +kernel)
set_option maxRecDepth 20000 in
theorem gX10_areEqual_X10_areLike : GoodIn wsX10_areEqual (va_wsS RX10 223 yX10_areLike wsX10_areLike) := goodIn_app (goodIn_of _ (by decide +kernel)) ggX10_areEqual_X10_areLike
theorem dX10_areEqual_0 : decode cX10_areEqual 0 = .ok (.aload_n 0, 1) := by decide +kernel
theorem dX10_areEqual_1 : decode cX10_areEqual 1 = .ok (.iload_n 1, 1) := by decide +kernel
theorem dX10_areEqual_2 : decode cX10_areEqual 2 = .ok (.iload_n 2, 1) := by decide +kernel
theorem dX10_areEqual_3 : decode cX10_areEqual 3 = .ok (.invokevirtual 202, 3) := by decide +kernel
theorem dX10_areEqual_6 : decode cX10_areEqual 6 = .ok (.ifCond .ne 39, 3) := by decide +kernel
theorem dX10_areEqual_9 : decode cX10_areEqual 9 = .ok (.aload_n 0, 1) := by decide +kernel
theorem dX10_areEqual_10 : decode cX10_areEqual 10 = .ok (.iload_n 3, 1) := by decide +kernel
theorem dX10_areEqual_11 : decode cX10_areEqual 11 = .ok (.iload 4, 2) := by decide +kernel
theorem dX10_areEqual_13 : decode cX10_areEqual 13 = .ok (.invokevirtual 202, 3) := by decide +kernel
theorem dX10_areEqual_16 : decode cX10_areEqual 16 = .ok (.ifCond .ne 29, 3) := by decide +kernel
theorem dX10_areEqual_19 : decode cX10_areEqual 19 = .ok (.aload_n 0, 1) := by decide +kernel
theorem dX10_areEqual_20 : decode cX10_areEqual 20 = .ok (.getfield 27, 3) := by decide +kernel
theorem dX10_areEqual_23 : decode cX10_areEqual 23 = .ok (.iload_n 1, 1) := by decide +kernel
theorem dX10_areEqual_24 : decode cX10_areEqual 24 = .ok (.aaload, 1) := by decide +kernel
theorem dX10_areEqual_25 : decode cX10_areEqual 25 = .ok (.iload_n 2, 1) := by decide +kernel
theorem dX10_areEqual_26 : decode cX10_areEqual 26 = .ok (.aload_n 0, 1) := by decide +kernel
theorem dX10_areEqual_27 : decode cX10_areEqual 27 = .ok (.getfield 27, 3) := by decide +kernel
theorem dX10_areEqual_30 : decode cX10_areEqual 30 = .ok (.iload_n 3, 1) := by decide +kernel
theorem dX10_areEqual_31 : decode cX10_areEqual 31 = .ok (.aaload, 1) := by decide +kernel
theorem dX10_areEqual_32 : decode cX10_areEqual 32 = .ok (.iload 4, 2) := by decide +kernel
theorem dX10_areEqual_34 : decode cX10_areEqual 34 = .ok (.iconst 0, 1) := by decide +kernel
theorem dX10_areEqual_35 : decode cX10_areEqual 35 = .ok (.invokestatic 223, 3) := by decide +kernel
theorem dX10_areEqual_38 : decode cX10_areEqual 38 = .ok (.ifCond .eq 7, 3) := by decide +kernel
theorem dX10_areEqual_41 : decode cX10_areEqual 41 = .ok (.iconst 1, 1) := by decide +kernel
theorem dX10_areEqual_42 : decode cX10_areEqual 42 = .ok (.goto 4, 3) := by decide +kernel
theorem dX10_areEqual_45 : decode cX10_areEqual 45 = .ok (.iconst 0, 1) := by decide +kernel
theorem dX10_areEqual_46 : decode cX10_areEqual 46 = .ok (.ireturn, 1) := by decide +kernel
set_option maxRecDepth 20000 in
theorem ggX10_finds_X10_isNode : GoodIn wsX10_finds wsX10_isNode := goodIn_r _ [7, 2, 8, 9, 6, 10, 11, 12, 13, 27, 28, 29, 30, 31, 32, 33, 34, 35, 36, 37, 38, 39, 40, 41, 42, 43, 44, 45, 46, 47, 48, 49, 50, 51, 52, 53, 54, 55, 56, 57, 58, 59, 60, 61, 62] (by decide +kernel) (by decide +kernel)
set_option maxRecDepth 20000 in
theorem gX10_finds_X10_isNode : GoodIn wsX10_finds (wsV RX10 119 RX10 yX10_isNode wsX10_isNode) := goodIn_app (goodIn_of _ (by decide +kernel)) ggX10_finds_X10_isNode
set_option maxRecDepth 20000 in
theorem ggX10_finds_X10_isTree : GoodIn wsX10_finds wsX10_isTree := goodIn_r _ [10, 11, 12, 6, 13] (by decide +kernel) (by decide +kernel)
set_option maxRecDepth 20000 in
theorem gX10_finds_X10_isTree : GoodIn wsX10_finds (va_wsS RX10 112 yX10_isTree wsX10_isTree) := goodIn_app (goodIn_of _ (by decide +kernel)) ggX10_finds_X10_isTree
set_option maxRecDepth 20000 in
theorem ggX10_finds_X10_areLike : GoodIn wsX10_finds wsX10_areLike := goodIn_r _ [16, 17, 18, 19, 20, 21, 22, 58, 59, 60, 61, 62] (by decide +kernel) (by decide +kernel)
set_option maxRecDepth 20000 in
theorem gX10_finds_X10_areLike : GoodIn wsX10_finds (va_wsS RX10 223 yX10_areLike wsX10_areLike) := goodIn_app (goodIn_of _ (by decide +kernel)) ggX10_finds_X10_areLike
set_option maxRecDepth 20000 in
theorem ggX10_finds_X10_fails : GoodIn wsX10_finds wsX10_fails := goodIn_r _ [26, 1, 27, 28, 29, 30, 31, 32, 33, 34, 35, 36, 37, 38, 39, 40, 41, 42, 43, 44, 45, 46, 47, 48, 49, 50, 51, 52, 53, 54, 55, 56, 57] (by decide +kernel) (by decide +kernel)
set_option maxRecDepth 20000 in
theorem gX10_finds_X10_fails : GoodIn wsX10_finds (wsV RX10 126 RX10 yX10_fails wsX10_fails) := goodIn_app (goodIn_of _ (by decide +kernel)) ggX10_finds_X10_fails
theorem dX10_finds_0 : decode cX10_finds 0 = .ok (.aload_n 0, 1) := by decide +kernel
theorem dX10_finds_1 : decode cX10_finds 1 = .ok (.aload_n 0, 1) := by decide +kernel
theorem dX10_finds_2 : decode cX10_finds 2 = .ok (.iload_n 1, 1) := by decide +kernel
theorem dX10_finds_3 : decode cX10_finds 3 = .ok (.iload_n 2, 1) := by decide +kernel
theorem dX10_finds_4 : decode cX10_finds 4 = .ok (.invokevirtual 119, 3) := by decide +kernel
theorem dX10_finds_7 : decode cX10_finds 7 = .ok (.ifCond .eq 14, 3) := by decide +kernel
theorem dX10_finds_10 : decode cX10_finds 10 = .ok (.iload_n 3, 1) := by decide +kernel
theorem dX10_finds_11 : decode cX10_finds 11 = .ok (.invokestatic 112, 3) := by decide +kernel
theorem dX10_finds_14 : decode cX10_finds 14 = .ok (.ifCond .eq 7, 3) := by decide +kernel
theorem dX10_finds_17 : decode cX10_finds 17 = .ok (.iconst 0, 1) := by decide +kernel
theorem dX10_finds_18 : decode cX10_finds 18 = .ok (.goto 4, 3) := by decide +kernel
theorem dX10_finds_21 : decode cX10_finds 21 = .ok (.iconst 1, 1) := by decide +kernel
theorem dX10_finds_22 : decode cX10_finds 22 = .ok (.putfield 105, 3) := by decide +kernel
theorem dX10_finds_25 : decode cX10_finds 25 = .ok (.aload_n 0, 1) := by decide +kernel
theorem dX10_finds_26 : decode cX10_finds 26 = .ok (.getfield 105, 3) := by decide +kernel
theorem dX10_finds_29 : decode cX10_finds 29 = .ok (.ifCond .le 5, 3) := by decide +kernel
theorem dX10_finds_32 : decode cX10_finds 32 = .ok (.iconst 0, 1) := by decide +kernel
theorem dX10_finds_33 : decode cX10_finds 33 = .ok (.ireturn, 1) := by decide +kernel
theorem dX10_finds_34 : decode cX10_finds 34 = .ok (.iconst 0, 1) := by decide +kernel
theorem dX10_finds_35 : decode cX10_finds 35 = .ok (.istore 5, 2) := by decide +kernel
theorem dX10_finds_37 : decode cX10_finds 37 = .ok (.iload 5, 2) := by decide +kernel
theorem dX10_finds_39 : decode cX10_finds 39 = .ok (.aload_n 0, 1) := by decide +kernel
theorem dX10_finds_40 : decode cX10_finds 40 = .ok (.getfield 27, 3) := by decide +kernel
theorem dX10_finds_43 : decode cX10_finds 43 = .ok (.iload_n 3, 1) := by decide +kernel
theorem dX10_finds_44 : decode cX10_finds 44 = .ok (.aaload, 1) := by decide +kernel
theorem dX10_finds_45 : decode cX10_finds 45 = .ok (.getfield 116, 3) := by decide +kernel
theorem dX10_finds_48 : decode cX10_finds 48 = .ok (.if_icmp .ge 35, 3) := by decide +kernel
theorem dX10_finds_51 : decode cX10_finds 51 = .ok (.aload_n 0, 1) := by decide +kernel
theorem dX10_finds_52 : decode cX10_finds 52 = .ok (.getfield 27, 3) := by decide +kernel
theorem dX10_finds_55 : decode cX10_finds 55 = .ok (.iload_n 1, 1) := by decide +kernel
theorem dX10_finds_56 : decode cX10_finds 56 = .ok (.aaload, 1) := by decide +kernel
theorem dX10_finds_57 : decode cX10_finds 57 = .ok (.iload_n 2, 1) := by decide +kernel
theorem dX10_finds_58 : decode cX10_finds 58 = .ok (.aload_n 0, 1) := by decide +kernel
theorem dX10_finds_59 : decode cX10_finds 59 = .ok (.getfield 27, 3) := by decide +kernel
theorem dX10_finds_62 : decode cX10_finds 62 = .ok (.iload_n 3, 1) := by decide +kernel
theorem dX10_finds_63 : decode cX10_finds 63 = .ok (.aaload, 1) := by decide +kernel
theorem dX10_finds_64 : decode cX10_finds 64 = .ok (.iload 5, 2) := by decide +kernel
theorem dX10_finds_66 : decode cX10_finds 66 = .ok (.iload 4, 2) := by decide +kernel
theorem dX10_finds_68 : decode cX10_finds 68 = .ok (.invokestatic 223, 3) := by decide +kernel
theorem dX10_finds_71 : decode cX10_finds 71 = .ok (.ifCond .eq 6, 3) := by decide +kernel
theorem dX10_finds_74 : decode cX10_finds 74 = .ok (.iload 5, 2) := by decide +kernel
theorem dX10_finds_76 : decode cX10_finds 76 = .ok (.ireturn, 1) := by decide +kernel
theorem dX10_finds_77 : decode cX10_finds 77 = .ok (.iinc 5 1, 3) := by decide +kernel
theorem dX10_finds_80 : decode cX10_finds 80 = .ok (.goto (-43), 3) := by decide +kernel
theorem dX10_finds_83 : decode cX10_finds 83 = .ok (.aload_n 0, 1) := by decide +kernel
theorem dX10_finds_84 : decode cX10_finds 84 = .ok (.iconst 2, 1) := by decide +kernel
theorem dX10_finds_85 : decode cX10_finds 85 = .ok (.invokevirtual 126, 3) := by decide +kernel
theorem dX10_finds_88 : decode cX10_finds 88 = .ok (.ireturn, 1) := by decide +kernel
set_option maxRecDepth 20000 in
theorem ggX10_twin_X10_finds : GoodIn wsX10_twin wsX10_finds := goodIn_r _ [5, 6, 7, 8, 9, 10, 4, 11, 12, 13, 14, 15, 16, 17, 18, 19, 20, 21, 22, 23, 24, 25, 26, 27, 28, 29, 30, 31, 32, 33, 34, 35, 36, 37, 38, 39, 40, 41, 42, 43, 44, 45, 46, 47, 48, 49, 50, 51, 52, 53, 54, 55, 56, 57, 58, 59, 60, 61, 62, 63, 64, 65, 66] (by decide +kernel) (by decide +kernel)
set_option maxRecDepth 20000 in
theorem gX10_twin_X10_finds : GoodIn wsX10_twin (wsV RX10 227 RX10 yX10_finds wsX10_finds) := goodIn_app (goodIn_of _ (by decide +kernel)) ggX10_twin_X10_finds
theorem dX10_twin_0 : decode cX10_twin 0 = .ok (.aload_n 0, 1) := by decide +kernel
theorem dX10_twin_1 : decode cX10_twin 1 = .ok (.iload_n 1, 1) := by decide +kernel
theorem dX10_twin_2 : decode cX10_twin 2 = .ok (.iload_n 2, 1) := by decide +kernel
theorem dX10_twin_3 : decode cX10_twin 3 = .ok (.iload_n 3, 1) := by decide +kernel
theorem dX10_twin_4 : decode cX10_twin 4 = .ok (.iconst 0, 1) := by decide +kernel
theorem dX10_twin_5 : decode cX10_twin 5 = .ok (.invokevirtual 227, 3) := by decide +kernel
theorem dX10_twin_8 : decode cX10_twin 8 = .ok (.ireturn, 1) := by decide +kernel
set_option maxRecDepth 20000 in
theorem ggX10_shapeTwin_X10_finds : GoodIn wsX10_shapeTwin wsX10_finds := goodIn_r _ [5, 6, 7, 8, 9, 10, 4, 11, 12, 13, 14, 15, 16, 17, 18, 19, 20, 21, 22, 23, 24, 25, 26, 27, 28, 29, 30, 31, 32, 33, 34, 35, 36, 37, 38, 39, 40, 41, 42, 43, 44, 45, 46, 47, 48, 49, 50, 51, 52, 53, 54, 55, 56, 57, 58, 59, 60, 61, 62, 63, 64, 65, 66] (by decide +kernel) (by decide +kernel)
set_option maxRecDepth 20000 in
theorem gX10_shapeTwin_X10_finds : GoodIn wsX10_shapeTwin (wsV RX10 227 RX10 yX10_finds wsX10_finds) := goodIn_app (goodIn_of _ (by decide +kernel)) ggX10_shapeTwin_X10_finds
theorem dX10_shapeTwin_0 : decode cX10_shapeTwin 0 = .ok (.aload_n 0, 1) := by decide +kernel
theorem dX10_shapeTwin_1 : decode cX10_shapeTwin 1 = .ok (.iload_n 1, 1) := by decide +kernel
theorem dX10_shapeTwin_2 : decode cX10_shapeTwin 2 = .ok (.iload_n 2, 1) := by decide +kernel
theorem dX10_shapeTwin_3 : decode cX10_shapeTwin 3 = .ok (.iload_n 3, 1) := by decide +kernel
theorem dX10_shapeTwin_4 : decode cX10_shapeTwin 4 = .ok (.iconst 1, 1) := by decide +kernel
theorem dX10_shapeTwin_5 : decode cX10_shapeTwin 5 = .ok (.invokevirtual 227, 3) := by decide +kernel
theorem dX10_shapeTwin_8 : decode cX10_shapeTwin 8 = .ok (.ireturn, 1) := by decide +kernel
set_option maxRecDepth 20000 in
theorem ggX10_left_X9_end : GoodIn wsX10_left wsX9_end := goodIn_r _ [12, 13, 14, 15, 16, 17, 18, 19] (by decide +kernel) (by decide +kernel)
set_option maxRecDepth 20000 in
theorem gX10_left_X9_end_n1 : GoodIn wsX10_left (wsX9_end) := ggX10_left_X9_end
theorem dX10_left_0 : decode cX10_left 0 = .ok (.aload_n 2, 1) := by decide +kernel
theorem dX10_left_1 : decode cX10_left 1 = .ok (.arraylength, 1) := by decide +kernel
theorem dX10_left_2 : decode cX10_left 2 = .ok (.iconst 1, 1) := by decide +kernel
theorem dX10_left_3 : decode cX10_left 3 = .ok (.iadd, 1) := by decide +kernel
theorem dX10_left_4 : decode cX10_left 4 = .ok (.aload 4, 2) := by decide +kernel
theorem dX10_left_6 : decode cX10_left 6 = .ok (.arraylength, 1) := by decide +kernel
theorem dX10_left_7 : decode cX10_left 7 = .ok (.iconst 1, 1) := by decide +kernel
theorem dX10_left_8 : decode cX10_left 8 = .ok (.iadd, 1) := by decide +kernel
theorem dX10_left_9 : decode cX10_left 9 = .ok (.multianewarray 51 2, 4) := by decide +kernel
theorem dX10_left_13 : decode cX10_left 13 = .ok (.astore 5, 2) := by decide +kernel
theorem dX10_left_15 : decode cX10_left 15 = .ok (.aload_n 2, 1) := by decide +kernel
theorem dX10_left_16 : decode cX10_left 16 = .ok (.arraylength, 1) := by decide +kernel
theorem dX10_left_17 : decode cX10_left 17 = .ok (.istore 6, 2) := by decide +kernel
theorem dX10_left_19 : decode cX10_left 19 = .ok (.iload 6, 2) := by decide +kernel
theorem dX10_left_21 : decode cX10_left 21 = .ok (.ifCond .lt 207, 3) := by decide +kernel
theorem dX10_left_24 : decode cX10_left 24 = .ok (.aload 4, 2) := by decide +kernel
theorem dX10_left_26 : decode cX10_left 26 = .ok (.arraylength, 1) := by decide +kernel
theorem dX10_left_27 : decode cX10_left 27 = .ok (.istore 7, 2) := by decide +kernel
theorem dX10_left_29 : decode cX10_left 29 = .ok (.iload 7, 2) := by decide +kernel
theorem dX10_left_31 : decode cX10_left 31 = .ok (.ifCond .lt 191, 3) := by decide +kernel
theorem dX10_left_34 : decode cX10_left 34 = .ok (.iload 6, 2) := by decide +kernel
theorem dX10_left_36 : decode cX10_left 36 = .ok (.aload_n 2, 1) := by decide +kernel
theorem dX10_left_37 : decode cX10_left 37 = .ok (.arraylength, 1) := by decide +kernel
theorem dX10_left_38 : decode cX10_left 38 = .ok (.if_icmp .ne 14, 3) := by decide +kernel
theorem dX10_left_41 : decode cX10_left 41 = .ok (.iload 7, 2) := by decide +kernel
theorem dX10_left_43 : decode cX10_left 43 = .ok (.aload 4, 2) := by decide +kernel
theorem dX10_left_45 : decode cX10_left 45 = .ok (.arraylength, 1) := by decide +kernel
theorem dX10_left_46 : decode cX10_left 46 = .ok (.if_icmp .ne 6, 3) := by decide +kernel
theorem dX10_left_49 : decode cX10_left 49 = .ok (.goto 167, 3) := by decide +kernel
theorem dX10_left_52 : decode cX10_left 52 = .ok (.ldc 231, 2) := by decide +kernel
theorem dX10_left_54 : decode cX10_left 54 = .ok (.istore 8, 2) := by decide +kernel
theorem dX10_left_56 : decode cX10_left 56 = .ok (.iload 6, 2) := by decide +kernel
theorem dX10_left_58 : decode cX10_left 58 = .ok (.aload_n 2, 1) := by decide +kernel
theorem dX10_left_59 : decode cX10_left 59 = .ok (.arraylength, 1) := by decide +kernel
theorem dX10_left_60 : decode cX10_left 60 = .ok (.if_icmp .ge 31, 3) := by decide +kernel
theorem dX10_left_63 : decode cX10_left 63 = .ok (.iconst 2, 1) := by decide +kernel
theorem dX10_left_64 : decode cX10_left 64 = .ok (.aload_n 1, 1) := by decide +kernel
theorem dX10_left_65 : decode cX10_left 65 = .ok (.aload_n 2, 1) := by decide +kernel
theorem dX10_left_66 : decode cX10_left 66 = .ok (.iload 6, 2) := by decide +kernel
theorem dX10_left_68 : decode cX10_left 68 = .ok (.iaload, 1) := by decide +kernel
theorem dX10_left_69 : decode cX10_left 69 = .ok (.invokevirtual 1, 3) := by decide +kernel
theorem dX10_left_72 : decode cX10_left 72 = .ok (.aload_n 2, 1) := by decide +kernel
theorem dX10_left_73 : decode cX10_left 73 = .ok (.iload 6, 2) := by decide +kernel
theorem dX10_left_75 : decode cX10_left 75 = .ok (.iaload, 1) := by decide +kernel
theorem dX10_left_76 : decode cX10_left 76 = .ok (.isub, 1) := by decide +kernel
theorem dX10_left_77 : decode cX10_left 77 = .ok (.imul, 1) := by decide +kernel
theorem dX10_left_78 : decode cX10_left 78 = .ok (.aload 5, 2) := by decide +kernel
theorem dX10_left_80 : decode cX10_left 80 = .ok (.iload 6, 2) := by decide +kernel
theorem dX10_left_82 : decode cX10_left 82 = .ok (.iconst 1, 1) := by decide +kernel
theorem dX10_left_83 : decode cX10_left 83 = .ok (.iadd, 1) := by decide +kernel
theorem dX10_left_84 : decode cX10_left 84 = .ok (.aaload, 1) := by decide +kernel
theorem dX10_left_85 : decode cX10_left 85 = .ok (.iload 7, 2) := by decide +kernel
theorem dX10_left_87 : decode cX10_left 87 = .ok (.iaload, 1) := by decide +kernel
theorem dX10_left_88 : decode cX10_left 88 = .ok (.iadd, 1) := by decide +kernel
theorem dX10_left_89 : decode cX10_left 89 = .ok (.istore 8, 2) := by decide +kernel
theorem dX10_left_91 : decode cX10_left 91 = .ok (.iload 7, 2) := by decide +kernel
theorem dX10_left_93 : decode cX10_left 93 = .ok (.aload 4, 2) := by decide +kernel
theorem dX10_left_95 : decode cX10_left 95 = .ok (.arraylength, 1) := by decide +kernel
theorem dX10_left_96 : decode cX10_left 96 = .ok (.if_icmp .ge 38, 3) := by decide +kernel
theorem dX10_left_99 : decode cX10_left 99 = .ok (.iload 8, 2) := by decide +kernel
theorem dX10_left_101 : decode cX10_left 101 = .ok (.iconst 2, 1) := by decide +kernel
theorem dX10_left_102 : decode cX10_left 102 = .ok (.aload_n 3, 1) := by decide +kernel
theorem dX10_left_103 : decode cX10_left 103 = .ok (.aload 4, 2) := by decide +kernel
theorem dX10_left_105 : decode cX10_left 105 = .ok (.iload 7, 2) := by decide +kernel
theorem dX10_left_107 : decode cX10_left 107 = .ok (.iaload, 1) := by decide +kernel
theorem dX10_left_108 : decode cX10_left 108 = .ok (.invokevirtual 1, 3) := by decide +kernel
theorem dX10_left_111 : decode cX10_left 111 = .ok (.aload 4, 2) := by decide +kernel
theorem dX10_left_113 : decode cX10_left 113 = .ok (.iload 7, 2) := by decide +kernel
theorem dX10_left_115 : decode cX10_left 115 = .ok (.iaload, 1) := by decide +kernel
theorem dX10_left_116 : decode cX10_left 116 = .ok (.isub, 1) := by decide +kernel
theorem dX10_left_117 : decode cX10_left 117 = .ok (.imul, 1) := by decide +kernel
theorem dX10_left_118 : decode cX10_left 118 = .ok (.aload 5, 2) := by decide +kernel
theorem dX10_left_120 : decode cX10_left 120 = .ok (.iload 6, 2) := by decide +kernel
theorem dX10_left_122 : decode cX10_left 122 = .ok (.aaload, 1) := by decide +kernel
theorem dX10_left_123 : decode cX10_left 123 = .ok (.iload 7, 2) := by decide +kernel
theorem dX10_left_125 : decode cX10_left 125 = .ok (.iconst 1, 1) := by decide +kernel
theorem dX10_left_126 : decode cX10_left 126 = .ok (.iadd, 1) := by decide +kernel
theorem dX10_left_127 : decode cX10_left 127 = .ok (.iaload, 1) := by decide +kernel
theorem dX10_left_128 : decode cX10_left 128 = .ok (.iadd, 1) := by decide +kernel
theorem dX10_left_129 : decode cX10_left 129 = .ok (.invokestatic 232, 3) := by decide +kernel
theorem dX10_left_132 : decode cX10_left 132 = .ok (.istore 8, 2) := by decide +kernel
theorem dX10_left_134 : decode cX10_left 134 = .ok (.iload 6, 2) := by decide +kernel
theorem dX10_left_136 : decode cX10_left 136 = .ok (.aload_n 2, 1) := by decide +kernel
theorem dX10_left_137 : decode cX10_left 137 = .ok (.arraylength, 1) := by decide +kernel
theorem dX10_left_138 : decode cX10_left 138 = .ok (.if_icmp .ge 68, 3) := by decide +kernel
theorem dX10_left_141 : decode cX10_left 141 = .ok (.iload 7, 2) := by decide +kernel
theorem dX10_left_143 : decode cX10_left 143 = .ok (.aload 4, 2) := by decide +kernel
theorem dX10_left_145 : decode cX10_left 145 = .ok (.arraylength, 1) := by decide +kernel
theorem dX10_left_146 : decode cX10_left 146 = .ok (.if_icmp .ge 60, 3) := by decide +kernel
theorem dX10_left_149 : decode cX10_left 149 = .ok (.aload_n 1, 1) := by decide +kernel
theorem dX10_left_150 : decode cX10_left 150 = .ok (.getfield 14, 3) := by decide +kernel
theorem dX10_left_153 : decode cX10_left 153 = .ok (.aload_n 2, 1) := by decide +kernel
theorem dX10_left_154 : decode cX10_left 154 = .ok (.iload 6, 2) := by decide +kernel
theorem dX10_left_156 : decode cX10_left 156 = .ok (.iaload, 1) := by decide +kernel
theorem dX10_left_157 : decode cX10_left 157 = .ok (.iaload, 1) := by decide +kernel
theorem dX10_left_158 : decode cX10_left 158 = .ok (.aload_n 3, 1) := by decide +kernel
theorem dX10_left_159 : decode cX10_left 159 = .ok (.getfield 14, 3) := by decide +kernel
theorem dX10_left_162 : decode cX10_left 162 = .ok (.aload 4, 2) := by decide +kernel
theorem dX10_left_164 : decode cX10_left 164 = .ok (.iload 7, 2) := by decide +kernel
theorem dX10_left_166 : decode cX10_left 166 = .ok (.iaload, 1) := by decide +kernel
theorem dX10_left_167 : decode cX10_left 167 = .ok (.iaload, 1) := by decide +kernel
theorem dX10_left_168 : decode cX10_left 168 = .ok (.if_icmp .ne 38, 3) := by decide +kernel
theorem dX10_left_171 : decode cX10_left 171 = .ok (.iload 8, 2) := by decide +kernel
theorem dX10_left_173 : decode cX10_left 173 = .ok (.aload_n 0, 1) := by decide +kernel
theorem dX10_left_174 : decode cX10_left 174 = .ok (.getfield 53, 3) := by decide +kernel
theorem dX10_left_177 : decode cX10_left 177 = .ok (.aload_n 2, 1) := by decide +kernel
theorem dX10_left_178 : decode cX10_left 178 = .ok (.iload 6, 2) := by decide +kernel
theorem dX10_left_180 : decode cX10_left 180 = .ok (.iaload, 1) := by decide +kernel
theorem dX10_left_181 : decode cX10_left 181 = .ok (.aaload, 1) := by decide +kernel
theorem dX10_left_182 : decode cX10_left 182 = .ok (.aload 4, 2) := by decide +kernel
theorem dX10_left_184 : decode cX10_left 184 = .ok (.iload 7, 2) := by decide +kernel
theorem dX10_left_186 : decode cX10_left 186 = .ok (.iaload, 1) := by decide +kernel
theorem dX10_left_187 : decode cX10_left 187 = .ok (.iaload, 1) := by decide +kernel
theorem dX10_left_188 : decode cX10_left 188 = .ok (.aload 5, 2) := by decide +kernel
theorem dX10_left_190 : decode cX10_left 190 = .ok (.iload 6, 2) := by decide +kernel
theorem dX10_left_192 : decode cX10_left 192 = .ok (.iconst 1, 1) := by decide +kernel
theorem dX10_left_193 : decode cX10_left 193 = .ok (.iadd, 1) := by decide +kernel
theorem dX10_left_194 : decode cX10_left 194 = .ok (.aaload, 1) := by decide +kernel
theorem dX10_left_195 : decode cX10_left 195 = .ok (.iload 7, 2) := by decide +kernel
theorem dX10_left_197 : decode cX10_left 197 = .ok (.iconst 1, 1) := by decide +kernel
theorem dX10_left_198 : decode cX10_left 198 = .ok (.iadd, 1) := by decide +kernel
theorem dX10_left_199 : decode cX10_left 199 = .ok (.iaload, 1) := by decide +kernel
theorem dX10_left_200 : decode cX10_left 200 = .ok (.iadd, 1) := by decide +kernel
theorem dX10_left_201 : decode cX10_left 201 = .ok (.invokestatic 232, 3) := by decide +kernel
theorem dX10_left_204 : decode cX10_left 204 = .ok (.istore 8, 2) := by decide +kernel
theorem dX10_left_206 : decode cX10_left 206 = .ok (.aload 5, 2) := by decide +kernel
theorem dX10_left_208 : decode cX10_left 208 = .ok (.iload 6, 2) := by decide +kernel
theorem dX10_left_210 : decode cX10_left 210 = .ok (.aaload, 1) := by decide +kernel
theorem dX10_left_211 : decode cX10_left 211 = .ok (.iload 7, 2) := by decide +kernel
theorem dX10_left_213 : decode cX10_left 213 = .ok (.iload 8, 2) := by decide +kernel
theorem dX10_left_215 : decode cX10_left 215 = .ok (.iastore, 1) := by decide +kernel
theorem dX10_left_216 : decode cX10_left 216 = .ok (.iinc 7 (-1), 3) := by decide +kernel
theorem dX10_left_219 : decode cX10_left 219 = .ok (.goto (-190), 3) := by decide +kernel
theorem dX10_left_222 : decode cX10_left 222 = .ok (.iinc 6 (-1), 3) := by decide +kernel
theorem dX10_left_225 : decode cX10_left 225 = .ok (.goto (-206), 3) := by decide +kernel
theorem dX10_left_228 : decode cX10_left 228 = .ok (.aload 5, 2) := by decide +kernel
theorem dX10_left_230 : decode cX10_left 230 = .ok (.areturn, 1) := by decide +kernel
set_option maxRecDepth 20000 in
theorem ggX10_fills_X9_kids : GoodIn wsX10_fills wsX9_kids := goodIn_r _ [5, 6, 7, 8, 9, 10, 11, 3, 12, 27, 28, 29, 30, 31] (by decide +kernel) (by decide +kernel)
set_option maxRecDepth 20000 in
theorem gX10_fills_X9_kids_n173 : GoodIn wsX10_fills (wsX9_kids) := ggX10_fills_X9_kids
set_option maxRecDepth 20000 in
theorem ggX10_fills_X10_left : GoodIn wsX10_fills wsX10_left := goodIn_r _ [17, 18, 6, 19, 20, 21, 22, 23, 1, 24, 3, 25, 26, 7, 8, 27, 28, 29, 30, 31, 32, 33, 34, 35, 36, 37, 38, 39, 40, 41, 42, 43, 44, 45, 46, 47, 48, 49, 50, 51, 52, 53, 54, 55, 56, 57, 58, 59, 60, 61, 62] (by decide +kernel) (by decide +kernel)
set_option maxRecDepth 20000 in
theorem gX10_fills_X10_left : GoodIn wsX10_fills (wsV RX10 238 RX10 yX10_left wsX10_left) := goodIn_app (goodIn_of _ (by decide +kernel)) ggX10_fills_X10_left
theorem dX10_fills_0 : decode cX10_fills 0 = .ok (.aload_n 1, 1) := by decide +kernel
theorem dX10_fills_1 : decode cX10_fills 1 = .ok (.getfield 116, 3) := by decide +kernel
theorem dX10_fills_4 : decode cX10_fills 4 = .ok (.iconst 1, 1) := by decide +kernel
theorem dX10_fills_5 : decode cX10_fills 5 = .ok (.isub, 1) := by decide +kernel
theorem dX10_fills_6 : decode cX10_fills 6 = .ok (.istore_n 3, 1) := by decide +kernel
theorem dX10_fills_7 : decode cX10_fills 7 = .ok (.iload_n 3, 1) := by decide +kernel
theorem dX10_fills_8 : decode cX10_fills 8 = .ok (.ifCond .lt 106, 3) := by decide +kernel
theorem dX10_fills_11 : decode cX10_fills 11 = .ok (.aload_n 2, 1) := by decide +kernel
theorem dX10_fills_12 : decode cX10_fills 12 = .ok (.getfield 116, 3) := by decide +kernel
theorem dX10_fills_15 : decode cX10_fills 15 = .ok (.iconst 1, 1) := by decide +kernel
theorem dX10_fills_16 : decode cX10_fills 16 = .ok (.isub, 1) := by decide +kernel
theorem dX10_fills_17 : decode cX10_fills 17 = .ok (.istore 4, 2) := by decide +kernel
theorem dX10_fills_19 : decode cX10_fills 19 = .ok (.iload 4, 2) := by decide +kernel
theorem dX10_fills_21 : decode cX10_fills 21 = .ok (.ifCond .lt 87, 3) := by decide +kernel
theorem dX10_fills_24 : decode cX10_fills 24 = .ok (.aload_n 1, 1) := by decide +kernel
theorem dX10_fills_25 : decode cX10_fills 25 = .ok (.getfield 11, 3) := by decide +kernel
theorem dX10_fills_28 : decode cX10_fills 28 = .ok (.iload_n 3, 1) := by decide +kernel
theorem dX10_fills_29 : decode cX10_fills 29 = .ok (.iaload, 1) := by decide +kernel
theorem dX10_fills_30 : decode cX10_fills 30 = .ok (.aload_n 2, 1) := by decide +kernel
theorem dX10_fills_31 : decode cX10_fills 31 = .ok (.getfield 11, 3) := by decide +kernel
theorem dX10_fills_34 : decode cX10_fills 34 = .ok (.iload 4, 2) := by decide +kernel
theorem dX10_fills_36 : decode cX10_fills 36 = .ok (.iaload, 1) := by decide +kernel
theorem dX10_fills_37 : decode cX10_fills 37 = .ok (.if_icmp .ne 7, 3) := by decide +kernel
theorem dX10_fills_40 : decode cX10_fills 40 = .ok (.iconst 0, 1) := by decide +kernel
theorem dX10_fills_41 : decode cX10_fills 41 = .ok (.goto 4, 3) := by decide +kernel
theorem dX10_fills_44 : decode cX10_fills 44 = .ok (.iconst 3, 1) := by decide +kernel
theorem dX10_fills_45 : decode cX10_fills 45 = .ok (.aload_n 1, 1) := by decide +kernel
theorem dX10_fills_46 : decode cX10_fills 46 = .ok (.getfield 17, 3) := by decide +kernel
theorem dX10_fills_49 : decode cX10_fills 49 = .ok (.iload_n 3, 1) := by decide +kernel
theorem dX10_fills_50 : decode cX10_fills 50 = .ok (.iaload, 1) := by decide +kernel
theorem dX10_fills_51 : decode cX10_fills 51 = .ok (.aload_n 2, 1) := by decide +kernel
theorem dX10_fills_52 : decode cX10_fills 52 = .ok (.getfield 17, 3) := by decide +kernel
theorem dX10_fills_55 : decode cX10_fills 55 = .ok (.iload 4, 2) := by decide +kernel
theorem dX10_fills_57 : decode cX10_fills 57 = .ok (.iaload, 1) := by decide +kernel
theorem dX10_fills_58 : decode cX10_fills 58 = .ok (.if_icmp .ne 7, 3) := by decide +kernel
theorem dX10_fills_61 : decode cX10_fills 61 = .ok (.iconst 0, 1) := by decide +kernel
theorem dX10_fills_62 : decode cX10_fills 62 = .ok (.goto 4, 3) := by decide +kernel
theorem dX10_fills_65 : decode cX10_fills 65 = .ok (.iconst 1, 1) := by decide +kernel
theorem dX10_fills_66 : decode cX10_fills 66 = .ok (.iadd, 1) := by decide +kernel
theorem dX10_fills_67 : decode cX10_fills 67 = .ok (.istore 5, 2) := by decide +kernel
theorem dX10_fills_69 : decode cX10_fills 69 = .ok (.aload_n 0, 1) := by decide +kernel
theorem dX10_fills_70 : decode cX10_fills 70 = .ok (.getfield 53, 3) := by decide +kernel
theorem dX10_fills_73 : decode cX10_fills 73 = .ok (.iload_n 3, 1) := by decide +kernel
theorem dX10_fills_74 : decode cX10_fills 74 = .ok (.aaload, 1) := by decide +kernel
theorem dX10_fills_75 : decode cX10_fills 75 = .ok (.iload 4, 2) := by decide +kernel
theorem dX10_fills_77 : decode cX10_fills 77 = .ok (.iload 5, 2) := by decide +kernel
theorem dX10_fills_79 : decode cX10_fills 79 = .ok (.aload_n 0, 1) := by decide +kernel
theorem dX10_fills_80 : decode cX10_fills 80 = .ok (.aload_n 1, 1) := by decide +kernel
theorem dX10_fills_81 : decode cX10_fills 81 = .ok (.aload_n 1, 1) := by decide +kernel
theorem dX10_fills_82 : decode cX10_fills 82 = .ok (.iload_n 3, 1) := by decide +kernel
theorem dX10_fills_83 : decode cX10_fills 83 = .ok (.invokevirtual 173, 3) := by decide +kernel
theorem dX10_fills_86 : decode cX10_fills 86 = .ok (.aload_n 2, 1) := by decide +kernel
theorem dX10_fills_87 : decode cX10_fills 87 = .ok (.aload_n 2, 1) := by decide +kernel
theorem dX10_fills_88 : decode cX10_fills 88 = .ok (.iload 4, 2) := by decide +kernel
theorem dX10_fills_90 : decode cX10_fills 90 = .ok (.invokevirtual 173, 3) := by decide +kernel
theorem dX10_fills_93 : decode cX10_fills 93 = .ok (.invokevirtual 238, 3) := by decide +kernel
theorem dX10_fills_96 : decode cX10_fills 96 = .ok (.iconst 0, 1) := by decide +kernel
theorem dX10_fills_97 : decode cX10_fills 97 = .ok (.aaload, 1) := by decide +kernel
theorem dX10_fills_98 : decode cX10_fills 98 = .ok (.iconst 0, 1) := by decide +kernel
theorem dX10_fills_99 : decode cX10_fills 99 = .ok (.iaload, 1) := by decide +kernel
theorem dX10_fills_100 : decode cX10_fills 100 = .ok (.iadd, 1) := by decide +kernel
theorem dX10_fills_101 : decode cX10_fills 101 = .ok (.iastore, 1) := by decide +kernel
theorem dX10_fills_102 : decode cX10_fills 102 = .ok (.iinc 4 (-1), 3) := by decide +kernel
theorem dX10_fills_105 : decode cX10_fills 105 = .ok (.goto (-86), 3) := by decide +kernel
theorem dX10_fills_108 : decode cX10_fills 108 = .ok (.iinc 3 (-1), 3) := by decide +kernel
theorem dX10_fills_111 : decode cX10_fills 111 = .ok (.goto (-104), 3) := by decide +kernel
theorem dX10_fills_114 : decode cX10_fills 114 = .ok (.aload_n 0, 1) := by decide +kernel
theorem dX10_fills_115 : decode cX10_fills 115 = .ok (.getfield 53, 3) := by decide +kernel
theorem dX10_fills_118 : decode cX10_fills 118 = .ok (.iconst 0, 1) := by decide +kernel
theorem dX10_fills_119 : decode cX10_fills 119 = .ok (.aaload, 1) := by decide +kernel
theorem dX10_fills_120 : decode cX10_fills 120 = .ok (.iconst 0, 1) := by decide +kernel
theorem dX10_fills_121 : decode cX10_fills 121 = .ok (.iaload, 1) := by decide +kernel
theorem dX10_fills_122 : decode cX10_fills 122 = .ok (.ireturn, 1) := by decide +kernel
theorem dX10_notes_0 : decode cX10_notes 0 = .ok (.aload_n 0, 1) := by decide +kernel
theorem dX10_notes_1 : decode cX10_notes 1 = .ok (.getfield 56, 3) := by decide +kernel
theorem dX10_notes_4 : decode cX10_notes 4 = .ok (.aload_n 0, 1) := by decide +kernel
theorem dX10_notes_5 : decode cX10_notes 5 = .ok (.getfield 242, 3) := by decide +kernel
theorem dX10_notes_8 : decode cX10_notes 8 = .ok (.iload_n 1, 1) := by decide +kernel
theorem dX10_notes_9 : decode cX10_notes 9 = .ok (.castore, 1) := by decide +kernel
theorem dX10_notes_10 : decode cX10_notes 10 = .ok (.aload_n 0, 1) := by decide +kernel
theorem dX10_notes_11 : decode cX10_notes 11 = .ok (.getfield 59, 3) := by decide +kernel
theorem dX10_notes_14 : decode cX10_notes 14 = .ok (.aload_n 0, 1) := by decide +kernel
theorem dX10_notes_15 : decode cX10_notes 15 = .ok (.getfield 242, 3) := by decide +kernel
theorem dX10_notes_18 : decode cX10_notes 18 = .ok (.iload_n 2, 1) := by decide +kernel
theorem dX10_notes_19 : decode cX10_notes 19 = .ok (.iastore, 1) := by decide +kernel
theorem dX10_notes_20 : decode cX10_notes 20 = .ok (.aload_n 0, 1) := by decide +kernel
theorem dX10_notes_21 : decode cX10_notes 21 = .ok (.getfield 62, 3) := by decide +kernel
theorem dX10_notes_24 : decode cX10_notes 24 = .ok (.aload_n 0, 1) := by decide +kernel
theorem dX10_notes_25 : decode cX10_notes 25 = .ok (.getfield 242, 3) := by decide +kernel
theorem dX10_notes_28 : decode cX10_notes 28 = .ok (.iload_n 3, 1) := by decide +kernel
theorem dX10_notes_29 : decode cX10_notes 29 = .ok (.iastore, 1) := by decide +kernel
theorem dX10_notes_30 : decode cX10_notes 30 = .ok (.aload_n 0, 1) := by decide +kernel
theorem dX10_notes_31 : decode cX10_notes 31 = .ok (.dup, 1) := by decide +kernel
theorem dX10_notes_32 : decode cX10_notes 32 = .ok (.getfield 242, 3) := by decide +kernel
theorem dX10_notes_35 : decode cX10_notes 35 = .ok (.iconst 1, 1) := by decide +kernel
theorem dX10_notes_36 : decode cX10_notes 36 = .ok (.iadd, 1) := by decide +kernel
theorem dX10_notes_37 : decode cX10_notes 37 = .ok (.putfield 242, 3) := by decide +kernel
theorem dX10_notes_40 : decode cX10_notes 40 = .ok (.return_, 1) := by decide +kernel
set_option maxRecDepth 20000 in
theorem ggX10_pairs_X10_notes : GoodIn wsX10_pairs wsX10_notes := goodIn_r _ [8, 9, 10, 11, 12, 40, 41, 42, 43, 44, 45, 46, 47, 48, 49, 50, 51, 52, 53, 54, 55, 56, 57, 58, 59, 60, 61, 62, 63, 64, 65, 66, 67, 68, 69, 70] (by decide +kernel) (by decide +kernel)
set_option maxRecDepth 20000 in
theorem gX10_pairs_X10_notes : GoodIn wsX10_pairs (wsV RX10 245 RX10 yX10_notes wsX10_notes) := goodIn_app (goodIn_of _ (by decide +kernel)) ggX10_pairs_X10_notes
set_option maxRecDepth 20000 in
theorem ggX10_pairs_X9_kids : GoodIn wsX10_pairs wsX9_kids := goodIn_r _ [16, 17, 18, 19, 20, 21, 22, 14, 23, 71, 72, 73, 74, 75] (by decide +kernel) (by decide +kernel)
set_option maxRecDepth 20000 in
theorem gX10_pairs_X9_kids_n173 : GoodIn wsX10_pairs (wsX9_kids) := ggX10_pairs_X9_kids
set_option maxRecDepth 20000 in
theorem ggX10_pairs_X10_left : GoodIn wsX10_pairs wsX10_left := goodIn_r _ [27, 28, 17, 29, 30, 31, 32, 33, 3, 34, 14, 35, 36, 18, 19, 71, 72, 73, 74, 75, 40, 41, 42, 43, 44, 45, 46, 47, 48, 49, 50, 51, 52, 53, 54, 55, 56, 57, 58, 59, 60, 61, 62, 63, 64, 65, 66, 67, 68, 69, 70] (by decide +kernel) (by decide +kernel)
set_option maxRecDepth 20000 in
theorem gX10_pairs_X10_left : GoodIn wsX10_pairs (wsV RX10 238 RX10 yX10_left wsX10_left) := goodIn_app (goodIn_of _ (by decide +kernel)) ggX10_pairs_X10_left
set_option maxRecDepth 20000 in
theorem ggX10_pairs_X10_pairs : GoodIn wsX10_pairs wsX10_pairs := goodIn_r _ [0, 1, 2, 3, 4, 5, 6, 7, 8, 9, 10, 11, 12, 13, 14, 15, 16, 17, 18, 19, 20, 21, 22, 23, 24, 25, 26, 27, 28, 29, 30, 31, 32, 33, 34, 35, 36, 37, 38, 39, 40, 41, 42, 43, 44, 45, 46, 47, 48, 49, 50, 51, 52, 53, 54, 55, 56, 57, 58, 59, 60, 61, 62, 63, 64, 65, 66, 67, 68, 69, 70, 71, 72, 73, 74, 75] (by decide +kernel) (by decide +kernel)
set_option maxRecDepth 20000 in
theorem gX10_pairs_X10_pairs : GoodIn wsX10_pairs (wsV RX10 249 RX10 yX10_pairs wsX10_pairs) := goodIn_app (goodIn_of _ (by decide +kernel)) ggX10_pairs_X10_pairs
set_option maxRecDepth 20000 in
theorem ggX10_pairs_X9_end : GoodIn wsX10_pairs wsX9_end := goodIn_r _ [36, 18, 19, 71, 72, 73, 74, 75] (by decide +kernel) (by decide +kernel)
set_option maxRecDepth 20000 in
theorem gX10_pairs_X9_end_n1 : GoodIn wsX10_pairs (wsX9_end) := ggX10_pairs_X9_end
theorem dX10_pairs_0 : decode cX10_pairs 0 = .ok (.aload_n 0, 1) := by decide +kernel
theorem dX10_pairs_1 : decode cX10_pairs 1 = .ok (.getfield 65, 3) := by decide +kernel
theorem dX10_pairs_4 : decode cX10_pairs 4 = .ok (.iload_n 2, 1) := by decide +kernel
theorem dX10_pairs_5 : decode cX10_pairs 5 = .ok (.iload 4, 2) := by decide +kernel
theorem dX10_pairs_7 : decode cX10_pairs 7 = .ok (.iastore, 1) := by decide +kernel
theorem dX10_pairs_8 : decode cX10_pairs 8 = .ok (.aload_n 0, 1) := by decide +kernel
theorem dX10_pairs_9 : decode cX10_pairs 9 = .ok (.getfield 68, 3) := by decide +kernel
theorem dX10_pairs_12 : decode cX10_pairs 12 = .ok (.iload 4, 2) := by decide +kernel
theorem dX10_pairs_14 : decode cX10_pairs 14 = .ok (.iload_n 2, 1) := by decide +kernel
theorem dX10_pairs_15 : decode cX10_pairs 15 = .ok (.iastore, 1) := by decide +kernel
theorem dX10_pairs_16 : decode cX10_pairs 16 = .ok (.aload_n 1, 1) := by decide +kernel
theorem dX10_pairs_17 : decode cX10_pairs 17 = .ok (.getfield 11, 3) := by decide +kernel
theorem dX10_pairs_20 : decode cX10_pairs 20 = .ok (.iload_n 2, 1) := by decide +kernel
theorem dX10_pairs_21 : decode cX10_pairs 21 = .ok (.iaload, 1) := by decide +kernel
theorem dX10_pairs_22 : decode cX10_pairs 22 = .ok (.aload_n 3, 1) := by decide +kernel
theorem dX10_pairs_23 : decode cX10_pairs 23 = .ok (.getfield 11, 3) := by decide +kernel
theorem dX10_pairs_26 : decode cX10_pairs 26 = .ok (.iload 4, 2) := by decide +kernel
theorem dX10_pairs_28 : decode cX10_pairs 28 = .ok (.iaload, 1) := by decide +kernel
theorem dX10_pairs_29 : decode cX10_pairs 29 = .ok (.if_icmp .eq 12, 3) := by decide +kernel
theorem dX10_pairs_32 : decode cX10_pairs 32 = .ok (.aload_n 0, 1) := by decide +kernel
theorem dX10_pairs_33 : decode cX10_pairs 33 = .ok (.bipush 108, 2) := by decide +kernel
theorem dX10_pairs_35 : decode cX10_pairs 35 = .ok (.iload_n 2, 1) := by decide +kernel
theorem dX10_pairs_36 : decode cX10_pairs 36 = .ok (.iload 4, 2) := by decide +kernel
theorem dX10_pairs_38 : decode cX10_pairs 38 = .ok (.invokevirtual 245, 3) := by decide +kernel
theorem dX10_pairs_41 : decode cX10_pairs 41 = .ok (.aload_n 1, 1) := by decide +kernel
theorem dX10_pairs_42 : decode cX10_pairs 42 = .ok (.getfield 17, 3) := by decide +kernel
theorem dX10_pairs_45 : decode cX10_pairs 45 = .ok (.iload_n 2, 1) := by decide +kernel
theorem dX10_pairs_46 : decode cX10_pairs 46 = .ok (.iaload, 1) := by decide +kernel
theorem dX10_pairs_47 : decode cX10_pairs 47 = .ok (.aload_n 3, 1) := by decide +kernel
theorem dX10_pairs_48 : decode cX10_pairs 48 = .ok (.getfield 17, 3) := by decide +kernel
theorem dX10_pairs_51 : decode cX10_pairs 51 = .ok (.iload 4, 2) := by decide +kernel
theorem dX10_pairs_53 : decode cX10_pairs 53 = .ok (.iaload, 1) := by decide +kernel
theorem dX10_pairs_54 : decode cX10_pairs 54 = .ok (.if_icmp .eq 12, 3) := by decide +kernel
theorem dX10_pairs_57 : decode cX10_pairs 57 = .ok (.aload_n 0, 1) := by decide +kernel
theorem dX10_pairs_58 : decode cX10_pairs 58 = .ok (.bipush 118, 2) := by decide +kernel
theorem dX10_pairs_60 : decode cX10_pairs 60 = .ok (.iload_n 2, 1) := by decide +kernel
theorem dX10_pairs_61 : decode cX10_pairs 61 = .ok (.iload 4, 2) := by decide +kernel
theorem dX10_pairs_63 : decode cX10_pairs 63 = .ok (.invokevirtual 245, 3) := by decide +kernel
theorem dX10_pairs_66 : decode cX10_pairs 66 = .ok (.aload_n 1, 1) := by decide +kernel
theorem dX10_pairs_67 : decode cX10_pairs 67 = .ok (.iload_n 2, 1) := by decide +kernel
theorem dX10_pairs_68 : decode cX10_pairs 68 = .ok (.invokevirtual 173, 3) := by decide +kernel
theorem dX10_pairs_71 : decode cX10_pairs 71 = .ok (.astore 5, 2) := by decide +kernel
theorem dX10_pairs_73 : decode cX10_pairs 73 = .ok (.aload_n 3, 1) := by decide +kernel
theorem dX10_pairs_74 : decode cX10_pairs 74 = .ok (.iload 4, 2) := by decide +kernel
theorem dX10_pairs_76 : decode cX10_pairs 76 = .ok (.invokevirtual 173, 3) := by decide +kernel
theorem dX10_pairs_79 : decode cX10_pairs 79 = .ok (.astore 6, 2) := by decide +kernel
theorem dX10_pairs_81 : decode cX10_pairs 81 = .ok (.aload_n 0, 1) := by decide +kernel
theorem dX10_pairs_82 : decode cX10_pairs 82 = .ok (.aload_n 1, 1) := by decide +kernel
theorem dX10_pairs_83 : decode cX10_pairs 83 = .ok (.aload 5, 2) := by decide +kernel
theorem dX10_pairs_85 : decode cX10_pairs 85 = .ok (.aload_n 3, 1) := by decide +kernel
theorem dX10_pairs_86 : decode cX10_pairs 86 = .ok (.aload 6, 2) := by decide +kernel
theorem dX10_pairs_88 : decode cX10_pairs 88 = .ok (.invokevirtual 238, 3) := by decide +kernel
theorem dX10_pairs_91 : decode cX10_pairs 91 = .ok (.astore 7, 2) := by decide +kernel
theorem dX10_pairs_93 : decode cX10_pairs 93 = .ok (.iconst 0, 1) := by decide +kernel
theorem dX10_pairs_94 : decode cX10_pairs 94 = .ok (.istore 8, 2) := by decide +kernel
theorem dX10_pairs_96 : decode cX10_pairs 96 = .ok (.iconst 0, 1) := by decide +kernel
theorem dX10_pairs_97 : decode cX10_pairs 97 = .ok (.istore 9, 2) := by decide +kernel
theorem dX10_pairs_99 : decode cX10_pairs 99 = .ok (.iload 8, 2) := by decide +kernel
theorem dX10_pairs_101 : decode cX10_pairs 101 = .ok (.aload 5, 2) := by decide +kernel
theorem dX10_pairs_103 : decode cX10_pairs 103 = .ok (.arraylength, 1) := by decide +kernel
theorem dX10_pairs_104 : decode cX10_pairs 104 = .ok (.if_icmp .lt 11, 3) := by decide +kernel
theorem dX10_pairs_107 : decode cX10_pairs 107 = .ok (.iload 9, 2) := by decide +kernel
theorem dX10_pairs_109 : decode cX10_pairs 109 = .ok (.aload 6, 2) := by decide +kernel
theorem dX10_pairs_111 : decode cX10_pairs 111 = .ok (.arraylength, 1) := by decide +kernel
theorem dX10_pairs_112 : decode cX10_pairs 112 = .ok (.if_icmp .ge 202, 3) := by decide +kernel
theorem dX10_pairs_115 : decode cX10_pairs 115 = .ok (.iload 8, 2) := by decide +kernel
theorem dX10_pairs_117 : decode cX10_pairs 117 = .ok (.aload 5, 2) := by decide +kernel
theorem dX10_pairs_119 : decode cX10_pairs 119 = .ok (.arraylength, 1) := by decide +kernel
theorem dX10_pairs_120 : decode cX10_pairs 120 = .ok (.if_icmp .ge 15, 3) := by decide +kernel
theorem dX10_pairs_123 : decode cX10_pairs 123 = .ok (.iload 9, 2) := by decide +kernel
theorem dX10_pairs_125 : decode cX10_pairs 125 = .ok (.aload 6, 2) := by decide +kernel
theorem dX10_pairs_127 : decode cX10_pairs 127 = .ok (.arraylength, 1) := by decide +kernel
theorem dX10_pairs_128 : decode cX10_pairs 128 = .ok (.if_icmp .ge 7, 3) := by decide +kernel
theorem dX10_pairs_131 : decode cX10_pairs 131 = .ok (.iconst 1, 1) := by decide +kernel
theorem dX10_pairs_132 : decode cX10_pairs 132 = .ok (.goto 4, 3) := by decide +kernel
theorem dX10_pairs_135 : decode cX10_pairs 135 = .ok (.iconst 0, 1) := by decide +kernel
theorem dX10_pairs_136 : decode cX10_pairs 136 = .ok (.istore 10, 2) := by decide +kernel
theorem dX10_pairs_138 : decode cX10_pairs 138 = .ok (.iload 10, 2) := by decide +kernel
theorem dX10_pairs_140 : decode cX10_pairs 140 = .ok (.ifCond .eq 91, 3) := by decide +kernel
theorem dX10_pairs_143 : decode cX10_pairs 143 = .ok (.aload_n 1, 1) := by decide +kernel
theorem dX10_pairs_144 : decode cX10_pairs 144 = .ok (.getfield 14, 3) := by decide +kernel
theorem dX10_pairs_147 : decode cX10_pairs 147 = .ok (.aload 5, 2) := by decide +kernel
theorem dX10_pairs_149 : decode cX10_pairs 149 = .ok (.iload 8, 2) := by decide +kernel
theorem dX10_pairs_151 : decode cX10_pairs 151 = .ok (.iaload, 1) := by decide +kernel
theorem dX10_pairs_152 : decode cX10_pairs 152 = .ok (.iaload, 1) := by decide +kernel
theorem dX10_pairs_153 : decode cX10_pairs 153 = .ok (.aload_n 3, 1) := by decide +kernel
theorem dX10_pairs_154 : decode cX10_pairs 154 = .ok (.getfield 14, 3) := by decide +kernel
theorem dX10_pairs_157 : decode cX10_pairs 157 = .ok (.aload 6, 2) := by decide +kernel
theorem dX10_pairs_159 : decode cX10_pairs 159 = .ok (.iload 9, 2) := by decide +kernel
theorem dX10_pairs_161 : decode cX10_pairs 161 = .ok (.iaload, 1) := by decide +kernel
theorem dX10_pairs_162 : decode cX10_pairs 162 = .ok (.iaload, 1) := by decide +kernel
theorem dX10_pairs_163 : decode cX10_pairs 163 = .ok (.if_icmp .ne 68, 3) := by decide +kernel
theorem dX10_pairs_166 : decode cX10_pairs 166 = .ok (.aload_n 0, 1) := by decide +kernel
theorem dX10_pairs_167 : decode cX10_pairs 167 = .ok (.getfield 53, 3) := by decide +kernel
theorem dX10_pairs_170 : decode cX10_pairs 170 = .ok (.aload 5, 2) := by decide +kernel
theorem dX10_pairs_172 : decode cX10_pairs 172 = .ok (.iload 8, 2) := by decide +kernel
theorem dX10_pairs_174 : decode cX10_pairs 174 = .ok (.iaload, 1) := by decide +kernel
theorem dX10_pairs_175 : decode cX10_pairs 175 = .ok (.aaload, 1) := by decide +kernel
theorem dX10_pairs_176 : decode cX10_pairs 176 = .ok (.aload 6, 2) := by decide +kernel
theorem dX10_pairs_178 : decode cX10_pairs 178 = .ok (.iload 9, 2) := by decide +kernel
theorem dX10_pairs_180 : decode cX10_pairs 180 = .ok (.iaload, 1) := by decide +kernel
theorem dX10_pairs_181 : decode cX10_pairs 181 = .ok (.iaload, 1) := by decide +kernel
theorem dX10_pairs_182 : decode cX10_pairs 182 = .ok (.aload 7, 2) := by decide +kernel
theorem dX10_pairs_184 : decode cX10_pairs 184 = .ok (.iload 8, 2) := by decide +kernel
theorem dX10_pairs_186 : decode cX10_pairs 186 = .ok (.iconst 1, 1) := by decide +kernel
theorem dX10_pairs_187 : decode cX10_pairs 187 = .ok (.iadd, 1) := by decide +kernel
theorem dX10_pairs_188 : decode cX10_pairs 188 = .ok (.aaload, 1) := by decide +kernel
theorem dX10_pairs_189 : decode cX10_pairs 189 = .ok (.iload 9, 2) := by decide +kernel
theorem dX10_pairs_191 : decode cX10_pairs 191 = .ok (.iconst 1, 1) := by decide +kernel
theorem dX10_pairs_192 : decode cX10_pairs 192 = .ok (.iadd, 1) := by decide +kernel
theorem dX10_pairs_193 : decode cX10_pairs 193 = .ok (.iaload, 1) := by decide +kernel
theorem dX10_pairs_194 : decode cX10_pairs 194 = .ok (.iadd, 1) := by decide +kernel
theorem dX10_pairs_195 : decode cX10_pairs 195 = .ok (.aload 7, 2) := by decide +kernel
theorem dX10_pairs_197 : decode cX10_pairs 197 = .ok (.iload 8, 2) := by decide +kernel
theorem dX10_pairs_199 : decode cX10_pairs 199 = .ok (.aaload, 1) := by decide +kernel
theorem dX10_pairs_200 : decode cX10_pairs 200 = .ok (.iload 9, 2) := by decide +kernel
theorem dX10_pairs_202 : decode cX10_pairs 202 = .ok (.iaload, 1) := by decide +kernel
theorem dX10_pairs_203 : decode cX10_pairs 203 = .ok (.if_icmp .ne 28, 3) := by decide +kernel
theorem dX10_pairs_206 : decode cX10_pairs 206 = .ok (.aload_n 0, 1) := by decide +kernel
theorem dX10_pairs_207 : decode cX10_pairs 207 = .ok (.aload_n 1, 1) := by decide +kernel
theorem dX10_pairs_208 : decode cX10_pairs 208 = .ok (.aload 5, 2) := by decide +kernel
theorem dX10_pairs_210 : decode cX10_pairs 210 = .ok (.iload 8, 2) := by decide +kernel
theorem dX10_pairs_212 : decode cX10_pairs 212 = .ok (.iaload, 1) := by decide +kernel
theorem dX10_pairs_213 : decode cX10_pairs 213 = .ok (.aload_n 3, 1) := by decide +kernel
theorem dX10_pairs_214 : decode cX10_pairs 214 = .ok (.aload 6, 2) := by decide +kernel
theorem dX10_pairs_216 : decode cX10_pairs 216 = .ok (.iload 9, 2) := by decide +kernel
theorem dX10_pairs_218 : decode cX10_pairs 218 = .ok (.iaload, 1) := by decide +kernel
theorem dX10_pairs_219 : decode cX10_pairs 219 = .ok (.invokevirtual 249, 3) := by decide +kernel
theorem dX10_pairs_222 : decode cX10_pairs 222 = .ok (.iinc 8 1, 3) := by decide +kernel
theorem dX10_pairs_225 : decode cX10_pairs 225 = .ok (.iinc 9 1, 3) := by decide +kernel
theorem dX10_pairs_228 : decode cX10_pairs 228 = .ok (.goto 83, 3) := by decide +kernel
theorem dX10_pairs_231 : decode cX10_pairs 231 = .ok (.iload 8, 2) := by decide +kernel
theorem dX10_pairs_233 : decode cX10_pairs 233 = .ok (.aload 5, 2) := by decide +kernel
theorem dX10_pairs_235 : decode cX10_pairs 235 = .ok (.arraylength, 1) := by decide +kernel
theorem dX10_pairs_236 : decode cX10_pairs 236 = .ok (.if_icmp .ge 60, 3) := by decide +kernel
theorem dX10_pairs_239 : decode cX10_pairs 239 = .ok (.iconst 2, 1) := by decide +kernel
theorem dX10_pairs_240 : decode cX10_pairs 240 = .ok (.aload_n 1, 1) := by decide +kernel
theorem dX10_pairs_241 : decode cX10_pairs 241 = .ok (.aload 5, 2) := by decide +kernel
theorem dX10_pairs_243 : decode cX10_pairs 243 = .ok (.iload 8, 2) := by decide +kernel
theorem dX10_pairs_245 : decode cX10_pairs 245 = .ok (.iaload, 1) := by decide +kernel
theorem dX10_pairs_246 : decode cX10_pairs 246 = .ok (.invokevirtual 1, 3) := by decide +kernel
theorem dX10_pairs_249 : decode cX10_pairs 249 = .ok (.aload 5, 2) := by decide +kernel
theorem dX10_pairs_251 : decode cX10_pairs 251 = .ok (.iload 8, 2) := by decide +kernel
theorem dX10_pairs_253 : decode cX10_pairs 253 = .ok (.iaload, 1) := by decide +kernel
theorem dX10_pairs_254 : decode cX10_pairs 254 = .ok (.isub, 1) := by decide +kernel
theorem dX10_pairs_255 : decode cX10_pairs 255 = .ok (.imul, 1) := by decide +kernel
theorem dX10_pairs_256 : decode cX10_pairs 256 = .ok (.aload 7, 2) := by decide +kernel
theorem dX10_pairs_258 : decode cX10_pairs 258 = .ok (.iload 8, 2) := by decide +kernel
theorem dX10_pairs_260 : decode cX10_pairs 260 = .ok (.iconst 1, 1) := by decide +kernel
theorem dX10_pairs_261 : decode cX10_pairs 261 = .ok (.iadd, 1) := by decide +kernel
theorem dX10_pairs_262 : decode cX10_pairs 262 = .ok (.aaload, 1) := by decide +kernel
theorem dX10_pairs_263 : decode cX10_pairs 263 = .ok (.iload 9, 2) := by decide +kernel
theorem dX10_pairs_265 : decode cX10_pairs 265 = .ok (.iaload, 1) := by decide +kernel
theorem dX10_pairs_266 : decode cX10_pairs 266 = .ok (.iadd, 1) := by decide +kernel
theorem dX10_pairs_267 : decode cX10_pairs 267 = .ok (.aload 7, 2) := by decide +kernel
theorem dX10_pairs_269 : decode cX10_pairs 269 = .ok (.iload 8, 2) := by decide +kernel
theorem dX10_pairs_271 : decode cX10_pairs 271 = .ok (.aaload, 1) := by decide +kernel
theorem dX10_pairs_272 : decode cX10_pairs 272 = .ok (.iload 9, 2) := by decide +kernel
theorem dX10_pairs_274 : decode cX10_pairs 274 = .ok (.iaload, 1) := by decide +kernel
theorem dX10_pairs_275 : decode cX10_pairs 275 = .ok (.if_icmp .ne 21, 3) := by decide +kernel
theorem dX10_pairs_278 : decode cX10_pairs 278 = .ok (.aload_n 0, 1) := by decide +kernel
theorem dX10_pairs_279 : decode cX10_pairs 279 = .ok (.bipush 100, 2) := by decide +kernel
theorem dX10_pairs_281 : decode cX10_pairs 281 = .ok (.aload 5, 2) := by decide +kernel
theorem dX10_pairs_283 : decode cX10_pairs 283 = .ok (.iload 8, 2) := by decide +kernel
theorem dX10_pairs_285 : decode cX10_pairs 285 = .ok (.iaload, 1) := by decide +kernel
theorem dX10_pairs_286 : decode cX10_pairs 286 = .ok (.iconst (-1), 1) := by decide +kernel
theorem dX10_pairs_287 : decode cX10_pairs 287 = .ok (.invokevirtual 245, 3) := by decide +kernel
theorem dX10_pairs_290 : decode cX10_pairs 290 = .ok (.iinc 8 1, 3) := by decide +kernel
theorem dX10_pairs_293 : decode cX10_pairs 293 = .ok (.goto 18, 3) := by decide +kernel
theorem dX10_pairs_296 : decode cX10_pairs 296 = .ok (.aload_n 0, 1) := by decide +kernel
theorem dX10_pairs_297 : decode cX10_pairs 297 = .ok (.bipush 105, 2) := by decide +kernel
theorem dX10_pairs_299 : decode cX10_pairs 299 = .ok (.iconst (-1), 1) := by decide +kernel
theorem dX10_pairs_300 : decode cX10_pairs 300 = .ok (.aload 6, 2) := by decide +kernel
theorem dX10_pairs_302 : decode cX10_pairs 302 = .ok (.iload 9, 2) := by decide +kernel
theorem dX10_pairs_304 : decode cX10_pairs 304 = .ok (.iaload, 1) := by decide +kernel
theorem dX10_pairs_305 : decode cX10_pairs 305 = .ok (.invokevirtual 245, 3) := by decide +kernel
theorem dX10_pairs_308 : decode cX10_pairs 308 = .ok (.iinc 9 1, 3) := by decide +kernel
theorem dX10_pairs_311 : decode cX10_pairs 311 = .ok (.goto (-212), 3) := by decide +kernel
theorem dX10_pairs_314 : decode cX10_pairs 314 = .ok (.return_, 1) := by decide +kernel
set_option maxRecDepth 20000 in
theorem ggX10_matches_X10_fills : GoodIn wsX10_matches wsX10_fills := goodIn_r _ [8, 9, 10, 11, 12, 13, 14, 15, 16, 17, 18, 19, 20, 21, 22, 23, 7, 24, 25, 26, 27, 28, 29, 30, 31, 32, 33, 76, 77, 78, 79, 80, 45, 46, 47, 48, 49, 50, 51, 52, 53, 54, 55, 56, 57, 58, 59, 60, 61, 62, 63, 64, 65, 66, 67, 68, 69, 70, 71, 72, 73, 74, 75] (by decide +kernel) (by decide +kernel)
set_option maxRecDepth 20000 in
theorem gX10_matches_X10_fills : GoodIn wsX10_matches (wsV RX10 253 RX10 yX10_fills wsX10_fills) := goodIn_app (goodIn_of _ (by decide +kernel)) ggX10_matches_X10_fills
set_option maxRecDepth 20000 in
theorem ggX10_matches_X10_pairs : GoodIn wsX10_matches wsX10_pairs := goodIn_r _ [37, 2, 3, 9, 38, 39, 40, 7, 41, 42, 1, 43, 44, 10, 11, 12, 13, 14, 15, 16, 17, 18, 19, 20, 21, 22, 23, 24, 25, 26, 27, 28, 29, 30, 31, 32, 33, 34, 35, 36, 45, 46, 47, 48, 49, 50, 51, 52, 53, 54, 55, 56, 57, 58, 59, 60, 61, 62, 63, 64, 65, 66, 67, 68, 69, 70, 71, 72, 73, 74, 75, 76, 77, 78, 79, 80] (by decide +kernel) (by decide +kernel)
set_option maxRecDepth 20000 in
theorem gX10_matches_X10_pairs : GoodIn wsX10_matches (wsV RX10 249 RX10 yX10_pairs wsX10_pairs) := goodIn_app (goodIn_of _ (by decide +kernel)) ggX10_matches_X10_pairs
theorem dX10_matches_0 : decode cX10_matches 0 = .ok (.aload_n 0, 1) := by decide +kernel
theorem dX10_matches_1 : decode cX10_matches 1 = .ok (.iconst 0, 1) := by decide +kernel
theorem dX10_matches_2 : decode cX10_matches 2 = .ok (.putfield 242, 3) := by decide +kernel
theorem dX10_matches_5 : decode cX10_matches 5 = .ok (.iconst 0, 1) := by decide +kernel
theorem dX10_matches_6 : decode cX10_matches 6 = .ok (.istore_n 3, 1) := by decide +kernel
theorem dX10_matches_7 : decode cX10_matches 7 = .ok (.iload_n 3, 1) := by decide +kernel
theorem dX10_matches_8 : decode cX10_matches 8 = .ok (.bipush 20, 2) := by decide +kernel
theorem dX10_matches_10 : decode cX10_matches 10 = .ok (.if_icmp .ge 23, 3) := by decide +kernel
theorem dX10_matches_13 : decode cX10_matches 13 = .ok (.aload_n 0, 1) := by decide +kernel
theorem dX10_matches_14 : decode cX10_matches 14 = .ok (.getfield 65, 3) := by decide +kernel
theorem dX10_matches_17 : decode cX10_matches 17 = .ok (.iload_n 3, 1) := by decide +kernel
theorem dX10_matches_18 : decode cX10_matches 18 = .ok (.iconst (-1), 1) := by decide +kernel
theorem dX10_matches_19 : decode cX10_matches 19 = .ok (.iastore, 1) := by decide +kernel
theorem dX10_matches_20 : decode cX10_matches 20 = .ok (.aload_n 0, 1) := by decide +kernel
theorem dX10_matches_21 : decode cX10_matches 21 = .ok (.getfield 68, 3) := by decide +kernel
theorem dX10_matches_24 : decode cX10_matches 24 = .ok (.iload_n 3, 1) := by decide +kernel
theorem dX10_matches_25 : decode cX10_matches 25 = .ok (.iconst (-1), 1) := by decide +kernel
theorem dX10_matches_26 : decode cX10_matches 26 = .ok (.iastore, 1) := by decide +kernel
theorem dX10_matches_27 : decode cX10_matches 27 = .ok (.iinc 3 1, 3) := by decide +kernel
theorem dX10_matches_30 : decode cX10_matches 30 = .ok (.goto (-23), 3) := by decide +kernel
theorem dX10_matches_33 : decode cX10_matches 33 = .ok (.aload_n 0, 1) := by decide +kernel
theorem dX10_matches_34 : decode cX10_matches 34 = .ok (.aload_n 1, 1) := by decide +kernel
theorem dX10_matches_35 : decode cX10_matches 35 = .ok (.aload_n 2, 1) := by decide +kernel
theorem dX10_matches_36 : decode cX10_matches 36 = .ok (.invokevirtual 253, 3) := by decide +kernel
theorem dX10_matches_39 : decode cX10_matches 39 = .ok (.pop, 1) := by decide +kernel
theorem dX10_matches_40 : decode cX10_matches 40 = .ok (.aload_n 0, 1) := by decide +kernel
theorem dX10_matches_41 : decode cX10_matches 41 = .ok (.aload_n 1, 1) := by decide +kernel
theorem dX10_matches_42 : decode cX10_matches 42 = .ok (.iconst 0, 1) := by decide +kernel
theorem dX10_matches_43 : decode cX10_matches 43 = .ok (.aload_n 2, 1) := by decide +kernel
theorem dX10_matches_44 : decode cX10_matches 44 = .ok (.iconst 0, 1) := by decide +kernel
theorem dX10_matches_45 : decode cX10_matches 45 = .ok (.invokevirtual 249, 3) := by decide +kernel
theorem dX10_matches_48 : decode cX10_matches 48 = .ok (.return_, 1) := by decide +kernel
set_option maxRecDepth 20000 in
theorem ggX10_distance_X10_areNone : GoodIn wsX10_distance wsX10_areNone := goodIn_r _ [6, 7, 8, 9, 5, 10, 11, 12, 13, 43, 44, 45, 46, 47, 48, 49, 50, 51, 52, 53, 54, 55, 56, 57, 58, 59, 60, 61, 62, 63, 64, 65, 66, 67, 68, 69, 70, 71, 72, 73] (by decide +kernel) (by decide +kernel)
set_option maxRecDepth 20000 in
theorem gX10_distance_X10_areNone : GoodIn wsX10_distance (wsV RX10 217 RX10 yX10_areNone wsX10_areNone) := goodIn_app (goodIn_of _ (by decide +kernel)) ggX10_distance_X10_areNone
set_option maxRecDepth 20000 in
theorem ggX10_distance_X10_fills : GoodIn wsX10_distance wsX10_fills := goodIn_r _ [17, 18, 19, 20, 21, 22, 23, 24, 25, 26, 27, 28, 29, 30, 31, 32, 5, 33, 34, 35, 36, 37, 38, 39, 40, 41, 42, 74, 75, 76, 77, 78, 43, 44, 45, 46, 47, 48, 49, 50, 51, 52, 53, 54, 55, 56, 57, 58, 59, 60, 61, 62, 63, 64, 65, 66, 67, 68, 69, 70, 71, 72, 73] (by decide +kernel) (by decide +kernel)
set_option maxRecDepth 20000 in
theorem gX10_distance_X10_fills : GoodIn wsX10_distance (wsV RX10 253 RX10 yX10_fills wsX10_fills) := goodIn_app (goodIn_of _ (by decide +kernel)) ggX10_distance_X10_fills
theorem dX10_distance_0 : decode cX10_distance 0 = .ok (.aload_n 0, 1) := by decide +kernel
theorem dX10_distance_1 : decode cX10_distance 1 = .ok (.iload_n 1, 1) := by decide +kernel
theorem dX10_distance_2 : decode cX10_distance 2 = .ok (.iload_n 2, 1) := by decide +kernel
theorem dX10_distance_3 : decode cX10_distance 3 = .ok (.invokevirtual 217, 3) := by decide +kernel
theorem dX10_distance_6 : decode cX10_distance 6 = .ok (.ifCond .eq 7, 3) := by decide +kernel
theorem dX10_distance_9 : decode cX10_distance 9 = .ok (.iconst 0, 1) := by decide +kernel
theorem dX10_distance_10 : decode cX10_distance 10 = .ok (.goto 19, 3) := by decide +kernel
theorem dX10_distance_13 : decode cX10_distance 13 = .ok (.aload_n 0, 1) := by decide +kernel
theorem dX10_distance_14 : decode cX10_distance 14 = .ok (.aload_n 0, 1) := by decide +kernel
theorem dX10_distance_15 : decode cX10_distance 15 = .ok (.getfield 27, 3) := by decide +kernel
theorem dX10_distance_18 : decode cX10_distance 18 = .ok (.iload_n 1, 1) := by decide +kernel
theorem dX10_distance_19 : decode cX10_distance 19 = .ok (.aaload, 1) := by decide +kernel
theorem dX10_distance_20 : decode cX10_distance 20 = .ok (.aload_n 0, 1) := by decide +kernel
theorem dX10_distance_21 : decode cX10_distance 21 = .ok (.getfield 27, 3) := by decide +kernel
theorem dX10_distance_24 : decode cX10_distance 24 = .ok (.iload_n 2, 1) := by decide +kernel
theorem dX10_distance_25 : decode cX10_distance 25 = .ok (.aaload, 1) := by decide +kernel
theorem dX10_distance_26 : decode cX10_distance 26 = .ok (.invokevirtual 253, 3) := by decide +kernel
theorem dX10_distance_29 : decode cX10_distance 29 = .ok (.ireturn, 1) := by decide +kernel
set_option maxRecDepth 20000 in
theorem ggX10_distanceByMatchings_X10_areNone : GoodIn wsX10_distanceByMatchings wsX10_areNone := goodIn_r _ [6, 7, 8, 9, 5, 10, 11, 12, 13, 47, 48, 49, 50, 51, 52, 53, 54, 55, 56, 57, 58, 59, 60, 61, 62, 63, 64, 65, 66, 67, 68, 69, 70, 71, 72, 73, 74, 75, 76, 77] (by decide +kernel) (by decide +kernel)
set_option maxRecDepth 20000 in
theorem gX10_distanceByMatchings_X10_areNone : GoodIn wsX10_distanceByMatchings (wsV RX10 217 RX10 yX10_areNone wsX10_areNone) := goodIn_app (goodIn_of _ (by decide +kernel)) ggX10_distanceByMatchings_X10_areNone
set_option maxRecDepth 20000 in
theorem ggX10_distanceByMatchings_X10_fails : GoodIn wsX10_distanceByMatchings wsX10_fails := goodIn_r _ [17, 7, 47, 48, 49, 50, 51, 52, 53, 54, 55, 56, 57, 58, 59, 60, 61, 62, 63, 64, 65, 66, 67, 68, 69, 70, 71, 72, 73, 74, 75, 76, 77] (by decide +kernel) (by decide +kernel)
set_option maxRecDepth 20000 in
theorem gX10_distanceByMatchings_X10_fails : GoodIn wsX10_distanceByMatchings (wsV RX10 126 RX10 yX10_fails wsX10_fails) := goodIn_app (goodIn_of _ (by decide +kernel)) ggX10_distanceByMatchings_X10_fails
set_option maxRecDepth 20000 in
theorem ggX10_distanceByMatchings_X10_fills : GoodIn wsX10_distanceByMatchings wsX10_fills := goodIn_r _ [21, 22, 23, 24, 25, 26, 27, 28, 29, 30, 31, 32, 33, 34, 35, 36, 5, 37, 38, 39, 40, 41, 42, 43, 44, 45, 46, 78, 79, 80, 81, 82, 47, 48, 49, 50, 51, 52, 53, 54, 55, 56, 57, 58, 59, 60, 61, 62, 63, 64, 65, 66, 67, 68, 69, 70, 71, 72, 73, 74, 75, 76, 77] (by decide +kernel) (by decide +kernel)
set_option maxRecDepth 20000 in
theorem gX10_distanceByMatchings_X10_fills : GoodIn wsX10_distanceByMatchings (wsV RX10 253 RX10 yX10_fills wsX10_fills) := goodIn_app (goodIn_of _ (by decide +kernel)) ggX10_distanceByMatchings_X10_fills
theorem dX10_distanceByMatchings_0 : decode cX10_distanceByMatchings 0 = .ok (.aload_n 0, 1) := by decide +kernel
theorem dX10_distanceByMatchings_1 : decode cX10_distanceByMatchings 1 = .ok (.iload_n 1, 1) := by decide +kernel
theorem dX10_distanceByMatchings_2 : decode cX10_distanceByMatchings 2 = .ok (.iload_n 2, 1) := by decide +kernel
theorem dX10_distanceByMatchings_3 : decode cX10_distanceByMatchings 3 = .ok (.invokevirtual 217, 3) := by decide +kernel
theorem dX10_distanceByMatchings_6 : decode cX10_distanceByMatchings 6 = .ok (.ifCond .eq 5, 3) := by decide +kernel
theorem dX10_distanceByMatchings_9 : decode cX10_distanceByMatchings 9 = .ok (.iconst 0, 1) := by decide +kernel
theorem dX10_distanceByMatchings_10 : decode cX10_distanceByMatchings 10 = .ok (.ireturn, 1) := by decide +kernel
theorem dX10_distanceByMatchings_11 : decode cX10_distanceByMatchings 11 = .ok (.aload_n 0, 1) := by decide +kernel
theorem dX10_distanceByMatchings_12 : decode cX10_distanceByMatchings 12 = .ok (.getfield 27, 3) := by decide +kernel
theorem dX10_distanceByMatchings_15 : decode cX10_distanceByMatchings 15 = .ok (.iload_n 1, 1) := by decide +kernel
theorem dX10_distanceByMatchings_16 : decode cX10_distanceByMatchings 16 = .ok (.aaload, 1) := by decide +kernel
theorem dX10_distanceByMatchings_17 : decode cX10_distanceByMatchings 17 = .ok (.getfield 116, 3) := by decide +kernel
theorem dX10_distanceByMatchings_20 : decode cX10_distanceByMatchings 20 = .ok (.bipush 7, 2) := by decide +kernel
theorem dX10_distanceByMatchings_22 : decode cX10_distanceByMatchings 22 = .ok (.if_icmp .gt 17, 3) := by decide +kernel
theorem dX10_distanceByMatchings_25 : decode cX10_distanceByMatchings 25 = .ok (.aload_n 0, 1) := by decide +kernel
theorem dX10_distanceByMatchings_26 : decode cX10_distanceByMatchings 26 = .ok (.getfield 27, 3) := by decide +kernel
theorem dX10_distanceByMatchings_29 : decode cX10_distanceByMatchings 29 = .ok (.iload_n 2, 1) := by decide +kernel
theorem dX10_distanceByMatchings_30 : decode cX10_distanceByMatchings 30 = .ok (.aaload, 1) := by decide +kernel
theorem dX10_distanceByMatchings_31 : decode cX10_distanceByMatchings 31 = .ok (.getfield 116, 3) := by decide +kernel
theorem dX10_distanceByMatchings_34 : decode cX10_distanceByMatchings 34 = .ok (.bipush 7, 2) := by decide +kernel
theorem dX10_distanceByMatchings_36 : decode cX10_distanceByMatchings 36 = .ok (.if_icmp .le 11, 3) := by decide +kernel
theorem dX10_distanceByMatchings_39 : decode cX10_distanceByMatchings 39 = .ok (.aload_n 0, 1) := by decide +kernel
theorem dX10_distanceByMatchings_40 : decode cX10_distanceByMatchings 40 = .ok (.iconst 2, 1) := by decide +kernel
theorem dX10_distanceByMatchings_41 : decode cX10_distanceByMatchings 41 = .ok (.invokevirtual 126, 3) := by decide +kernel
theorem dX10_distanceByMatchings_44 : decode cX10_distanceByMatchings 44 = .ok (.goto 19, 3) := by decide +kernel
theorem dX10_distanceByMatchings_47 : decode cX10_distanceByMatchings 47 = .ok (.aload_n 0, 1) := by decide +kernel
theorem dX10_distanceByMatchings_48 : decode cX10_distanceByMatchings 48 = .ok (.aload_n 0, 1) := by decide +kernel
theorem dX10_distanceByMatchings_49 : decode cX10_distanceByMatchings 49 = .ok (.getfield 27, 3) := by decide +kernel
theorem dX10_distanceByMatchings_52 : decode cX10_distanceByMatchings 52 = .ok (.iload_n 1, 1) := by decide +kernel
theorem dX10_distanceByMatchings_53 : decode cX10_distanceByMatchings 53 = .ok (.aaload, 1) := by decide +kernel
theorem dX10_distanceByMatchings_54 : decode cX10_distanceByMatchings 54 = .ok (.aload_n 0, 1) := by decide +kernel
theorem dX10_distanceByMatchings_55 : decode cX10_distanceByMatchings 55 = .ok (.getfield 27, 3) := by decide +kernel
theorem dX10_distanceByMatchings_58 : decode cX10_distanceByMatchings 58 = .ok (.iload_n 2, 1) := by decide +kernel
theorem dX10_distanceByMatchings_59 : decode cX10_distanceByMatchings 59 = .ok (.aaload, 1) := by decide +kernel
theorem dX10_distanceByMatchings_60 : decode cX10_distanceByMatchings 60 = .ok (.invokevirtual 253, 3) := by decide +kernel
theorem dX10_distanceByMatchings_63 : decode cX10_distanceByMatchings 63 = .ok (.ireturn, 1) := by decide +kernel
set_option maxRecDepth 20000 in
theorem ggX10_similarity_X10_areNone : GoodIn wsX10_similarity wsX10_areNone := goodIn_r _ [6, 7, 8, 9, 5, 10, 11, 12, 13, 43, 44, 45, 46, 47, 48, 49, 50, 51, 52, 53, 54, 55, 56, 57, 58, 59, 60, 61, 62, 63, 64, 65, 66, 67, 68, 69, 70, 71, 72, 73] (by decide +kernel) (by decide +kernel)
set_option maxRecDepth 20000 in
theorem gX10_similarity_X10_areNone : GoodIn wsX10_similarity (wsV RX10 217 RX10 yX10_areNone wsX10_areNone) := goodIn_app (goodIn_of _ (by decide +kernel)) ggX10_similarity_X10_areNone
set_option maxRecDepth 20000 in
theorem ggX10_similarity_X10_fills : GoodIn wsX10_similarity wsX10_fills := goodIn_r _ [17, 18, 19, 20, 21, 22, 23, 24, 25, 26, 27, 28, 29, 30, 31, 32, 5, 33, 34, 35, 36, 37, 38, 39, 40, 41, 42, 74, 75, 76, 77, 78, 43, 44, 45, 46, 47, 48, 49, 50, 51, 52, 53, 54, 55, 56, 57, 58, 59, 60, 61, 62, 63, 64, 65, 66, 67, 68, 69, 70, 71, 72, 73] (by decide +kernel) (by decide +kernel)
set_option maxRecDepth 20000 in
theorem gX10_similarity_X10_fills : GoodIn wsX10_similarity (wsV RX10 253 RX10 yX10_fills wsX10_fills) := goodIn_app (goodIn_of _ (by decide +kernel)) ggX10_similarity_X10_fills
theorem dX10_similarity_0 : decode cX10_similarity 0 = .ok (.aload_n 0, 1) := by decide +kernel
theorem dX10_similarity_1 : decode cX10_similarity 1 = .ok (.iload_n 1, 1) := by decide +kernel
theorem dX10_similarity_2 : decode cX10_similarity 2 = .ok (.iload_n 2, 1) := by decide +kernel
theorem dX10_similarity_3 : decode cX10_similarity 3 = .ok (.invokevirtual 217, 3) := by decide +kernel
theorem dX10_similarity_6 : decode cX10_similarity 6 = .ok (.ifCond .eq 5, 3) := by decide +kernel
theorem dX10_similarity_9 : decode cX10_similarity 9 = .ok (.dconst 0, 1) := by decide +kernel
theorem dX10_similarity_10 : decode cX10_similarity 10 = .ok (.dreturn, 1) := by decide +kernel
theorem dX10_similarity_11 : decode cX10_similarity 11 = .ok (.dconst 1, 1) := by decide +kernel
theorem dX10_similarity_12 : decode cX10_similarity 12 = .ok (.aload_n 0, 1) := by decide +kernel
theorem dX10_similarity_13 : decode cX10_similarity 13 = .ok (.aload_n 0, 1) := by decide +kernel
theorem dX10_similarity_14 : decode cX10_similarity 14 = .ok (.getfield 27, 3) := by decide +kernel
theorem dX10_similarity_17 : decode cX10_similarity 17 = .ok (.iload_n 1, 1) := by decide +kernel
theorem dX10_similarity_18 : decode cX10_similarity 18 = .ok (.aaload, 1) := by decide +kernel
theorem dX10_similarity_19 : decode cX10_similarity 19 = .ok (.aload_n 0, 1) := by decide +kernel
theorem dX10_similarity_20 : decode cX10_similarity 20 = .ok (.getfield 27, 3) := by decide +kernel
theorem dX10_similarity_23 : decode cX10_similarity 23 = .ok (.iload_n 2, 1) := by decide +kernel
theorem dX10_similarity_24 : decode cX10_similarity 24 = .ok (.aaload, 1) := by decide +kernel
theorem dX10_similarity_25 : decode cX10_similarity 25 = .ok (.invokevirtual 253, 3) := by decide +kernel
theorem dX10_similarity_28 : decode cX10_similarity 28 = .ok (.i2d, 1) := by decide +kernel
theorem dX10_similarity_29 : decode cX10_similarity 29 = .ok (.iconst 2, 1) := by decide +kernel
theorem dX10_similarity_30 : decode cX10_similarity 30 = .ok (.aload_n 0, 1) := by decide +kernel
theorem dX10_similarity_31 : decode cX10_similarity 31 = .ok (.getfield 27, 3) := by decide +kernel
theorem dX10_similarity_34 : decode cX10_similarity 34 = .ok (.iload_n 1, 1) := by decide +kernel
theorem dX10_similarity_35 : decode cX10_similarity 35 = .ok (.aaload, 1) := by decide +kernel
theorem dX10_similarity_36 : decode cX10_similarity 36 = .ok (.getfield 116, 3) := by decide +kernel
theorem dX10_similarity_39 : decode cX10_similarity 39 = .ok (.aload_n 0, 1) := by decide +kernel
theorem dX10_similarity_40 : decode cX10_similarity 40 = .ok (.getfield 27, 3) := by decide +kernel
theorem dX10_similarity_43 : decode cX10_similarity 43 = .ok (.iload_n 2, 1) := by decide +kernel
theorem dX10_similarity_44 : decode cX10_similarity 44 = .ok (.aaload, 1) := by decide +kernel
theorem dX10_similarity_45 : decode cX10_similarity 45 = .ok (.getfield 116, 3) := by decide +kernel
theorem dX10_similarity_48 : decode cX10_similarity 48 = .ok (.iadd, 1) := by decide +kernel
theorem dX10_similarity_49 : decode cX10_similarity 49 = .ok (.imul, 1) := by decide +kernel
theorem dX10_similarity_50 : decode cX10_similarity 50 = .ok (.i2d, 1) := by decide +kernel
theorem dX10_similarity_51 : decode cX10_similarity 51 = .ok (.ddiv, 1) := by decide +kernel
theorem dX10_similarity_52 : decode cX10_similarity 52 = .ok (.dsub, 1) := by decide +kernel
theorem dX10_similarity_53 : decode cX10_similarity 53 = .ok (.dreturn, 1) := by decide +kernel
set_option maxRecDepth 20000 in
theorem ggX10_recognizes_X10_areLike : GoodIn wsX10_recognizes wsX10_areLike := goodIn_r _ [10, 11, 12, 13, 14, 15, 16, 48, 49, 50, 51, 52] (by decide +kernel) (by decide +kernel)
set_option maxRecDepth 20000 in
theorem gX10_recognizes_X10_areLike : GoodIn wsX10_recognizes (va_wsS RX10 223 yX10_areLike wsX10_areLike) := goodIn_app (goodIn_of _ (by decide +kernel)) ggX10_recognizes_X10_areLike
theorem dX10_recognizes_0 : decode cX10_recognizes 0 = .ok (.iconst 0, 1) := by decide +kernel
theorem dX10_recognizes_1 : decode cX10_recognizes 1 = .ok (.istore_n 1, 1) := by decide +kernel
theorem dX10_recognizes_2 : decode cX10_recognizes 2 = .ok (.iload_n 1, 1) := by decide +kernel
theorem dX10_recognizes_3 : decode cX10_recognizes 3 = .ok (.aload_n 0, 1) := by decide +kernel
theorem dX10_recognizes_4 : decode cX10_recognizes 4 = .ok (.getfield 242, 3) := by decide +kernel
theorem dX10_recognizes_7 : decode cX10_recognizes 7 = .ok (.if_icmp .ge 116, 3) := by decide +kernel
theorem dX10_recognizes_10 : decode cX10_recognizes 10 = .ok (.aload_n 0, 1) := by decide +kernel
theorem dX10_recognizes_11 : decode cX10_recognizes 11 = .ok (.getfield 56, 3) := by decide +kernel
theorem dX10_recognizes_14 : decode cX10_recognizes 14 = .ok (.iload_n 1, 1) := by decide +kernel
theorem dX10_recognizes_15 : decode cX10_recognizes 15 = .ok (.caload, 1) := by decide +kernel
theorem dX10_recognizes_16 : decode cX10_recognizes 16 = .ok (.bipush 100, 2) := by decide +kernel
theorem dX10_recognizes_18 : decode cX10_recognizes 18 = .ok (.if_icmp .eq 6, 3) := by decide +kernel
theorem dX10_recognizes_21 : decode cX10_recognizes 21 = .ok (.goto 96, 3) := by decide +kernel
theorem dX10_recognizes_24 : decode cX10_recognizes 24 = .ok (.iconst 0, 1) := by decide +kernel
theorem dX10_recognizes_25 : decode cX10_recognizes 25 = .ok (.istore_n 2, 1) := by decide +kernel
theorem dX10_recognizes_26 : decode cX10_recognizes 26 = .ok (.iload_n 2, 1) := by decide +kernel
theorem dX10_recognizes_27 : decode cX10_recognizes 27 = .ok (.aload_n 0, 1) := by decide +kernel
theorem dX10_recognizes_28 : decode cX10_recognizes 28 = .ok (.getfield 242, 3) := by decide +kernel
theorem dX10_recognizes_31 : decode cX10_recognizes 31 = .ok (.if_icmp .ge 47, 3) := by decide +kernel
theorem dX10_recognizes_34 : decode cX10_recognizes 34 = .ok (.aload_n 0, 1) := by decide +kernel
theorem dX10_recognizes_35 : decode cX10_recognizes 35 = .ok (.getfield 56, 3) := by decide +kernel
theorem dX10_recognizes_38 : decode cX10_recognizes 38 = .ok (.iload_n 2, 1) := by decide +kernel
theorem dX10_recognizes_39 : decode cX10_recognizes 39 = .ok (.caload, 1) := by decide +kernel
theorem dX10_recognizes_40 : decode cX10_recognizes 40 = .ok (.bipush 105, 2) := by decide +kernel
theorem dX10_recognizes_42 : decode cX10_recognizes 42 = .ok (.if_icmp .ne 30, 3) := by decide +kernel
theorem dX10_recognizes_45 : decode cX10_recognizes 45 = .ok (.aload_n 0, 1) := by decide +kernel
theorem dX10_recognizes_46 : decode cX10_recognizes 46 = .ok (.getfield 71, 3) := by decide +kernel
theorem dX10_recognizes_49 : decode cX10_recognizes 49 = .ok (.aload_n 0, 1) := by decide +kernel
theorem dX10_recognizes_50 : decode cX10_recognizes 50 = .ok (.getfield 59, 3) := by decide +kernel
theorem dX10_recognizes_53 : decode cX10_recognizes 53 = .ok (.iload_n 1, 1) := by decide +kernel
theorem dX10_recognizes_54 : decode cX10_recognizes 54 = .ok (.iaload, 1) := by decide +kernel
theorem dX10_recognizes_55 : decode cX10_recognizes 55 = .ok (.aload_n 0, 1) := by decide +kernel
theorem dX10_recognizes_56 : decode cX10_recognizes 56 = .ok (.getfield 74, 3) := by decide +kernel
theorem dX10_recognizes_59 : decode cX10_recognizes 59 = .ok (.aload_n 0, 1) := by decide +kernel
theorem dX10_recognizes_60 : decode cX10_recognizes 60 = .ok (.getfield 62, 3) := by decide +kernel
theorem dX10_recognizes_63 : decode cX10_recognizes 63 = .ok (.iload_n 2, 1) := by decide +kernel
theorem dX10_recognizes_64 : decode cX10_recognizes 64 = .ok (.iaload, 1) := by decide +kernel
theorem dX10_recognizes_65 : decode cX10_recognizes 65 = .ok (.iconst 0, 1) := by decide +kernel
theorem dX10_recognizes_66 : decode cX10_recognizes 66 = .ok (.invokestatic 223, 3) := by decide +kernel
theorem dX10_recognizes_69 : decode cX10_recognizes 69 = .ok (.ifCond .ne 9, 3) := by decide +kernel
theorem dX10_recognizes_72 : decode cX10_recognizes 72 = .ok (.iinc 2 1, 3) := by decide +kernel
theorem dX10_recognizes_75 : decode cX10_recognizes 75 = .ok (.goto (-49), 3) := by decide +kernel
theorem dX10_recognizes_78 : decode cX10_recognizes 78 = .ok (.iload_n 2, 1) := by decide +kernel
theorem dX10_recognizes_79 : decode cX10_recognizes 79 = .ok (.aload_n 0, 1) := by decide +kernel
theorem dX10_recognizes_80 : decode cX10_recognizes 80 = .ok (.getfield 242, 3) := by decide +kernel
theorem dX10_recognizes_83 : decode cX10_recognizes 83 = .ok (.if_icmp .ne 6, 3) := by decide +kernel
theorem dX10_recognizes_86 : decode cX10_recognizes 86 = .ok (.goto 31, 3) := by decide +kernel
theorem dX10_recognizes_89 : decode cX10_recognizes 89 = .ok (.aload_n 0, 1) := by decide +kernel
theorem dX10_recognizes_90 : decode cX10_recognizes 90 = .ok (.getfield 56, 3) := by decide +kernel
theorem dX10_recognizes_93 : decode cX10_recognizes 93 = .ok (.iload_n 2, 1) := by decide +kernel
theorem dX10_recognizes_94 : decode cX10_recognizes 94 = .ok (.bipush 109, 2) := by decide +kernel
theorem dX10_recognizes_96 : decode cX10_recognizes 96 = .ok (.castore, 1) := by decide +kernel
theorem dX10_recognizes_97 : decode cX10_recognizes 97 = .ok (.aload_n 0, 1) := by decide +kernel
theorem dX10_recognizes_98 : decode cX10_recognizes 98 = .ok (.getfield 59, 3) := by decide +kernel
theorem dX10_recognizes_101 : decode cX10_recognizes 101 = .ok (.iload_n 2, 1) := by decide +kernel
theorem dX10_recognizes_102 : decode cX10_recognizes 102 = .ok (.aload_n 0, 1) := by decide +kernel
theorem dX10_recognizes_103 : decode cX10_recognizes 103 = .ok (.getfield 59, 3) := by decide +kernel
theorem dX10_recognizes_106 : decode cX10_recognizes 106 = .ok (.iload_n 1, 1) := by decide +kernel
theorem dX10_recognizes_107 : decode cX10_recognizes 107 = .ok (.iaload, 1) := by decide +kernel
theorem dX10_recognizes_108 : decode cX10_recognizes 108 = .ok (.iastore, 1) := by decide +kernel
theorem dX10_recognizes_109 : decode cX10_recognizes 109 = .ok (.aload_n 0, 1) := by decide +kernel
theorem dX10_recognizes_110 : decode cX10_recognizes 110 = .ok (.getfield 56, 3) := by decide +kernel
theorem dX10_recognizes_113 : decode cX10_recognizes 113 = .ok (.iload_n 1, 1) := by decide +kernel
theorem dX10_recognizes_114 : decode cX10_recognizes 114 = .ok (.bipush 45, 2) := by decide +kernel
theorem dX10_recognizes_116 : decode cX10_recognizes 116 = .ok (.castore, 1) := by decide +kernel
theorem dX10_recognizes_117 : decode cX10_recognizes 117 = .ok (.iinc 1 1, 3) := by decide +kernel
theorem dX10_recognizes_120 : decode cX10_recognizes 120 = .ok (.goto (-118), 3) := by decide +kernel
theorem dX10_recognizes_123 : decode cX10_recognizes 123 = .ok (.return_, 1) := by decide +kernel
set_option maxRecDepth 20000 in
theorem ggX10_diff_X10_areNone : GoodIn wsX10_diff wsX10_areNone := goodIn_r _ [21, 22, 23, 24, 20, 25, 26, 27, 28, 87, 88, 89, 90, 91, 92, 93, 94, 95, 96, 97, 98, 99, 100, 101, 102, 103, 104, 105, 106, 107, 108, 109, 110, 111, 112, 113, 114, 115, 116, 117] (by decide +kernel) (by decide +kernel)
set_option maxRecDepth 20000 in
theorem gX10_diff_X10_areNone : GoodIn wsX10_diff (wsV RX10 217 RX10 yX10_areNone wsX10_areNone) := goodIn_app (goodIn_of _ (by decide +kernel)) ggX10_diff_X10_areNone
set_option maxRecDepth 20000 in
theorem ggX10_diff_X9_copies : GoodIn wsX10_diff wsX9_copies := goodIn_r _ [32, 33, 34, 35, 36, 37, 38, 39, 40, 30, 41, 118, 119, 120, 121, 122] (by decide +kernel) (by decide +kernel)
set_option maxRecDepth 20000 in
theorem gX10_diff_X9_copies_n157 : GoodIn wsX10_diff (wsX9_copies) := ggX10_diff_X9_copies
set_option maxRecDepth 20000 in
theorem ggX10_diff_X10_matches : GoodIn wsX10_diff wsX10_matches := goodIn_r _ [45, 5, 13, 15, 46, 47, 48, 20, 49, 50, 51, 30, 52, 53, 54, 33, 37, 55, 56, 57, 58, 59, 60, 61, 62, 63, 64, 65, 66, 67, 68, 69, 70, 71, 72, 73, 74, 75, 76, 77, 78, 79, 6, 9, 11, 87, 88, 89, 90, 91, 92, 93, 94, 95, 96, 97, 98, 99, 100, 101, 102, 103, 104, 105, 106, 107, 108, 109, 110, 111, 112, 113, 114, 115, 116, 117, 118, 119, 120, 121, 122] (by decide +kernel) (by decide +kernel)
set_option maxRecDepth 20000 in
theorem gX10_diff_X10_matches : GoodIn wsX10_diff (wsV RX10 257 RX10 yX10_matches wsX10_matches) := goodIn_app (goodIn_of _ (by decide +kernel)) ggX10_diff_X10_matches
set_option maxRecDepth 20000 in
theorem ggX10_diff_X10_recognizes : GoodIn wsX10_diff wsX10_recognizes := goodIn_r _ [83, 5, 6, 1, 9, 3, 11, 84, 85, 20, 86, 69, 30, 70, 71, 33, 37, 87, 88, 89, 90, 91, 92, 93, 94, 95, 96, 97, 98, 99, 100, 101, 102, 103, 104, 105, 106, 107, 108, 109, 110, 111, 112, 113, 114, 115, 116, 117, 118, 119, 120, 121, 122] (by decide +kernel) (by decide +kernel)
set_option maxRecDepth 20000 in
theorem gX10_diff_X10_recognizes : GoodIn wsX10_diff (wsV RX10 261 RX10 yX10_recognizes wsX10_recognizes) := goodIn_app (goodIn_of _ (by decide +kernel)) ggX10_diff_X10_recognizes
theorem dX10_diff_0 : decode cX10_diff 0 = .ok (.aload_n 0, 1) := by decide +kernel
theorem dX10_diff_1 : decode cX10_diff 1 = .ok (.iload_n 1, 1) := by decide +kernel
theorem dX10_diff_2 : decode cX10_diff 2 = .ok (.iload_n 2, 1) := by decide +kernel
theorem dX10_diff_3 : decode cX10_diff 3 = .ok (.invokevirtual 217, 3) := by decide +kernel
theorem dX10_diff_6 : decode cX10_diff 6 = .ok (.ifCond .eq 5, 3) := by decide +kernel
theorem dX10_diff_9 : decode cX10_diff 9 = .ok (.iconst 0, 1) := by decide +kernel
theorem dX10_diff_10 : decode cX10_diff 10 = .ok (.ireturn, 1) := by decide +kernel
theorem dX10_diff_11 : decode cX10_diff 11 = .ok (.aload_n 0, 1) := by decide +kernel
theorem dX10_diff_12 : decode cX10_diff 12 = .ok (.getfield 71, 3) := by decide +kernel
theorem dX10_diff_15 : decode cX10_diff 15 = .ok (.aload_n 0, 1) := by decide +kernel
theorem dX10_diff_16 : decode cX10_diff 16 = .ok (.getfield 27, 3) := by decide +kernel
theorem dX10_diff_19 : decode cX10_diff 19 = .ok (.iload_n 1, 1) := by decide +kernel
theorem dX10_diff_20 : decode cX10_diff 20 = .ok (.aaload, 1) := by decide +kernel
theorem dX10_diff_21 : decode cX10_diff 21 = .ok (.invokevirtual 157, 3) := by decide +kernel
theorem dX10_diff_24 : decode cX10_diff 24 = .ok (.aload_n 0, 1) := by decide +kernel
theorem dX10_diff_25 : decode cX10_diff 25 = .ok (.getfield 74, 3) := by decide +kernel
theorem dX10_diff_28 : decode cX10_diff 28 = .ok (.aload_n 0, 1) := by decide +kernel
theorem dX10_diff_29 : decode cX10_diff 29 = .ok (.getfield 27, 3) := by decide +kernel
theorem dX10_diff_32 : decode cX10_diff 32 = .ok (.iload_n 2, 1) := by decide +kernel
theorem dX10_diff_33 : decode cX10_diff 33 = .ok (.aaload, 1) := by decide +kernel
theorem dX10_diff_34 : decode cX10_diff 34 = .ok (.invokevirtual 157, 3) := by decide +kernel
theorem dX10_diff_37 : decode cX10_diff 37 = .ok (.aload_n 0, 1) := by decide +kernel
theorem dX10_diff_38 : decode cX10_diff 38 = .ok (.aload_n 0, 1) := by decide +kernel
theorem dX10_diff_39 : decode cX10_diff 39 = .ok (.getfield 71, 3) := by decide +kernel
theorem dX10_diff_42 : decode cX10_diff 42 = .ok (.aload_n 0, 1) := by decide +kernel
theorem dX10_diff_43 : decode cX10_diff 43 = .ok (.getfield 74, 3) := by decide +kernel
theorem dX10_diff_46 : decode cX10_diff 46 = .ok (.invokevirtual 257, 3) := by decide +kernel
theorem dX10_diff_49 : decode cX10_diff 49 = .ok (.aload_n 0, 1) := by decide +kernel
theorem dX10_diff_50 : decode cX10_diff 50 = .ok (.invokevirtual 261, 3) := by decide +kernel
theorem dX10_diff_53 : decode cX10_diff 53 = .ok (.aload_n 0, 1) := by decide +kernel
theorem dX10_diff_54 : decode cX10_diff 54 = .ok (.iconst 0, 1) := by decide +kernel
theorem dX10_diff_55 : decode cX10_diff 55 = .ok (.putfield 196, 3) := by decide +kernel
theorem dX10_diff_58 : decode cX10_diff 58 = .ok (.iconst 0, 1) := by decide +kernel
theorem dX10_diff_59 : decode cX10_diff 59 = .ok (.istore_n 3, 1) := by decide +kernel
theorem dX10_diff_60 : decode cX10_diff 60 = .ok (.iload_n 3, 1) := by decide +kernel
theorem dX10_diff_61 : decode cX10_diff 61 = .ok (.aload_n 0, 1) := by decide +kernel
theorem dX10_diff_62 : decode cX10_diff 62 = .ok (.getfield 242, 3) := by decide +kernel
theorem dX10_diff_65 : decode cX10_diff 65 = .ok (.if_icmp .ge 78, 3) := by decide +kernel
theorem dX10_diff_68 : decode cX10_diff 68 = .ok (.aload_n 0, 1) := by decide +kernel
theorem dX10_diff_69 : decode cX10_diff 69 = .ok (.getfield 56, 3) := by decide +kernel
theorem dX10_diff_72 : decode cX10_diff 72 = .ok (.iload_n 3, 1) := by decide +kernel
theorem dX10_diff_73 : decode cX10_diff 73 = .ok (.caload, 1) := by decide +kernel
theorem dX10_diff_74 : decode cX10_diff 74 = .ok (.bipush 45, 2) := by decide +kernel
theorem dX10_diff_76 : decode cX10_diff 76 = .ok (.if_icmp .ne 6, 3) := by decide +kernel
theorem dX10_diff_79 : decode cX10_diff 79 = .ok (.goto 58, 3) := by decide +kernel
theorem dX10_diff_82 : decode cX10_diff 82 = .ok (.aload_n 0, 1) := by decide +kernel
theorem dX10_diff_83 : decode cX10_diff 83 = .ok (.getfield 77, 3) := by decide +kernel
theorem dX10_diff_86 : decode cX10_diff 86 = .ok (.aload_n 0, 1) := by decide +kernel
theorem dX10_diff_87 : decode cX10_diff 87 = .ok (.getfield 196, 3) := by decide +kernel
theorem dX10_diff_90 : decode cX10_diff 90 = .ok (.aload_n 0, 1) := by decide +kernel
theorem dX10_diff_91 : decode cX10_diff 91 = .ok (.getfield 56, 3) := by decide +kernel
theorem dX10_diff_94 : decode cX10_diff 94 = .ok (.iload_n 3, 1) := by decide +kernel
theorem dX10_diff_95 : decode cX10_diff 95 = .ok (.caload, 1) := by decide +kernel
theorem dX10_diff_96 : decode cX10_diff 96 = .ok (.castore, 1) := by decide +kernel
theorem dX10_diff_97 : decode cX10_diff 97 = .ok (.aload_n 0, 1) := by decide +kernel
theorem dX10_diff_98 : decode cX10_diff 98 = .ok (.getfield 80, 3) := by decide +kernel
theorem dX10_diff_101 : decode cX10_diff 101 = .ok (.aload_n 0, 1) := by decide +kernel
theorem dX10_diff_102 : decode cX10_diff 102 = .ok (.getfield 196, 3) := by decide +kernel
theorem dX10_diff_105 : decode cX10_diff 105 = .ok (.aload_n 0, 1) := by decide +kernel
theorem dX10_diff_106 : decode cX10_diff 106 = .ok (.getfield 59, 3) := by decide +kernel
theorem dX10_diff_109 : decode cX10_diff 109 = .ok (.iload_n 3, 1) := by decide +kernel
theorem dX10_diff_110 : decode cX10_diff 110 = .ok (.iaload, 1) := by decide +kernel
theorem dX10_diff_111 : decode cX10_diff 111 = .ok (.iastore, 1) := by decide +kernel
theorem dX10_diff_112 : decode cX10_diff 112 = .ok (.aload_n 0, 1) := by decide +kernel
theorem dX10_diff_113 : decode cX10_diff 113 = .ok (.getfield 83, 3) := by decide +kernel
theorem dX10_diff_116 : decode cX10_diff 116 = .ok (.aload_n 0, 1) := by decide +kernel
theorem dX10_diff_117 : decode cX10_diff 117 = .ok (.getfield 196, 3) := by decide +kernel
theorem dX10_diff_120 : decode cX10_diff 120 = .ok (.aload_n 0, 1) := by decide +kernel
theorem dX10_diff_121 : decode cX10_diff 121 = .ok (.getfield 62, 3) := by decide +kernel
theorem dX10_diff_124 : decode cX10_diff 124 = .ok (.iload_n 3, 1) := by decide +kernel
theorem dX10_diff_125 : decode cX10_diff 125 = .ok (.iaload, 1) := by decide +kernel
theorem dX10_diff_126 : decode cX10_diff 126 = .ok (.iastore, 1) := by decide +kernel
theorem dX10_diff_127 : decode cX10_diff 127 = .ok (.aload_n 0, 1) := by decide +kernel
theorem dX10_diff_128 : decode cX10_diff 128 = .ok (.dup, 1) := by decide +kernel
theorem dX10_diff_129 : decode cX10_diff 129 = .ok (.getfield 196, 3) := by decide +kernel
theorem dX10_diff_132 : decode cX10_diff 132 = .ok (.iconst 1, 1) := by decide +kernel
theorem dX10_diff_133 : decode cX10_diff 133 = .ok (.iadd, 1) := by decide +kernel
theorem dX10_diff_134 : decode cX10_diff 134 = .ok (.putfield 196, 3) := by decide +kernel
theorem dX10_diff_137 : decode cX10_diff 137 = .ok (.iinc 3 1, 3) := by decide +kernel
theorem dX10_diff_140 : decode cX10_diff 140 = .ok (.goto (-80), 3) := by decide +kernel
theorem dX10_diff_143 : decode cX10_diff 143 = .ok (.iconst 0, 1) := by decide +kernel
theorem dX10_diff_144 : decode cX10_diff 144 = .ok (.istore_n 3, 1) := by decide +kernel
theorem dX10_diff_145 : decode cX10_diff 145 = .ok (.iload_n 3, 1) := by decide +kernel
theorem dX10_diff_146 : decode cX10_diff 146 = .ok (.bipush 20, 2) := by decide +kernel
theorem dX10_diff_148 : decode cX10_diff 148 = .ok (.if_icmp .ge 33, 3) := by decide +kernel
theorem dX10_diff_151 : decode cX10_diff 151 = .ok (.aload_n 0, 1) := by decide +kernel
theorem dX10_diff_152 : decode cX10_diff 152 = .ok (.getfield 86, 3) := by decide +kernel
theorem dX10_diff_155 : decode cX10_diff 155 = .ok (.iload_n 3, 1) := by decide +kernel
theorem dX10_diff_156 : decode cX10_diff 156 = .ok (.aload_n 0, 1) := by decide +kernel
theorem dX10_diff_157 : decode cX10_diff 157 = .ok (.getfield 65, 3) := by decide +kernel
theorem dX10_diff_160 : decode cX10_diff 160 = .ok (.iload_n 3, 1) := by decide +kernel
theorem dX10_diff_161 : decode cX10_diff 161 = .ok (.iaload, 1) := by decide +kernel
theorem dX10_diff_162 : decode cX10_diff 162 = .ok (.iastore, 1) := by decide +kernel
theorem dX10_diff_163 : decode cX10_diff 163 = .ok (.aload_n 0, 1) := by decide +kernel
theorem dX10_diff_164 : decode cX10_diff 164 = .ok (.getfield 89, 3) := by decide +kernel
theorem dX10_diff_167 : decode cX10_diff 167 = .ok (.iload_n 3, 1) := by decide +kernel
theorem dX10_diff_168 : decode cX10_diff 168 = .ok (.aload_n 0, 1) := by decide +kernel
theorem dX10_diff_169 : decode cX10_diff 169 = .ok (.getfield 68, 3) := by decide +kernel
theorem dX10_diff_172 : decode cX10_diff 172 = .ok (.iload_n 3, 1) := by decide +kernel
theorem dX10_diff_173 : decode cX10_diff 173 = .ok (.iaload, 1) := by decide +kernel
theorem dX10_diff_174 : decode cX10_diff 174 = .ok (.iastore, 1) := by decide +kernel
theorem dX10_diff_175 : decode cX10_diff 175 = .ok (.iinc 3 1, 3) := by decide +kernel
theorem dX10_diff_178 : decode cX10_diff 178 = .ok (.goto (-33), 3) := by decide +kernel
theorem dX10_diff_181 : decode cX10_diff 181 = .ok (.aload_n 0, 1) := by decide +kernel
theorem dX10_diff_182 : decode cX10_diff 182 = .ok (.iconst 1, 1) := by decide +kernel
theorem dX10_diff_183 : decode cX10_diff 183 = .ok (.putfield 192, 3) := by decide +kernel
theorem dX10_diff_186 : decode cX10_diff 186 = .ok (.aload_n 0, 1) := by decide +kernel
theorem dX10_diff_187 : decode cX10_diff 187 = .ok (.getfield 196, 3) := by decide +kernel
theorem dX10_diff_190 : decode cX10_diff 190 = .ok (.ireturn, 1) := by decide +kernel
set_option maxRecDepth 20000 in
theorem ggX10_isNoOperation_X10_isBetween : GoodIn wsX10_isNoOperation wsX10_isBetween := goodIn_r _ [7] (by decide +kernel) (by decide +kernel)
set_option maxRecDepth 20000 in
theorem gX10_isNoOperation_X10_isBetween : GoodIn wsX10_isNoOperation (va_wsS RX10 108 yX10_isBetween wsX10_isBetween) := goodIn_app (goodIn_of _ (by decide +kernel)) ggX10_isNoOperation_X10_isBetween
theorem dX10_isNoOperation_0 : decode cX10_isNoOperation 0 = .ok (.aload_n 0, 1) := by decide +kernel
theorem dX10_isNoOperation_1 : decode cX10_isNoOperation 1 = .ok (.aload_n 0, 1) := by decide +kernel
theorem dX10_isNoOperation_2 : decode cX10_isNoOperation 2 = .ok (.getfield 192, 3) := by decide +kernel
theorem dX10_isNoOperation_5 : decode cX10_isNoOperation 5 = .ok (.ifCond .ne 7, 3) := by decide +kernel
theorem dX10_isNoOperation_8 : decode cX10_isNoOperation 8 = .ok (.iconst 1, 1) := by decide +kernel
theorem dX10_isNoOperation_9 : decode cX10_isNoOperation 9 = .ok (.goto 22, 3) := by decide +kernel
theorem dX10_isNoOperation_12 : decode cX10_isNoOperation 12 = .ok (.iload_n 1, 1) := by decide +kernel
theorem dX10_isNoOperation_13 : decode cX10_isNoOperation 13 = .ok (.iconst 0, 1) := by decide +kernel
theorem dX10_isNoOperation_14 : decode cX10_isNoOperation 14 = .ok (.aload_n 0, 1) := by decide +kernel
theorem dX10_isNoOperation_15 : decode cX10_isNoOperation 15 = .ok (.getfield 196, 3) := by decide +kernel
theorem dX10_isNoOperation_18 : decode cX10_isNoOperation 18 = .ok (.iconst 1, 1) := by decide +kernel
theorem dX10_isNoOperation_19 : decode cX10_isNoOperation 19 = .ok (.isub, 1) := by decide +kernel
theorem dX10_isNoOperation_20 : decode cX10_isNoOperation 20 = .ok (.invokestatic 108, 3) := by decide +kernel
theorem dX10_isNoOperation_23 : decode cX10_isNoOperation 23 = .ok (.ifCond .eq 7, 3) := by decide +kernel
theorem dX10_isNoOperation_26 : decode cX10_isNoOperation 26 = .ok (.iconst 0, 1) := by decide +kernel
theorem dX10_isNoOperation_27 : decode cX10_isNoOperation 27 = .ok (.goto 4, 3) := by decide +kernel
theorem dX10_isNoOperation_30 : decode cX10_isNoOperation 30 = .ok (.iconst 2, 1) := by decide +kernel
theorem dX10_isNoOperation_31 : decode cX10_isNoOperation 31 = .ok (.putfield 105, 3) := by decide +kernel
theorem dX10_isNoOperation_34 : decode cX10_isNoOperation 34 = .ok (.aload_n 0, 1) := by decide +kernel
theorem dX10_isNoOperation_35 : decode cX10_isNoOperation 35 = .ok (.getfield 105, 3) := by decide +kernel
theorem dX10_isNoOperation_38 : decode cX10_isNoOperation 38 = .ok (.ifCond .le 7, 3) := by decide +kernel
theorem dX10_isNoOperation_41 : decode cX10_isNoOperation 41 = .ok (.iconst 1, 1) := by decide +kernel
theorem dX10_isNoOperation_42 : decode cX10_isNoOperation 42 = .ok (.goto 4, 3) := by decide +kernel
theorem dX10_isNoOperation_45 : decode cX10_isNoOperation 45 = .ok (.iconst 0, 1) := by decide +kernel
theorem dX10_isNoOperation_46 : decode cX10_isNoOperation 46 = .ok (.ireturn, 1) := by decide +kernel
theorem dX10_isNoScript_0 : decode cX10_isNoScript 0 = .ok (.aload_n 0, 1) := by decide +kernel
theorem dX10_isNoScript_1 : decode cX10_isNoScript 1 = .ok (.aload_n 0, 1) := by decide +kernel
theorem dX10_isNoScript_2 : decode cX10_isNoScript 2 = .ok (.getfield 192, 3) := by decide +kernel
theorem dX10_isNoScript_5 : decode cX10_isNoScript 5 = .ok (.ifCond .eq 7, 3) := by decide +kernel
theorem dX10_isNoScript_8 : decode cX10_isNoScript 8 = .ok (.iconst 0, 1) := by decide +kernel
theorem dX10_isNoScript_9 : decode cX10_isNoScript 9 = .ok (.goto 4, 3) := by decide +kernel
theorem dX10_isNoScript_12 : decode cX10_isNoScript 12 = .ok (.iconst 1, 1) := by decide +kernel
theorem dX10_isNoScript_13 : decode cX10_isNoScript 13 = .ok (.putfield 105, 3) := by decide +kernel
theorem dX10_isNoScript_16 : decode cX10_isNoScript 16 = .ok (.aload_n 0, 1) := by decide +kernel
theorem dX10_isNoScript_17 : decode cX10_isNoScript 17 = .ok (.getfield 105, 3) := by decide +kernel
theorem dX10_isNoScript_20 : decode cX10_isNoScript 20 = .ok (.ifCond .le 7, 3) := by decide +kernel
theorem dX10_isNoScript_23 : decode cX10_isNoScript 23 = .ok (.iconst 1, 1) := by decide +kernel
theorem dX10_isNoScript_24 : decode cX10_isNoScript 24 = .ok (.goto 4, 3) := by decide +kernel
theorem dX10_isNoScript_27 : decode cX10_isNoScript 27 = .ok (.iconst 0, 1) := by decide +kernel
theorem dX10_isNoScript_28 : decode cX10_isNoScript 28 = .ok (.ireturn, 1) := by decide +kernel
set_option maxRecDepth 20000 in
theorem ggX10_operations_X10_isNoScript : GoodIn wsX10_operations wsX10_isNoScript := goodIn_r _ [6, 7, 8, 9, 10, 11, 12, 13, 14, 15, 16, 17, 18, 19, 20, 21, 22, 23, 24, 25, 26, 27, 28, 29, 30, 31, 32, 33, 34, 35, 36, 37, 38, 39] (by decide +kernel) (by decide +kernel)
set_option maxRecDepth 20000 in
theorem gX10_operations_X10_isNoScript : GoodIn wsX10_operations (wsV RX10 264 RX10 yX10_isNoScript wsX10_isNoScript) := goodIn_app (goodIn_of _ (by decide +kernel)) ggX10_operations_X10_isNoScript
theorem dX10_operations_0 : decode cX10_operations 0 = .ok (.aload_n 0, 1) := by decide +kernel
theorem dX10_operations_1 : decode cX10_operations 1 = .ok (.invokevirtual 264, 3) := by decide +kernel
theorem dX10_operations_4 : decode cX10_operations 4 = .ok (.ifCond .eq 7, 3) := by decide +kernel
theorem dX10_operations_7 : decode cX10_operations 7 = .ok (.iconst 0, 1) := by decide +kernel
theorem dX10_operations_8 : decode cX10_operations 8 = .ok (.goto 7, 3) := by decide +kernel
theorem dX10_operations_11 : decode cX10_operations 11 = .ok (.aload_n 0, 1) := by decide +kernel
theorem dX10_operations_12 : decode cX10_operations 12 = .ok (.getfield 196, 3) := by decide +kernel
theorem dX10_operations_15 : decode cX10_operations 15 = .ok (.ireturn, 1) := by decide +kernel
set_option maxRecDepth 20000 in
theorem ggX10_opKind_X10_isNoOperation : GoodIn wsX10_opKind wsX10_isNoOperation := goodIn_r _ [6, 7, 8, 9, 10, 11, 5, 12, 13, 14, 15, 16, 17, 18, 19, 20, 21, 22, 23, 24, 25, 26, 27, 28, 29, 30, 31, 32, 33, 34, 35, 36, 37, 38, 39, 40, 41, 42, 43] (by decide +kernel) (by decide +kernel)
set_option maxRecDepth 20000 in
theorem gX10_opKind_X10_isNoOperation : GoodIn wsX10_opKind (wsV RX10 268 RX10 yX10_isNoOperation wsX10_isNoOperation) := goodIn_app (goodIn_of _ (by decide +kernel)) ggX10_opKind_X10_isNoOperation
theorem dX10_opKind_0 : decode cX10_opKind 0 = .ok (.aload_n 0, 1) := by decide +kernel
theorem dX10_opKind_1 : decode cX10_opKind 1 = .ok (.iload_n 1, 1) := by decide +kernel
theorem dX10_opKind_2 : decode cX10_opKind 2 = .ok (.invokevirtual 268, 3) := by decide +kernel
theorem dX10_opKind_5 : decode cX10_opKind 5 = .ok (.ifCond .eq 7, 3) := by decide +kernel
theorem dX10_opKind_8 : decode cX10_opKind 8 = .ok (.iconst 0, 1) := by decide +kernel
theorem dX10_opKind_9 : decode cX10_opKind 9 = .ok (.goto 9, 3) := by decide +kernel
theorem dX10_opKind_12 : decode cX10_opKind 12 = .ok (.aload_n 0, 1) := by decide +kernel
theorem dX10_opKind_13 : decode cX10_opKind 13 = .ok (.getfield 77, 3) := by decide +kernel
theorem dX10_opKind_16 : decode cX10_opKind 16 = .ok (.iload_n 1, 1) := by decide +kernel
theorem dX10_opKind_17 : decode cX10_opKind 17 = .ok (.caload, 1) := by decide +kernel
theorem dX10_opKind_18 : decode cX10_opKind 18 = .ok (.ireturn, 1) := by decide +kernel
set_option maxRecDepth 20000 in
theorem ggX10_opNode_X10_isNoOperation : GoodIn wsX10_opNode wsX10_isNoOperation := goodIn_r _ [8, 9, 10, 11, 12, 13, 7, 14, 15, 16, 17, 18, 19, 20, 21, 22, 23, 24, 25, 26, 27, 28, 29, 30, 31, 32, 33, 34, 35, 36, 37, 38, 39, 40, 41, 42, 43, 44, 45] (by decide +kernel) (by decide +kernel)
set_option maxRecDepth 20000 in
theorem gX10_opNode_X10_isNoOperation : GoodIn wsX10_opNode (wsV RX10 268 RX10 yX10_isNoOperation wsX10_isNoOperation) := goodIn_app (goodIn_of _ (by decide +kernel)) ggX10_opNode_X10_isNoOperation
theorem dX10_opNode_0 : decode cX10_opNode 0 = .ok (.aload_n 0, 1) := by decide +kernel
theorem dX10_opNode_1 : decode cX10_opNode 1 = .ok (.iload_n 1, 1) := by decide +kernel
theorem dX10_opNode_2 : decode cX10_opNode 2 = .ok (.invokevirtual 268, 3) := by decide +kernel
theorem dX10_opNode_5 : decode cX10_opNode 5 = .ok (.ifCond .eq 7, 3) := by decide +kernel
theorem dX10_opNode_8 : decode cX10_opNode 8 = .ok (.iconst 0, 1) := by decide +kernel
theorem dX10_opNode_9 : decode cX10_opNode 9 = .ok (.goto 29, 3) := by decide +kernel
theorem dX10_opNode_12 : decode cX10_opNode 12 = .ok (.aload_n 0, 1) := by decide +kernel
theorem dX10_opNode_13 : decode cX10_opNode 13 = .ok (.getfield 77, 3) := by decide +kernel
theorem dX10_opNode_16 : decode cX10_opNode 16 = .ok (.iload_n 1, 1) := by decide +kernel
theorem dX10_opNode_17 : decode cX10_opNode 17 = .ok (.caload, 1) := by decide +kernel
theorem dX10_opNode_18 : decode cX10_opNode 18 = .ok (.bipush 105, 2) := by decide +kernel
theorem dX10_opNode_20 : decode cX10_opNode 20 = .ok (.if_icmp .ne 12, 3) := by decide +kernel
theorem dX10_opNode_23 : decode cX10_opNode 23 = .ok (.aload_n 0, 1) := by decide +kernel
theorem dX10_opNode_24 : decode cX10_opNode 24 = .ok (.getfield 83, 3) := by decide +kernel
theorem dX10_opNode_27 : decode cX10_opNode 27 = .ok (.iload_n 1, 1) := by decide +kernel
theorem dX10_opNode_28 : decode cX10_opNode 28 = .ok (.iaload, 1) := by decide +kernel
theorem dX10_opNode_29 : decode cX10_opNode 29 = .ok (.goto 9, 3) := by decide +kernel
theorem dX10_opNode_32 : decode cX10_opNode 32 = .ok (.aload_n 0, 1) := by decide +kernel
theorem dX10_opNode_33 : decode cX10_opNode 33 = .ok (.getfield 80, 3) := by decide +kernel
theorem dX10_opNode_36 : decode cX10_opNode 36 = .ok (.iload_n 1, 1) := by decide +kernel
theorem dX10_opNode_37 : decode cX10_opNode 37 = .ok (.iaload, 1) := by decide +kernel
theorem dX10_opNode_38 : decode cX10_opNode 38 = .ok (.ireturn, 1) := by decide +kernel
set_option maxRecDepth 20000 in
theorem ggX10_opTarget_X10_isNoOperation : GoodIn wsX10_opTarget wsX10_isNoOperation := goodIn_r _ [7, 8, 9, 10, 11, 12, 6, 13, 18, 19, 20, 21, 22, 23, 24, 25, 26, 27, 28, 29, 30, 31, 32, 33, 34, 35, 36, 37, 38, 39, 40, 41, 42, 43, 44, 45, 46, 47, 48] (by decide +kernel) (by decide +kernel)
set_option maxRecDepth 20000 in
theorem gX10_opTarget_X10_isNoOperation : GoodIn wsX10_opTarget (wsV RX10 268 RX10 yX10_isNoOperation wsX10_isNoOperation) := goodIn_app (goodIn_of _ (by decide +kernel)) ggX10_opTarget_X10_isNoOperation
set_option maxRecDepth 20000 in
theorem ggX10_opTarget_X10_fails : GoodIn wsX10_opTarget wsX10_fails := goodIn_r _ [17, 10, 18, 19, 20, 21, 22, 23, 24, 25, 26, 27, 28, 29, 30, 31, 32, 33, 34, 35, 36, 37, 38, 39, 40, 41, 42, 43, 44, 45, 46, 47, 48] (by decide +kernel) (by decide +kernel)
set_option maxRecDepth 20000 in
theorem gX10_opTarget_X10_fails : GoodIn wsX10_opTarget (wsV RX10 126 RX10 yX10_fails wsX10_fails) := goodIn_app (goodIn_of _ (by decide +kernel)) ggX10_opTarget_X10_fails
theorem dX10_opTarget_0 : decode cX10_opTarget 0 = .ok (.aload_n 0, 1) := by decide +kernel
theorem dX10_opTarget_1 : decode cX10_opTarget 1 = .ok (.iload_n 1, 1) := by decide +kernel
theorem dX10_opTarget_2 : decode cX10_opTarget 2 = .ok (.invokevirtual 268, 3) := by decide +kernel
theorem dX10_opTarget_5 : decode cX10_opTarget 5 = .ok (.ifCond .eq 5, 3) := by decide +kernel
theorem dX10_opTarget_8 : decode cX10_opTarget 8 = .ok (.iconst 0, 1) := by decide +kernel
theorem dX10_opTarget_9 : decode cX10_opTarget 9 = .ok (.ireturn, 1) := by decide +kernel
theorem dX10_opTarget_10 : decode cX10_opTarget 10 = .ok (.aload_n 0, 1) := by decide +kernel
theorem dX10_opTarget_11 : decode cX10_opTarget 11 = .ok (.getfield 77, 3) := by decide +kernel
theorem dX10_opTarget_14 : decode cX10_opTarget 14 = .ok (.iload_n 1, 1) := by decide +kernel
theorem dX10_opTarget_15 : decode cX10_opTarget 15 = .ok (.caload, 1) := by decide +kernel
theorem dX10_opTarget_16 : decode cX10_opTarget 16 = .ok (.bipush 100, 2) := by decide +kernel
theorem dX10_opTarget_18 : decode cX10_opTarget 18 = .ok (.if_icmp .ne 11, 3) := by decide +kernel
theorem dX10_opTarget_21 : decode cX10_opTarget 21 = .ok (.aload_n 0, 1) := by decide +kernel
theorem dX10_opTarget_22 : decode cX10_opTarget 22 = .ok (.iconst 3, 1) := by decide +kernel
theorem dX10_opTarget_23 : decode cX10_opTarget 23 = .ok (.invokevirtual 126, 3) := by decide +kernel
theorem dX10_opTarget_26 : decode cX10_opTarget 26 = .ok (.goto 9, 3) := by decide +kernel
theorem dX10_opTarget_29 : decode cX10_opTarget 29 = .ok (.aload_n 0, 1) := by decide +kernel
theorem dX10_opTarget_30 : decode cX10_opTarget 30 = .ok (.getfield 83, 3) := by decide +kernel
theorem dX10_opTarget_33 : decode cX10_opTarget 33 = .ok (.iload_n 1, 1) := by decide +kernel
theorem dX10_opTarget_34 : decode cX10_opTarget 34 = .ok (.iaload, 1) := by decide +kernel
theorem dX10_opTarget_35 : decode cX10_opTarget 35 = .ok (.ireturn, 1) := by decide +kernel
set_option maxRecDepth 20000 in
theorem ggX10_partner_X10_isNoScript : GoodIn wsX10_partner wsX10_isNoScript := goodIn_r _ [7, 8, 9, 17, 18, 19, 20, 21, 22, 23, 24, 25, 26, 27, 28, 29, 30, 31, 32, 33, 34, 35, 36, 37, 38, 39, 40, 41, 42, 43, 44, 45, 46, 47] (by decide +kernel) (by decide +kernel)
set_option maxRecDepth 20000 in
theorem gX10_partner_X10_isNoScript : GoodIn wsX10_partner (wsV RX10 264 RX10 yX10_isNoScript wsX10_isNoScript) := goodIn_app (goodIn_of _ (by decide +kernel)) ggX10_partner_X10_isNoScript
set_option maxRecDepth 20000 in
theorem ggX10_partner_X10_isBetween : GoodIn wsX10_partner wsX10_isBetween := goodIn_r _ [12] (by decide +kernel) (by decide +kernel)
set_option maxRecDepth 20000 in
theorem gX10_partner_X10_isBetween : GoodIn wsX10_partner (va_wsS RX10 108 yX10_isBetween wsX10_isBetween) := goodIn_app (goodIn_of _ (by decide +kernel)) ggX10_partner_X10_isBetween
set_option maxRecDepth 20000 in
theorem ggX10_partner_X10_fails : GoodIn wsX10_partner wsX10_fails := goodIn_r _ [16, 9, 17, 18, 19, 20, 21, 22, 23, 24, 25, 26, 27, 28, 29, 30, 31, 32, 33, 34, 35, 36, 37, 38, 39, 40, 41, 42, 43, 44, 45, 46, 47] (by decide +kernel) (by decide +kernel)
set_option maxRecDepth 20000 in
theorem gX10_partner_X10_fails : GoodIn wsX10_partner (wsV RX10 126 RX10 yX10_fails wsX10_fails) := goodIn_app (goodIn_of _ (by decide +kernel)) ggX10_partner_X10_fails
theorem dX10_partner_0 : decode cX10_partner 0 = .ok (.aload_n 0, 1) := by decide +kernel
theorem dX10_partner_1 : decode cX10_partner 1 = .ok (.invokevirtual 264, 3) := by decide +kernel
theorem dX10_partner_4 : decode cX10_partner 4 = .ok (.ifCond .eq 5, 3) := by decide +kernel
theorem dX10_partner_7 : decode cX10_partner 7 = .ok (.iconst 0, 1) := by decide +kernel
theorem dX10_partner_8 : decode cX10_partner 8 = .ok (.ireturn, 1) := by decide +kernel
theorem dX10_partner_9 : decode cX10_partner 9 = .ok (.iload_n 1, 1) := by decide +kernel
theorem dX10_partner_10 : decode cX10_partner 10 = .ok (.iconst 0, 1) := by decide +kernel
theorem dX10_partner_11 : decode cX10_partner 11 = .ok (.aload_n 0, 1) := by decide +kernel
theorem dX10_partner_12 : decode cX10_partner 12 = .ok (.getfield 71, 3) := by decide +kernel
theorem dX10_partner_15 : decode cX10_partner 15 = .ok (.getfield 116, 3) := by decide +kernel
theorem dX10_partner_18 : decode cX10_partner 18 = .ok (.iconst 1, 1) := by decide +kernel
theorem dX10_partner_19 : decode cX10_partner 19 = .ok (.isub, 1) := by decide +kernel
theorem dX10_partner_20 : decode cX10_partner 20 = .ok (.invokestatic 108, 3) := by decide +kernel
theorem dX10_partner_23 : decode cX10_partner 23 = .ok (.ifCond .ne 9, 3) := by decide +kernel
theorem dX10_partner_26 : decode cX10_partner 26 = .ok (.aload_n 0, 1) := by decide +kernel
theorem dX10_partner_27 : decode cX10_partner 27 = .ok (.iconst 2, 1) := by decide +kernel
theorem dX10_partner_28 : decode cX10_partner 28 = .ok (.invokevirtual 126, 3) := by decide +kernel
theorem dX10_partner_31 : decode cX10_partner 31 = .ok (.ireturn, 1) := by decide +kernel
theorem dX10_partner_32 : decode cX10_partner 32 = .ok (.aload_n 0, 1) := by decide +kernel
theorem dX10_partner_33 : decode cX10_partner 33 = .ok (.getfield 86, 3) := by decide +kernel
theorem dX10_partner_36 : decode cX10_partner 36 = .ok (.iload_n 1, 1) := by decide +kernel
theorem dX10_partner_37 : decode cX10_partner 37 = .ok (.iaload, 1) := by decide +kernel
theorem dX10_partner_38 : decode cX10_partner 38 = .ok (.ifCond .ge 11, 3) := by decide +kernel
theorem dX10_partner_41 : decode cX10_partner 41 = .ok (.aload_n 0, 1) := by decide +kernel
theorem dX10_partner_42 : decode cX10_partner 42 = .ok (.iconst 3, 1) := by decide +kernel
theorem dX10_partner_43 : decode cX10_partner 43 = .ok (.invokevirtual 126, 3) := by decide +kernel
theorem dX10_partner_46 : decode cX10_partner 46 = .ok (.goto 9, 3) := by decide +kernel
theorem dX10_partner_49 : decode cX10_partner 49 = .ok (.aload_n 0, 1) := by decide +kernel
theorem dX10_partner_50 : decode cX10_partner 50 = .ok (.getfield 86, 3) := by decide +kernel
theorem dX10_partner_53 : decode cX10_partner 53 = .ok (.iload_n 1, 1) := by decide +kernel
theorem dX10_partner_54 : decode cX10_partner 54 = .ok (.iaload, 1) := by decide +kernel
theorem dX10_partner_55 : decode cX10_partner 55 = .ok (.ireturn, 1) := by decide +kernel
set_option maxRecDepth 20000 in
theorem ggX10_moves_X10_isNoScript : GoodIn wsX10_moves wsX10_isNoScript := goodIn_r _ [7, 8, 9, 10, 11, 12, 13, 14, 15, 16, 17, 18, 19, 20, 21, 22, 23, 24, 25, 26, 27, 28, 29, 30, 31, 32, 33, 34, 35, 36, 37, 38, 39, 40] (by decide +kernel) (by decide +kernel)
set_option maxRecDepth 20000 in
theorem gX10_moves_X10_isNoScript : GoodIn wsX10_moves (wsV RX10 264 RX10 yX10_isNoScript wsX10_isNoScript) := goodIn_app (goodIn_of _ (by decide +kernel)) ggX10_moves_X10_isNoScript
theorem dX10_moves_0 : decode cX10_moves 0 = .ok (.aload_n 0, 1) := by decide +kernel
theorem dX10_moves_1 : decode cX10_moves 1 = .ok (.invokevirtual 264, 3) := by decide +kernel
theorem dX10_moves_4 : decode cX10_moves 4 = .ok (.ifCond .eq 5, 3) := by decide +kernel
theorem dX10_moves_7 : decode cX10_moves 7 = .ok (.iconst 0, 1) := by decide +kernel
theorem dX10_moves_8 : decode cX10_moves 8 = .ok (.ireturn, 1) := by decide +kernel
theorem dX10_moves_9 : decode cX10_moves 9 = .ok (.iconst 0, 1) := by decide +kernel
theorem dX10_moves_10 : decode cX10_moves 10 = .ok (.istore_n 1, 1) := by decide +kernel
theorem dX10_moves_11 : decode cX10_moves 11 = .ok (.iconst 0, 1) := by decide +kernel
theorem dX10_moves_12 : decode cX10_moves 12 = .ok (.istore_n 2, 1) := by decide +kernel
theorem dX10_moves_13 : decode cX10_moves 13 = .ok (.iload_n 2, 1) := by decide +kernel
theorem dX10_moves_14 : decode cX10_moves 14 = .ok (.aload_n 0, 1) := by decide +kernel
theorem dX10_moves_15 : decode cX10_moves 15 = .ok (.getfield 196, 3) := by decide +kernel
theorem dX10_moves_18 : decode cX10_moves 18 = .ok (.if_icmp .ge 28, 3) := by decide +kernel
theorem dX10_moves_21 : decode cX10_moves 21 = .ok (.iload_n 1, 1) := by decide +kernel
theorem dX10_moves_22 : decode cX10_moves 22 = .ok (.aload_n 0, 1) := by decide +kernel
theorem dX10_moves_23 : decode cX10_moves 23 = .ok (.getfield 77, 3) := by decide +kernel
theorem dX10_moves_26 : decode cX10_moves 26 = .ok (.iload_n 2, 1) := by decide +kernel
theorem dX10_moves_27 : decode cX10_moves 27 = .ok (.caload, 1) := by decide +kernel
theorem dX10_moves_28 : decode cX10_moves 28 = .ok (.bipush 109, 2) := by decide +kernel
theorem dX10_moves_30 : decode cX10_moves 30 = .ok (.if_icmp .ne 7, 3) := by decide +kernel
theorem dX10_moves_33 : decode cX10_moves 33 = .ok (.iconst 1, 1) := by decide +kernel
theorem dX10_moves_34 : decode cX10_moves 34 = .ok (.goto 4, 3) := by decide +kernel
theorem dX10_moves_37 : decode cX10_moves 37 = .ok (.iconst 0, 1) := by decide +kernel
theorem dX10_moves_38 : decode cX10_moves 38 = .ok (.iadd, 1) := by decide +kernel
theorem dX10_moves_39 : decode cX10_moves 39 = .ok (.istore_n 1, 1) := by decide +kernel
theorem dX10_moves_40 : decode cX10_moves 40 = .ok (.iinc 2 1, 3) := by decide +kernel
theorem dX10_moves_43 : decode cX10_moves 43 = .ok (.goto (-30), 3) := by decide +kernel
theorem dX10_moves_46 : decode cX10_moves 46 = .ok (.iload_n 1, 1) := by decide +kernel
theorem dX10_moves_47 : decode cX10_moves 47 = .ok (.ireturn, 1) := by decide +kernel
set_option maxRecDepth 20000 in
theorem ggX10_cost_X9_end : GoodIn wsX10_cost wsX9_end := goodIn_r _ [9, 10, 11, 43, 44, 45, 46, 47] (by decide +kernel) (by decide +kernel)
set_option maxRecDepth 20000 in
theorem gX10_cost_X9_end_n1 : GoodIn wsX10_cost (wsX9_end) := ggX10_cost_X9_end
theorem dX10_cost_0 : decode cX10_cost 0 = .ok (.aload_n 0, 1) := by decide +kernel
theorem dX10_cost_1 : decode cX10_cost 1 = .ok (.getfield 77, 3) := by decide +kernel
theorem dX10_cost_4 : decode cX10_cost 4 = .ok (.iload_n 1, 1) := by decide +kernel
theorem dX10_cost_5 : decode cX10_cost 5 = .ok (.caload, 1) := by decide +kernel
theorem dX10_cost_6 : decode cX10_cost 6 = .ok (.bipush 108, 2) := by decide +kernel
theorem dX10_cost_8 : decode cX10_cost 8 = .ok (.if_icmp .ne 5, 3) := by decide +kernel
theorem dX10_cost_11 : decode cX10_cost 11 = .ok (.iconst 3, 1) := by decide +kernel
theorem dX10_cost_12 : decode cX10_cost 12 = .ok (.ireturn, 1) := by decide +kernel
theorem dX10_cost_13 : decode cX10_cost 13 = .ok (.aload_n 0, 1) := by decide +kernel
theorem dX10_cost_14 : decode cX10_cost 14 = .ok (.getfield 77, 3) := by decide +kernel
theorem dX10_cost_17 : decode cX10_cost 17 = .ok (.iload_n 1, 1) := by decide +kernel
theorem dX10_cost_18 : decode cX10_cost 18 = .ok (.caload, 1) := by decide +kernel
theorem dX10_cost_19 : decode cX10_cost 19 = .ok (.bipush 100, 2) := by decide +kernel
theorem dX10_cost_21 : decode cX10_cost 21 = .ok (.if_icmp .ne 26, 3) := by decide +kernel
theorem dX10_cost_24 : decode cX10_cost 24 = .ok (.iconst 2, 1) := by decide +kernel
theorem dX10_cost_25 : decode cX10_cost 25 = .ok (.aload_n 0, 1) := by decide +kernel
theorem dX10_cost_26 : decode cX10_cost 26 = .ok (.getfield 71, 3) := by decide +kernel
theorem dX10_cost_29 : decode cX10_cost 29 = .ok (.aload_n 0, 1) := by decide +kernel
theorem dX10_cost_30 : decode cX10_cost 30 = .ok (.getfield 80, 3) := by decide +kernel
theorem dX10_cost_33 : decode cX10_cost 33 = .ok (.iload_n 1, 1) := by decide +kernel
theorem dX10_cost_34 : decode cX10_cost 34 = .ok (.iaload, 1) := by decide +kernel
theorem dX10_cost_35 : decode cX10_cost 35 = .ok (.invokevirtual 1, 3) := by decide +kernel
theorem dX10_cost_38 : decode cX10_cost 38 = .ok (.aload_n 0, 1) := by decide +kernel
theorem dX10_cost_39 : decode cX10_cost 39 = .ok (.getfield 80, 3) := by decide +kernel
theorem dX10_cost_42 : decode cX10_cost 42 = .ok (.iload_n 1, 1) := by decide +kernel
theorem dX10_cost_43 : decode cX10_cost 43 = .ok (.iaload, 1) := by decide +kernel
theorem dX10_cost_44 : decode cX10_cost 44 = .ok (.isub, 1) := by decide +kernel
theorem dX10_cost_45 : decode cX10_cost 45 = .ok (.imul, 1) := by decide +kernel
theorem dX10_cost_46 : decode cX10_cost 46 = .ok (.ireturn, 1) := by decide +kernel
theorem dX10_cost_47 : decode cX10_cost 47 = .ok (.aload_n 0, 1) := by decide +kernel
theorem dX10_cost_48 : decode cX10_cost 48 = .ok (.getfield 77, 3) := by decide +kernel
theorem dX10_cost_51 : decode cX10_cost 51 = .ok (.iload_n 1, 1) := by decide +kernel
theorem dX10_cost_52 : decode cX10_cost 52 = .ok (.caload, 1) := by decide +kernel
theorem dX10_cost_53 : decode cX10_cost 53 = .ok (.bipush 105, 2) := by decide +kernel
theorem dX10_cost_55 : decode cX10_cost 55 = .ok (.if_icmp .ne 28, 3) := by decide +kernel
theorem dX10_cost_58 : decode cX10_cost 58 = .ok (.iconst 2, 1) := by decide +kernel
theorem dX10_cost_59 : decode cX10_cost 59 = .ok (.aload_n 0, 1) := by decide +kernel
theorem dX10_cost_60 : decode cX10_cost 60 = .ok (.getfield 74, 3) := by decide +kernel
theorem dX10_cost_63 : decode cX10_cost 63 = .ok (.aload_n 0, 1) := by decide +kernel
theorem dX10_cost_64 : decode cX10_cost 64 = .ok (.getfield 83, 3) := by decide +kernel
theorem dX10_cost_67 : decode cX10_cost 67 = .ok (.iload_n 1, 1) := by decide +kernel
theorem dX10_cost_68 : decode cX10_cost 68 = .ok (.iaload, 1) := by decide +kernel
theorem dX10_cost_69 : decode cX10_cost 69 = .ok (.invokevirtual 1, 3) := by decide +kernel
theorem dX10_cost_72 : decode cX10_cost 72 = .ok (.aload_n 0, 1) := by decide +kernel
theorem dX10_cost_73 : decode cX10_cost 73 = .ok (.getfield 83, 3) := by decide +kernel
theorem dX10_cost_76 : decode cX10_cost 76 = .ok (.iload_n 1, 1) := by decide +kernel
theorem dX10_cost_77 : decode cX10_cost 77 = .ok (.iaload, 1) := by decide +kernel
theorem dX10_cost_78 : decode cX10_cost 78 = .ok (.isub, 1) := by decide +kernel
theorem dX10_cost_79 : decode cX10_cost 79 = .ok (.imul, 1) := by decide +kernel
theorem dX10_cost_80 : decode cX10_cost 80 = .ok (.goto 4, 3) := by decide +kernel
theorem dX10_cost_83 : decode cX10_cost 83 = .ok (.iconst 1, 1) := by decide +kernel
theorem dX10_cost_84 : decode cX10_cost 84 = .ok (.ireturn, 1) := by decide +kernel
set_option maxRecDepth 20000 in
theorem ggX10_scriptCost_X10_isNoScript : GoodIn wsX10_scriptCost wsX10_isNoScript := goodIn_r _ [6, 7, 8, 24, 25, 26, 27, 28, 29, 30, 31, 32, 33, 34, 35, 36, 37, 38, 39, 40, 41, 42, 43, 44, 45, 46, 47, 48, 49, 50, 51, 52, 53, 54] (by decide +kernel) (by decide +kernel)
set_option maxRecDepth 20000 in
theorem gX10_scriptCost_X10_isNoScript : GoodIn wsX10_scriptCost (wsV RX10 264 RX10 yX10_isNoScript wsX10_isNoScript) := goodIn_app (goodIn_of _ (by decide +kernel)) ggX10_scriptCost_X10_isNoScript
set_option maxRecDepth 20000 in
theorem ggX10_scriptCost_X10_cost : GoodIn wsX10_scriptCost wsX10_cost := goodIn_r _ [12, 13, 14, 15, 16, 17, 18, 19, 20, 21, 22, 23, 24, 25, 26, 27, 28, 29, 30, 31, 32, 33, 34, 35, 36, 37, 38, 39, 40, 41, 42, 43, 44, 45, 46, 47, 48, 49, 50, 51, 52, 53, 54, 55, 56, 57, 58, 59] (by decide +kernel) (by decide +kernel)
set_option maxRecDepth 20000 in
theorem gX10_scriptCost_X10_cost : GoodIn wsX10_scriptCost (wsV RX10 271 RX10 yX10_cost wsX10_cost) := goodIn_app (goodIn_of _ (by decide +kernel)) ggX10_scriptCost_X10_cost
theorem dX10_scriptCost_0 : decode cX10_scriptCost 0 = .ok (.aload_n 0, 1) := by decide +kernel
theorem dX10_scriptCost_1 : decode cX10_scriptCost 1 = .ok (.invokevirtual 264, 3) := by decide +kernel
theorem dX10_scriptCost_4 : decode cX10_scriptCost 4 = .ok (.ifCond .eq 5, 3) := by decide +kernel
theorem dX10_scriptCost_7 : decode cX10_scriptCost 7 = .ok (.iconst 0, 1) := by decide +kernel
theorem dX10_scriptCost_8 : decode cX10_scriptCost 8 = .ok (.ireturn, 1) := by decide +kernel
theorem dX10_scriptCost_9 : decode cX10_scriptCost 9 = .ok (.iconst 0, 1) := by decide +kernel
theorem dX10_scriptCost_10 : decode cX10_scriptCost 10 = .ok (.istore_n 1, 1) := by decide +kernel
theorem dX10_scriptCost_11 : decode cX10_scriptCost 11 = .ok (.iconst 0, 1) := by decide +kernel
theorem dX10_scriptCost_12 : decode cX10_scriptCost 12 = .ok (.istore_n 2, 1) := by decide +kernel
theorem dX10_scriptCost_13 : decode cX10_scriptCost 13 = .ok (.iload_n 2, 1) := by decide +kernel
theorem dX10_scriptCost_14 : decode cX10_scriptCost 14 = .ok (.aload_n 0, 1) := by decide +kernel
theorem dX10_scriptCost_15 : decode cX10_scriptCost 15 = .ok (.getfield 196, 3) := by decide +kernel
theorem dX10_scriptCost_18 : decode cX10_scriptCost 18 = .ok (.if_icmp .ge 17, 3) := by decide +kernel
theorem dX10_scriptCost_21 : decode cX10_scriptCost 21 = .ok (.iload_n 1, 1) := by decide +kernel
theorem dX10_scriptCost_22 : decode cX10_scriptCost 22 = .ok (.aload_n 0, 1) := by decide +kernel
theorem dX10_scriptCost_23 : decode cX10_scriptCost 23 = .ok (.iload_n 2, 1) := by decide +kernel
theorem dX10_scriptCost_24 : decode cX10_scriptCost 24 = .ok (.invokevirtual 271, 3) := by decide +kernel
theorem dX10_scriptCost_27 : decode cX10_scriptCost 27 = .ok (.iadd, 1) := by decide +kernel
theorem dX10_scriptCost_28 : decode cX10_scriptCost 28 = .ok (.istore_n 1, 1) := by decide +kernel
theorem dX10_scriptCost_29 : decode cX10_scriptCost 29 = .ok (.iinc 2 1, 3) := by decide +kernel
theorem dX10_scriptCost_32 : decode cX10_scriptCost 32 = .ok (.goto (-19), 3) := by decide +kernel
theorem dX10_scriptCost_35 : decode cX10_scriptCost 35 = .ok (.iload_n 1, 1) := by decide +kernel
theorem dX10_scriptCost_36 : decode cX10_scriptCost 36 = .ok (.ireturn, 1) := by decide +kernel
set_option maxRecDepth 20000 in
theorem ggX10_links_X9_end : GoodIn wsX10_links wsX9_end := goodIn_r _ [7, 8, 9, 28, 29, 30, 31, 32] (by decide +kernel) (by decide +kernel)
set_option maxRecDepth 20000 in
theorem gX10_links_X9_end_n1 : GoodIn wsX10_links (wsX9_end) := ggX10_links_X9_end
set_option maxRecDepth 20000 in
theorem ggX10_links_X8_init : GoodIn wsX10_links wsX8_init := goodIn_r _ [11, 12, 13, 14, 15, 16, 22, 23, 24, 25, 26, 27] (by decide +kernel) (by decide +kernel)
set_option maxRecDepth 20000 in
theorem gX10_links_X8_init_n274 : GoodIn wsX10_links (wsX8_init) := ggX10_links_X8_init
set_option maxRecDepth 20000 in
theorem ggX10_links_X8_puts : GoodIn wsX10_links wsX8_puts := goodIn_r _ [19, 20, 16, 21, 22, 23, 24, 25, 26, 27] (by decide +kernel) (by decide +kernel)
set_option maxRecDepth 20000 in
theorem gX10_links_X8_puts_n285 : GoodIn wsX10_links (wsX8_puts) := ggX10_links_X8_puts
theorem dX10_links_0 : decode cX10_links 0 = .ok (.aload_n 0, 1) := by decide +kernel
theorem dX10_links_1 : decode cX10_links 1 = .ok (.iload_n 1, 1) := by decide +kernel
theorem dX10_links_2 : decode cX10_links 2 = .ok (.invokevirtual 1, 3) := by decide +kernel
theorem dX10_links_5 : decode cX10_links 5 = .ok (.iload_n 1, 1) := by decide +kernel
theorem dX10_links_6 : decode cX10_links 6 = .ok (.isub, 1) := by decide +kernel
theorem dX10_links_7 : decode cX10_links 7 = .ok (.anewarray 92, 3) := by decide +kernel
theorem dX10_links_10 : decode cX10_links 10 = .ok (.astore_n 2, 1) := by decide +kernel
theorem dX10_links_11 : decode cX10_links 11 = .ok (.iconst 0, 1) := by decide +kernel
theorem dX10_links_12 : decode cX10_links 12 = .ok (.istore_n 3, 1) := by decide +kernel
theorem dX10_links_13 : decode cX10_links 13 = .ok (.iload_n 3, 1) := by decide +kernel
theorem dX10_links_14 : decode cX10_links 14 = .ok (.aload_n 2, 1) := by decide +kernel
theorem dX10_links_15 : decode cX10_links 15 = .ok (.arraylength, 1) := by decide +kernel
theorem dX10_links_16 : decode cX10_links 16 = .ok (.if_icmp .ge 95, 3) := by decide +kernel
theorem dX10_links_19 : decode cX10_links 19 = .ok (.aload_n 2, 1) := by decide +kernel
theorem dX10_links_20 : decode cX10_links 20 = .ok (.iload_n 3, 1) := by decide +kernel
theorem dX10_links_21 : decode cX10_links 21 = .ok (.new 92, 3) := by decide +kernel
theorem dX10_links_24 : decode cX10_links 24 = .ok (.dup, 1) := by decide +kernel
theorem dX10_links_25 : decode cX10_links 25 = .ok (.invokespecial 274, 3) := by decide +kernel
theorem dX10_links_28 : decode cX10_links 28 = .ok (.aastore, 1) := by decide +kernel
theorem dX10_links_29 : decode cX10_links 29 = .ok (.aload_n 2, 1) := by decide +kernel
theorem dX10_links_30 : decode cX10_links 30 = .ok (.iload_n 3, 1) := by decide +kernel
theorem dX10_links_31 : decode cX10_links 31 = .ok (.aaload, 1) := by decide +kernel
theorem dX10_links_32 : decode cX10_links 32 = .ok (.aload_n 0, 1) := by decide +kernel
theorem dX10_links_33 : decode cX10_links 33 = .ok (.getfield 11, 3) := by decide +kernel
theorem dX10_links_36 : decode cX10_links 36 = .ok (.iload_n 1, 1) := by decide +kernel
theorem dX10_links_37 : decode cX10_links 37 = .ok (.iload_n 3, 1) := by decide +kernel
