set_option maxRecDepth 20000 in
theorem gX4_choose_X4_greater : GoodIn wsX4_choose (va_wsS RX4 129 yX4_greater wsX4_greater) := goodIn_app (goodIn_of _ (by decide +kernel)) ggX4_choose_X4_greater
theorem dX4_choose_0 : decode cX4_choose 0 = .ok (.aload_n 0, 1) := by decide +kernel
theorem dX4_choose_1 : decode cX4_choose 1 = .ok (.getfield 140, 3) := by decide +kernel
theorem dX4_choose_4 : decode cX4_choose 4 = .ok (.iconst 1, 1) := by decide +kernel
theorem dX4_choose_5 : decode cX4_choose 5 = .ok (.isub, 1) := by decide +kernel
theorem dX4_choose_6 : decode cX4_choose 6 = .ok (.istore_n 1, 1) := by decide +kernel
theorem dX4_choose_7 : decode cX4_choose 7 = .ok (.sipush 1024, 3) := by decide +kernel
theorem dX4_choose_10 : decode cX4_choose 10 = .ok (.aload_n 0, 1) := by decide +kernel
theorem dX4_choose_11 : decode cX4_choose 11 = .ok (.getfield 119, 3) := by decide +kernel
theorem dX4_choose_14 : decode cX4_choose 14 = .ok (.aload_n 0, 1) := by decide +kernel
theorem dX4_choose_15 : decode cX4_choose 15 = .ok (.getfield 122, 3) := by decide +kernel
theorem dX4_choose_18 : decode cX4_choose 18 = .ok (.iadd, 1) := by decide +kernel
theorem dX4_choose_19 : decode cX4_choose 19 = .ok (.imul, 1) := by decide +kernel
theorem dX4_choose_20 : decode cX4_choose 20 = .ok (.istore_n 2, 1) := by decide +kernel
theorem dX4_choose_21 : decode cX4_choose 21 = .ok (.sipush 1024, 3) := by decide +kernel
theorem dX4_choose_24 : decode cX4_choose 24 = .ok (.aload_n 0, 1) := by decide +kernel
theorem dX4_choose_25 : decode cX4_choose 25 = .ok (.getfield 119, 3) := by decide +kernel
theorem dX4_choose_28 : decode cX4_choose 28 = .ok (.aload_n 0, 1) := by decide +kernel
theorem dX4_choose_29 : decode cX4_choose 29 = .ok (.getfield 122, 3) := by decide +kernel
theorem dX4_choose_32 : decode cX4_choose 32 = .ok (.isub, 1) := by decide +kernel
theorem dX4_choose_33 : decode cX4_choose 33 = .ok (.imul, 1) := by decide +kernel
theorem dX4_choose_34 : decode cX4_choose 34 = .ok (.istore_n 3, 1) := by decide +kernel
theorem dX4_choose_35 : decode cX4_choose 35 = .ok (.iload_n 1, 1) := by decide +kernel
theorem dX4_choose_36 : decode cX4_choose 36 = .ok (.istore 4, 2) := by decide +kernel
theorem dX4_choose_38 : decode cX4_choose 38 = .ok (.iload 4, 2) := by decide +kernel
theorem dX4_choose_40 : decode cX4_choose 40 = .ok (.ifCond .lt 106, 3) := by decide +kernel
theorem dX4_choose_43 : decode cX4_choose 43 = .ok (.aload_n 0, 1) := by decide +kernel
theorem dX4_choose_44 : decode cX4_choose 44 = .ok (.getfield 41, 3) := by decide +kernel
theorem dX4_choose_47 : decode cX4_choose 47 = .ok (.iload 4, 2) := by decide +kernel
theorem dX4_choose_49 : decode cX4_choose 49 = .ok (.iaload, 1) := by decide +kernel
theorem dX4_choose_50 : decode cX4_choose 50 = .ok (.istore 5, 2) := by decide +kernel
theorem dX4_choose_52 : decode cX4_choose 52 = .ok (.iload 5, 2) := by decide +kernel
theorem dX4_choose_54 : decode cX4_choose 54 = .ok (.ifCond .ge 7, 3) := by decide +kernel
theorem dX4_choose_57 : decode cX4_choose 57 = .ok (.iload_n 2, 1) := by decide +kernel
theorem dX4_choose_58 : decode cX4_choose 58 = .ok (.goto 10, 3) := by decide +kernel
theorem dX4_choose_61 : decode cX4_choose 61 = .ok (.aload_n 0, 1) := by decide +kernel
theorem dX4_choose_62 : decode cX4_choose 62 = .ok (.getfield 62, 3) := by decide +kernel
theorem dX4_choose_65 : decode cX4_choose 65 = .ok (.iload 5, 2) := by decide +kernel
theorem dX4_choose_67 : decode cX4_choose 67 = .ok (.iaload, 1) := by decide +kernel
theorem dX4_choose_68 : decode cX4_choose 68 = .ok (.istore 6, 2) := by decide +kernel
theorem dX4_choose_70 : decode cX4_choose 70 = .ok (.iload 5, 2) := by decide +kernel
theorem dX4_choose_72 : decode cX4_choose 72 = .ok (.ifCond .ge 7, 3) := by decide +kernel
theorem dX4_choose_75 : decode cX4_choose 75 = .ok (.iload_n 3, 1) := by decide +kernel
theorem dX4_choose_76 : decode cX4_choose 76 = .ok (.goto 10, 3) := by decide +kernel
theorem dX4_choose_79 : decode cX4_choose 79 = .ok (.aload_n 0, 1) := by decide +kernel
theorem dX4_choose_80 : decode cX4_choose 80 = .ok (.getfield 65, 3) := by decide +kernel
theorem dX4_choose_83 : decode cX4_choose 83 = .ok (.iload 5, 2) := by decide +kernel
theorem dX4_choose_85 : decode cX4_choose 85 = .ok (.iaload, 1) := by decide +kernel
theorem dX4_choose_86 : decode cX4_choose 86 = .ok (.istore 7, 2) := by decide +kernel
theorem dX4_choose_88 : decode cX4_choose 88 = .ok (.aload_n 0, 1) := by decide +kernel
theorem dX4_choose_89 : decode cX4_choose 89 = .ok (.getfield 62, 3) := by decide +kernel
theorem dX4_choose_92 : decode cX4_choose 92 = .ok (.iload 4, 2) := by decide +kernel
theorem dX4_choose_94 : decode cX4_choose 94 = .ok (.iload 6, 2) := by decide +kernel
theorem dX4_choose_96 : decode cX4_choose 96 = .ok (.aload_n 0, 1) := by decide +kernel
theorem dX4_choose_97 : decode cX4_choose 97 = .ok (.getfield 44, 3) := by decide +kernel
theorem dX4_choose_100 : decode cX4_choose 100 = .ok (.iload 4, 2) := by decide +kernel
theorem dX4_choose_102 : decode cX4_choose 102 = .ok (.iaload, 1) := by decide +kernel
theorem dX4_choose_103 : decode cX4_choose 103 = .ok (.aload_n 0, 1) := by decide +kernel
theorem dX4_choose_104 : decode cX4_choose 104 = .ok (.getfield 47, 3) := by decide +kernel
theorem dX4_choose_107 : decode cX4_choose 107 = .ok (.iload 4, 2) := by decide +kernel
theorem dX4_choose_109 : decode cX4_choose 109 = .ok (.iaload, 1) := by decide +kernel
theorem dX4_choose_110 : decode cX4_choose 110 = .ok (.invokestatic 168, 3) := by decide +kernel
theorem dX4_choose_113 : decode cX4_choose 113 = .ok (.iastore, 1) := by decide +kernel
theorem dX4_choose_114 : decode cX4_choose 114 = .ok (.aload_n 0, 1) := by decide +kernel
theorem dX4_choose_115 : decode cX4_choose 115 = .ok (.getfield 65, 3) := by decide +kernel
theorem dX4_choose_118 : decode cX4_choose 118 = .ok (.iload 4, 2) := by decide +kernel
theorem dX4_choose_120 : decode cX4_choose 120 = .ok (.iload 7, 2) := by decide +kernel
theorem dX4_choose_122 : decode cX4_choose 122 = .ok (.aload_n 0, 1) := by decide +kernel
theorem dX4_choose_123 : decode cX4_choose 123 = .ok (.getfield 50, 3) := by decide +kernel
theorem dX4_choose_126 : decode cX4_choose 126 = .ok (.iload 4, 2) := by decide +kernel
theorem dX4_choose_128 : decode cX4_choose 128 = .ok (.iaload, 1) := by decide +kernel
theorem dX4_choose_129 : decode cX4_choose 129 = .ok (.aload_n 0, 1) := by decide +kernel
theorem dX4_choose_130 : decode cX4_choose 130 = .ok (.getfield 53, 3) := by decide +kernel
theorem dX4_choose_133 : decode cX4_choose 133 = .ok (.iload 4, 2) := by decide +kernel
theorem dX4_choose_135 : decode cX4_choose 135 = .ok (.iaload, 1) := by decide +kernel
theorem dX4_choose_136 : decode cX4_choose 136 = .ok (.invokestatic 168, 3) := by decide +kernel
theorem dX4_choose_139 : decode cX4_choose 139 = .ok (.iastore, 1) := by decide +kernel
theorem dX4_choose_140 : decode cX4_choose 140 = .ok (.iinc 4 (-1), 3) := by decide +kernel
theorem dX4_choose_143 : decode cX4_choose 143 = .ok (.goto (-105), 3) := by decide +kernel
theorem dX4_choose_146 : decode cX4_choose 146 = .ok (.aload_n 0, 1) := by decide +kernel
theorem dX4_choose_147 : decode cX4_choose 147 = .ok (.getfield 59, 3) := by decide +kernel
theorem dX4_choose_150 : decode cX4_choose 150 = .ok (.iload_n 1, 1) := by decide +kernel
theorem dX4_choose_151 : decode cX4_choose 151 = .ok (.aload_n 0, 1) := by decide +kernel
theorem dX4_choose_152 : decode cX4_choose 152 = .ok (.getfield 62, 3) := by decide +kernel
theorem dX4_choose_155 : decode cX4_choose 155 = .ok (.iload_n 1, 1) := by decide +kernel
theorem dX4_choose_156 : decode cX4_choose 156 = .ok (.iaload, 1) := by decide +kernel
theorem dX4_choose_157 : decode cX4_choose 157 = .ok (.aload_n 0, 1) := by decide +kernel
theorem dX4_choose_158 : decode cX4_choose 158 = .ok (.getfield 62, 3) := by decide +kernel
theorem dX4_choose_161 : decode cX4_choose 161 = .ok (.iload_n 1, 1) := by decide +kernel
theorem dX4_choose_162 : decode cX4_choose 162 = .ok (.iaload, 1) := by decide +kernel
theorem dX4_choose_163 : decode cX4_choose 163 = .ok (.iload_n 2, 1) := by decide +kernel
theorem dX4_choose_164 : decode cX4_choose 164 = .ok (.iload_n 2, 1) := by decide +kernel
theorem dX4_choose_165 : decode cX4_choose 165 = .ok (.invokestatic 133, 3) := by decide +kernel
theorem dX4_choose_168 : decode cX4_choose 168 = .ok (.aload_n 0, 1) := by decide +kernel
theorem dX4_choose_169 : decode cX4_choose 169 = .ok (.getfield 65, 3) := by decide +kernel
theorem dX4_choose_172 : decode cX4_choose 172 = .ok (.iload_n 1, 1) := by decide +kernel
theorem dX4_choose_173 : decode cX4_choose 173 = .ok (.iaload, 1) := by decide +kernel
theorem dX4_choose_174 : decode cX4_choose 174 = .ok (.aload_n 0, 1) := by decide +kernel
theorem dX4_choose_175 : decode cX4_choose 175 = .ok (.getfield 65, 3) := by decide +kernel
theorem dX4_choose_178 : decode cX4_choose 178 = .ok (.iload_n 1, 1) := by decide +kernel
theorem dX4_choose_179 : decode cX4_choose 179 = .ok (.iaload, 1) := by decide +kernel
theorem dX4_choose_180 : decode cX4_choose 180 = .ok (.iload_n 3, 1) := by decide +kernel
theorem dX4_choose_181 : decode cX4_choose 181 = .ok (.iload_n 3, 1) := by decide +kernel
theorem dX4_choose_182 : decode cX4_choose 182 = .ok (.invokestatic 133, 3) := by decide +kernel
theorem dX4_choose_185 : decode cX4_choose 185 = .ok (.invokestatic 129, 3) := by decide +kernel
theorem dX4_choose_188 : decode cX4_choose 188 = .ok (.iastore, 1) := by decide +kernel
theorem dX4_choose_189 : decode cX4_choose 189 = .ok (.return_, 1) := by decide +kernel
set_option maxRecDepth 20000 in
theorem ggX4_build_X4_begin : GoodIn wsX4_build wsX4_begin := goodIn_r _ [9, 1, 3, 10, 11, 12, 13, 14, 15, 16, 17, 18, 19, 20, 8, 21, 22, 23, 24, 25, 82, 83, 84, 85, 86, 87, 88, 89, 90, 91, 92, 93, 94, 95, 96, 97, 98, 99, 100, 101, 102, 103, 104, 105, 106, 107, 108, 109, 110, 111, 112, 113, 114, 115, 116, 117, 118] (by decide +kernel) (by decide +kernel)
set_option maxRecDepth 20000 in
theorem gX4_build_X4_begin : GoodIn wsX4_build (wsV RX4 172 RX4 yX4_begin wsX4_begin) := goodIn_app (goodIn_of _ (by decide +kernel)) ggX4_build_X4_begin
set_option maxRecDepth 20000 in
theorem ggX4_build_X4_cutAll : GoodIn wsX4_build wsX4_cutAll := goodIn_r _ [29, 1, 30, 31, 32, 33, 34, 35, 36, 37, 38, 39, 8, 40, 41, 42, 43, 44, 45, 46, 47, 48, 10, 11, 49, 50, 51, 52, 15, 3, 12, 13, 14, 53, 22, 23, 24, 25, 16, 17, 54, 55, 56, 57, 58, 59, 60, 61, 62, 63, 64, 65, 66, 18, 19, 20, 21, 82, 83, 84, 85, 86, 87, 88, 89, 90, 91, 92, 93, 94, 95, 96, 97, 98, 99, 100, 101, 102, 103, 104, 105, 106, 107, 108, 109, 110, 111, 112, 113, 114, 115, 116, 117, 118] (by decide +kernel) (by decide +kernel)
set_option maxRecDepth 20000 in
theorem gX4_build_X4_cutAll : GoodIn wsX4_build (wsV RX4 175 RX4 yX4_cutAll wsX4_cutAll) := goodIn_app (goodIn_of _ (by decide +kernel)) ggX4_build_X4_cutAll
set_option maxRecDepth 20000 in
theorem ggX4_build_X4_joinNearest : GoodIn wsX4_build wsX4_joinNearest := goodIn_r _ [70, 3, 16, 54, 55, 56, 8, 57, 22, 23, 24, 25, 58, 59, 60, 61, 62, 63, 49, 50, 51, 52, 15, 12, 13, 14, 53, 17, 64, 65, 66, 18, 19, 20, 21, 82, 83, 84, 85, 86, 87, 88, 89, 90, 91, 92, 93, 94, 95, 96, 97, 98, 99, 100, 101, 102, 103, 104, 105, 106, 107, 108, 109, 110, 111, 112, 113, 114, 115, 116, 117, 118] (by decide +kernel) (by decide +kernel)
set_option maxRecDepth 20000 in
theorem gX4_build_X4_joinNearest : GoodIn wsX4_build (wsV RX4 178 RX4 yX4_joinNearest wsX4_joinNearest) := goodIn_app (goodIn_of _ (by decide +kernel)) ggX4_build_X4_joinNearest
set_option maxRecDepth 20000 in
theorem ggX4_build_X4_choose : GoodIn wsX4_build wsX4_choose := goodIn_r _ [74, 3, 75, 76, 14, 77, 78, 22, 23, 24, 25, 53, 79, 80, 8, 81, 58, 59, 60, 61, 62, 63, 82, 83, 84, 85, 86, 87, 88, 89, 90, 91, 92, 93, 94, 95, 96, 97, 98, 99, 100, 101, 102, 103, 104, 105, 106, 107, 108, 109, 110, 111, 112, 113, 114, 115, 116, 117, 118] (by decide +kernel) (by decide +kernel)
set_option maxRecDepth 20000 in
theorem gX4_build_X4_choose : GoodIn wsX4_build (wsV RX4 181 RX4 yX4_choose wsX4_choose) := goodIn_app (goodIn_of _ (by decide +kernel)) ggX4_build_X4_choose
theorem dX4_build_0 : decode cX4_build 0 = .ok (.aload_n 0, 1) := by decide +kernel
theorem dX4_build_1 : decode cX4_build 1 = .ok (.iload_n 1, 1) := by decide +kernel
theorem dX4_build_2 : decode cX4_build 2 = .ok (.ifCond .eq 12, 3) := by decide +kernel
theorem dX4_build_5 : decode cX4_build 5 = .ok (.iload_n 1, 1) := by decide +kernel
theorem dX4_build_6 : decode cX4_build 6 = .ok (.iconst 1, 1) := by decide +kernel
theorem dX4_build_7 : decode cX4_build 7 = .ok (.if_icmp .eq 7, 3) := by decide +kernel
theorem dX4_build_10 : decode cX4_build 10 = .ok (.iconst 1, 1) := by decide +kernel
theorem dX4_build_11 : decode cX4_build 11 = .ok (.goto 15, 3) := by decide +kernel
theorem dX4_build_14 : decode cX4_build 14 = .ok (.aload_n 0, 1) := by decide +kernel
theorem dX4_build_15 : decode cX4_build 15 = .ok (.getfield 112, 3) := by decide +kernel
theorem dX4_build_18 : decode cX4_build 18 = .ok (.ifCond .ne 7, 3) := by decide +kernel
theorem dX4_build_21 : decode cX4_build 21 = .ok (.iconst 2, 1) := by decide +kernel
theorem dX4_build_22 : decode cX4_build 22 = .ok (.goto 4, 3) := by decide +kernel
theorem dX4_build_25 : decode cX4_build 25 = .ok (.iconst 0, 1) := by decide +kernel
theorem dX4_build_26 : decode cX4_build 26 = .ok (.putfield 100, 3) := by decide +kernel
theorem dX4_build_29 : decode cX4_build 29 = .ok (.aload_n 0, 1) := by decide +kernel
theorem dX4_build_30 : decode cX4_build 30 = .ok (.getfield 100, 3) := by decide +kernel
theorem dX4_build_33 : decode cX4_build 33 = .ok (.ifCond .le 5, 3) := by decide +kernel
theorem dX4_build_36 : decode cX4_build 36 = .ok (.iconst 0, 1) := by decide +kernel
theorem dX4_build_37 : decode cX4_build 37 = .ok (.ireturn, 1) := by decide +kernel
theorem dX4_build_38 : decode cX4_build 38 = .ok (.aload_n 0, 1) := by decide +kernel
theorem dX4_build_39 : decode cX4_build 39 = .ok (.invokevirtual 172, 3) := by decide +kernel
theorem dX4_build_42 : decode cX4_build 42 = .ok (.iload_n 1, 1) := by decide +kernel
theorem dX4_build_43 : decode cX4_build 43 = .ok (.iconst 1, 1) := by decide +kernel
theorem dX4_build_44 : decode cX4_build 44 = .ok (.if_icmp .ne 10, 3) := by decide +kernel
theorem dX4_build_47 : decode cX4_build 47 = .ok (.aload_n 0, 1) := by decide +kernel
theorem dX4_build_48 : decode cX4_build 48 = .ok (.invokevirtual 175, 3) := by decide +kernel
theorem dX4_build_51 : decode cX4_build 51 = .ok (.goto 25, 3) := by decide +kernel
theorem dX4_build_54 : decode cX4_build 54 = .ok (.aload_n 0, 1) := by decide +kernel
theorem dX4_build_55 : decode cX4_build 55 = .ok (.getfield 140, 3) := by decide +kernel
theorem dX4_build_58 : decode cX4_build 58 = .ok (.iconst 2, 1) := by decide +kernel
theorem dX4_build_59 : decode cX4_build 59 = .ok (.aload_n 0, 1) := by decide +kernel
theorem dX4_build_60 : decode cX4_build 60 = .ok (.getfield 112, 3) := by decide +kernel
theorem dX4_build_63 : decode cX4_build 63 = .ok (.imul, 1) := by decide +kernel
theorem dX4_build_64 : decode cX4_build 64 = .ok (.iconst 1, 1) := by decide +kernel
theorem dX4_build_65 : decode cX4_build 65 = .ok (.isub, 1) := by decide +kernel
theorem dX4_build_66 : decode cX4_build 66 = .ok (.if_icmp .ge 10, 3) := by decide +kernel
theorem dX4_build_69 : decode cX4_build 69 = .ok (.aload_n 0, 1) := by decide +kernel
theorem dX4_build_70 : decode cX4_build 70 = .ok (.invokevirtual 178, 3) := by decide +kernel
theorem dX4_build_73 : decode cX4_build 73 = .ok (.goto (-19), 3) := by decide +kernel
theorem dX4_build_76 : decode cX4_build 76 = .ok (.aload_n 0, 1) := by decide +kernel
theorem dX4_build_77 : decode cX4_build 77 = .ok (.invokevirtual 181, 3) := by decide +kernel
theorem dX4_build_80 : decode cX4_build 80 = .ok (.aload_n 0, 1) := by decide +kernel
theorem dX4_build_81 : decode cX4_build 81 = .ok (.iconst 1, 1) := by decide +kernel
theorem dX4_build_82 : decode cX4_build 82 = .ok (.putfield 115, 3) := by decide +kernel
theorem dX4_build_85 : decode cX4_build 85 = .ok (.aload_n 0, 1) := by decide +kernel
theorem dX4_build_86 : decode cX4_build 86 = .ok (.getfield 140, 3) := by decide +kernel
theorem dX4_build_89 : decode cX4_build 89 = .ok (.ireturn, 1) := by decide +kernel
theorem dX4_isNode_0 : decode cX4_isNode 0 = .ok (.iload_n 1, 1) := by decide +kernel
theorem dX4_isNode_1 : decode cX4_isNode 1 = .ok (.ifCond .lt 15, 3) := by decide +kernel
theorem dX4_isNode_4 : decode cX4_isNode 4 = .ok (.iload_n 1, 1) := by decide +kernel
theorem dX4_isNode_5 : decode cX4_isNode 5 = .ok (.aload_n 0, 1) := by decide +kernel
theorem dX4_isNode_6 : decode cX4_isNode 6 = .ok (.getfield 140, 3) := by decide +kernel
theorem dX4_isNode_9 : decode cX4_isNode 9 = .ok (.if_icmp .ge 7, 3) := by decide +kernel
theorem dX4_isNode_12 : decode cX4_isNode 12 = .ok (.iconst 1, 1) := by decide +kernel
theorem dX4_isNode_13 : decode cX4_isNode 13 = .ok (.goto 4, 3) := by decide +kernel
theorem dX4_isNode_16 : decode cX4_isNode 16 = .ok (.iconst 0, 1) := by decide +kernel
theorem dX4_isNode_17 : decode cX4_isNode 17 = .ok (.ireturn, 1) := by decide +kernel
set_option maxRecDepth 20000 in
theorem ggX4_node_X4_isNode : GoodIn wsX4_node wsX4_isNode := goodIn_r _ [18, 19, 20, 21, 22, 23, 24, 25, 26, 27, 28, 29, 30, 31, 32, 33, 34, 35, 36, 37, 38, 39, 40, 41, 42, 43, 44, 45, 46, 47, 48, 49, 50, 51, 52, 53, 54, 55, 56] (by decide +kernel) (by decide +kernel)
set_option maxRecDepth 20000 in
theorem gX4_node_X4_isNode : GoodIn wsX4_node (wsV RX4 184 RX4 yX4_isNode wsX4_isNode) := goodIn_app (goodIn_of _ (by decide +kernel)) ggX4_node_X4_isNode
theorem dX4_node_0 : decode cX4_node 0 = .ok (.aload_n 0, 1) := by decide +kernel
theorem dX4_node_1 : decode cX4_node 1 = .ok (.aload_n 0, 1) := by decide +kernel
theorem dX4_node_2 : decode cX4_node 2 = .ok (.getfield 115, 3) := by decide +kernel
theorem dX4_node_5 : decode cX4_node 5 = .ok (.ifCond .ne 7, 3) := by decide +kernel
theorem dX4_node_8 : decode cX4_node 8 = .ok (.iconst 1, 1) := by decide +kernel
theorem dX4_node_9 : decode cX4_node 9 = .ok (.goto 26, 3) := by decide +kernel
theorem dX4_node_12 : decode cX4_node 12 = .ok (.aload_n 0, 1) := by decide +kernel
theorem dX4_node_13 : decode cX4_node 13 = .ok (.iload_n 1, 1) := by decide +kernel
theorem dX4_node_14 : decode cX4_node 14 = .ok (.invokevirtual 184, 3) := by decide +kernel
theorem dX4_node_17 : decode cX4_node 17 = .ok (.ifCond .eq 13, 3) := by decide +kernel
theorem dX4_node_20 : decode cX4_node 20 = .ok (.iload_n 2, 1) := by decide +kernel
theorem dX4_node_21 : decode cX4_node 21 = .ok (.ifCond .lt 9, 3) := by decide +kernel
theorem dX4_node_24 : decode cX4_node 24 = .ok (.iload_n 2, 1) := by decide +kernel
theorem dX4_node_25 : decode cX4_node 25 = .ok (.bipush 10, 2) := by decide +kernel
theorem dX4_node_27 : decode cX4_node 27 = .ok (.if_icmp .le 7, 3) := by decide +kernel
theorem dX4_node_30 : decode cX4_node 30 = .ok (.iconst 2, 1) := by decide +kernel
theorem dX4_node_31 : decode cX4_node 31 = .ok (.goto 4, 3) := by decide +kernel
theorem dX4_node_34 : decode cX4_node 34 = .ok (.iconst 0, 1) := by decide +kernel
theorem dX4_node_35 : decode cX4_node 35 = .ok (.putfield 100, 3) := by decide +kernel
theorem dX4_node_38 : decode cX4_node 38 = .ok (.aload_n 0, 1) := by decide +kernel
theorem dX4_node_39 : decode cX4_node 39 = .ok (.getfield 100, 3) := by decide +kernel
theorem dX4_node_42 : decode cX4_node 42 = .ok (.ifCond .le 5, 3) := by decide +kernel
theorem dX4_node_45 : decode cX4_node 45 = .ok (.iconst 0, 1) := by decide +kernel
theorem dX4_node_46 : decode cX4_node 46 = .ok (.ireturn, 1) := by decide +kernel
theorem dX4_node_47 : decode cX4_node 47 = .ok (.iload_n 2, 1) := by decide +kernel
theorem dX4_node_48 : decode cX4_node 48 = .ok (.tableswitch 126 0 9 #[56, 63, 70, 77, 84, 91, 98, 105, 112, 119], 56) := by decide +kernel
theorem dX4_node_104 : decode cX4_node 104 = .ok (.aload_n 0, 1) := by decide +kernel
theorem dX4_node_105 : decode cX4_node 105 = .ok (.getfield 35, 3) := by decide +kernel
theorem dX4_node_108 : decode cX4_node 108 = .ok (.iload_n 1, 1) := by decide +kernel
theorem dX4_node_109 : decode cX4_node 109 = .ok (.iaload, 1) := by decide +kernel
theorem dX4_node_110 : decode cX4_node 110 = .ok (.ireturn, 1) := by decide +kernel
theorem dX4_node_111 : decode cX4_node 111 = .ok (.aload_n 0, 1) := by decide +kernel
theorem dX4_node_112 : decode cX4_node 112 = .ok (.getfield 38, 3) := by decide +kernel
theorem dX4_node_115 : decode cX4_node 115 = .ok (.iload_n 1, 1) := by decide +kernel
theorem dX4_node_116 : decode cX4_node 116 = .ok (.iaload, 1) := by decide +kernel
theorem dX4_node_117 : decode cX4_node 117 = .ok (.ireturn, 1) := by decide +kernel
theorem dX4_node_118 : decode cX4_node 118 = .ok (.aload_n 0, 1) := by decide +kernel
theorem dX4_node_119 : decode cX4_node 119 = .ok (.getfield 41, 3) := by decide +kernel
theorem dX4_node_122 : decode cX4_node 122 = .ok (.iload_n 1, 1) := by decide +kernel
theorem dX4_node_123 : decode cX4_node 123 = .ok (.iaload, 1) := by decide +kernel
theorem dX4_node_124 : decode cX4_node 124 = .ok (.ireturn, 1) := by decide +kernel
theorem dX4_node_125 : decode cX4_node 125 = .ok (.aload_n 0, 1) := by decide +kernel
theorem dX4_node_126 : decode cX4_node 126 = .ok (.getfield 44, 3) := by decide +kernel
theorem dX4_node_129 : decode cX4_node 129 = .ok (.iload_n 1, 1) := by decide +kernel
theorem dX4_node_130 : decode cX4_node 130 = .ok (.iaload, 1) := by decide +kernel
theorem dX4_node_131 : decode cX4_node 131 = .ok (.ireturn, 1) := by decide +kernel
theorem dX4_node_132 : decode cX4_node 132 = .ok (.aload_n 0, 1) := by decide +kernel
theorem dX4_node_133 : decode cX4_node 133 = .ok (.getfield 47, 3) := by decide +kernel
theorem dX4_node_136 : decode cX4_node 136 = .ok (.iload_n 1, 1) := by decide +kernel
theorem dX4_node_137 : decode cX4_node 137 = .ok (.iaload, 1) := by decide +kernel
theorem dX4_node_138 : decode cX4_node 138 = .ok (.ireturn, 1) := by decide +kernel
theorem dX4_node_139 : decode cX4_node 139 = .ok (.aload_n 0, 1) := by decide +kernel
theorem dX4_node_140 : decode cX4_node 140 = .ok (.getfield 50, 3) := by decide +kernel
theorem dX4_node_143 : decode cX4_node 143 = .ok (.iload_n 1, 1) := by decide +kernel
theorem dX4_node_144 : decode cX4_node 144 = .ok (.iaload, 1) := by decide +kernel
theorem dX4_node_145 : decode cX4_node 145 = .ok (.ireturn, 1) := by decide +kernel
theorem dX4_node_146 : decode cX4_node 146 = .ok (.aload_n 0, 1) := by decide +kernel
theorem dX4_node_147 : decode cX4_node 147 = .ok (.getfield 53, 3) := by decide +kernel
theorem dX4_node_150 : decode cX4_node 150 = .ok (.iload_n 1, 1) := by decide +kernel
theorem dX4_node_151 : decode cX4_node 151 = .ok (.iaload, 1) := by decide +kernel
theorem dX4_node_152 : decode cX4_node 152 = .ok (.ireturn, 1) := by decide +kernel
theorem dX4_node_153 : decode cX4_node 153 = .ok (.aload_n 0, 1) := by decide +kernel
theorem dX4_node_154 : decode cX4_node 154 = .ok (.getfield 56, 3) := by decide +kernel
theorem dX4_node_157 : decode cX4_node 157 = .ok (.iload_n 1, 1) := by decide +kernel
theorem dX4_node_158 : decode cX4_node 158 = .ok (.iaload, 1) := by decide +kernel
theorem dX4_node_159 : decode cX4_node 159 = .ok (.ireturn, 1) := by decide +kernel
theorem dX4_node_160 : decode cX4_node 160 = .ok (.aload_n 0, 1) := by decide +kernel
theorem dX4_node_161 : decode cX4_node 161 = .ok (.getfield 59, 3) := by decide +kernel
theorem dX4_node_164 : decode cX4_node 164 = .ok (.iload_n 1, 1) := by decide +kernel
theorem dX4_node_165 : decode cX4_node 165 = .ok (.iaload, 1) := by decide +kernel
theorem dX4_node_166 : decode cX4_node 166 = .ok (.ireturn, 1) := by decide +kernel
theorem dX4_node_167 : decode cX4_node 167 = .ok (.aload_n 0, 1) := by decide +kernel
theorem dX4_node_168 : decode cX4_node 168 = .ok (.getfield 62, 3) := by decide +kernel
theorem dX4_node_171 : decode cX4_node 171 = .ok (.iload_n 1, 1) := by decide +kernel
theorem dX4_node_172 : decode cX4_node 172 = .ok (.iaload, 1) := by decide +kernel
theorem dX4_node_173 : decode cX4_node 173 = .ok (.ireturn, 1) := by decide +kernel
theorem dX4_node_174 : decode cX4_node 174 = .ok (.aload_n 0, 1) := by decide +kernel
theorem dX4_node_175 : decode cX4_node 175 = .ok (.getfield 65, 3) := by decide +kernel
theorem dX4_node_178 : decode cX4_node 178 = .ok (.iload_n 1, 1) := by decide +kernel
theorem dX4_node_179 : decode cX4_node 179 = .ok (.iaload, 1) := by decide +kernel
theorem dX4_node_180 : decode cX4_node 180 = .ok (.ireturn, 1) := by decide +kernel
theorem dX4_length_0 : decode cX4_length 0 = .ok (.aload_n 0, 1) := by decide +kernel
theorem dX4_length_1 : decode cX4_length 1 = .ok (.aload_n 0, 1) := by decide +kernel
theorem dX4_length_2 : decode cX4_length 2 = .ok (.getfield 115, 3) := by decide +kernel
theorem dX4_length_5 : decode cX4_length 5 = .ok (.ifCond .eq 7, 3) := by decide +kernel
theorem dX4_length_8 : decode cX4_length 8 = .ok (.iconst 0, 1) := by decide +kernel
theorem dX4_length_9 : decode cX4_length 9 = .ok (.goto 4, 3) := by decide +kernel
theorem dX4_length_12 : decode cX4_length 12 = .ok (.iconst 1, 1) := by decide +kernel
theorem dX4_length_13 : decode cX4_length 13 = .ok (.putfield 100, 3) := by decide +kernel
theorem dX4_length_16 : decode cX4_length 16 = .ok (.iconst 0, 1) := by decide +kernel
theorem dX4_length_17 : decode cX4_length 17 = .ok (.istore_n 1, 1) := by decide +kernel
theorem dX4_length_18 : decode cX4_length 18 = .ok (.iconst 0, 1) := by decide +kernel
theorem dX4_length_19 : decode cX4_length 19 = .ok (.istore_n 2, 1) := by decide +kernel
theorem dX4_length_20 : decode cX4_length 20 = .ok (.iload_n 2, 1) := by decide +kernel
theorem dX4_length_21 : decode cX4_length 21 = .ok (.aload_n 0, 1) := by decide +kernel
theorem dX4_length_22 : decode cX4_length 22 = .ok (.getfield 140, 3) := by decide +kernel
theorem dX4_length_25 : decode cX4_length 25 = .ok (.if_icmp .ge 25, 3) := by decide +kernel
theorem dX4_length_28 : decode cX4_length 28 = .ok (.aload_n 0, 1) := by decide +kernel
theorem dX4_length_29 : decode cX4_length 29 = .ok (.getfield 115, 3) := by decide +kernel
theorem dX4_length_32 : decode cX4_length 32 = .ok (.ifCond .eq 18, 3) := by decide +kernel
theorem dX4_length_35 : decode cX4_length 35 = .ok (.iload_n 1, 1) := by decide +kernel
theorem dX4_length_36 : decode cX4_length 36 = .ok (.aload_n 0, 1) := by decide +kernel
theorem dX4_length_37 : decode cX4_length 37 = .ok (.getfield 59, 3) := by decide +kernel
theorem dX4_length_40 : decode cX4_length 40 = .ok (.iload_n 2, 1) := by decide +kernel
theorem dX4_length_41 : decode cX4_length 41 = .ok (.iaload, 1) := by decide +kernel
theorem dX4_length_42 : decode cX4_length 42 = .ok (.iadd, 1) := by decide +kernel
theorem dX4_length_43 : decode cX4_length 43 = .ok (.istore_n 1, 1) := by decide +kernel
theorem dX4_length_44 : decode cX4_length 44 = .ok (.iinc 2 1, 3) := by decide +kernel
theorem dX4_length_47 : decode cX4_length 47 = .ok (.goto (-27), 3) := by decide +kernel
theorem dX4_length_50 : decode cX4_length 50 = .ok (.iload_n 1, 1) := by decide +kernel
theorem dX4_length_51 : decode cX4_length 51 = .ok (.ireturn, 1) := by decide +kernel
theorem dX4_depth_0 : decode cX4_depth 0 = .ok (.aload_n 0, 1) := by decide +kernel
theorem dX4_depth_1 : decode cX4_depth 1 = .ok (.aload_n 0, 1) := by decide +kernel
theorem dX4_depth_2 : decode cX4_depth 2 = .ok (.getfield 115, 3) := by decide +kernel
theorem dX4_depth_5 : decode cX4_depth 5 = .ok (.ifCond .ne 7, 3) := by decide +kernel
theorem dX4_depth_8 : decode cX4_depth 8 = .ok (.iconst 1, 1) := by decide +kernel
theorem dX4_depth_9 : decode cX4_depth 9 = .ok (.goto 20, 3) := by decide +kernel
theorem dX4_depth_12 : decode cX4_depth 12 = .ok (.iload_n 1, 1) := by decide +kernel
theorem dX4_depth_13 : decode cX4_depth 13 = .ok (.ifCond .lt 11, 3) := by decide +kernel
theorem dX4_depth_16 : decode cX4_depth 16 = .ok (.iload_n 1, 1) := by decide +kernel
theorem dX4_depth_17 : decode cX4_depth 17 = .ok (.aload_n 0, 1) := by decide +kernel
theorem dX4_depth_18 : decode cX4_depth 18 = .ok (.getfield 112, 3) := by decide +kernel
theorem dX4_depth_21 : decode cX4_depth 21 = .ok (.if_icmp .lt 7, 3) := by decide +kernel
theorem dX4_depth_24 : decode cX4_depth 24 = .ok (.iconst 2, 1) := by decide +kernel
theorem dX4_depth_25 : decode cX4_depth 25 = .ok (.goto 4, 3) := by decide +kernel
theorem dX4_depth_28 : decode cX4_depth 28 = .ok (.iconst 0, 1) := by decide +kernel
theorem dX4_depth_29 : decode cX4_depth 29 = .ok (.putfield 100, 3) := by decide +kernel
theorem dX4_depth_32 : decode cX4_depth 32 = .ok (.aload_n 0, 1) := by decide +kernel
theorem dX4_depth_33 : decode cX4_depth 33 = .ok (.getfield 100, 3) := by decide +kernel
theorem dX4_depth_36 : decode cX4_depth 36 = .ok (.ifCond .le 5, 3) := by decide +kernel
theorem dX4_depth_39 : decode cX4_depth 39 = .ok (.iconst 0, 1) := by decide +kernel
theorem dX4_depth_40 : decode cX4_depth 40 = .ok (.ireturn, 1) := by decide +kernel
theorem dX4_depth_41 : decode cX4_depth 41 = .ok (.iconst 0, 1) := by decide +kernel
theorem dX4_depth_42 : decode cX4_depth 42 = .ok (.istore_n 2, 1) := by decide +kernel
theorem dX4_depth_43 : decode cX4_depth 43 = .ok (.aload_n 0, 1) := by decide +kernel
theorem dX4_depth_44 : decode cX4_depth 44 = .ok (.getfield 41, 3) := by decide +kernel
theorem dX4_depth_47 : decode cX4_depth 47 = .ok (.iload_n 1, 1) := by decide +kernel
theorem dX4_depth_48 : decode cX4_depth 48 = .ok (.iaload, 1) := by decide +kernel
theorem dX4_depth_49 : decode cX4_depth 49 = .ok (.istore_n 3, 1) := by decide +kernel
theorem dX4_depth_50 : decode cX4_depth 50 = .ok (.iload_n 3, 1) := by decide +kernel
theorem dX4_depth_51 : decode cX4_depth 51 = .ok (.ifCond .lt 16, 3) := by decide +kernel
theorem dX4_depth_54 : decode cX4_depth 54 = .ok (.iinc 2 1, 3) := by decide +kernel
theorem dX4_depth_57 : decode cX4_depth 57 = .ok (.aload_n 0, 1) := by decide +kernel
theorem dX4_depth_58 : decode cX4_depth 58 = .ok (.getfield 41, 3) := by decide +kernel
theorem dX4_depth_61 : decode cX4_depth 61 = .ok (.iload_n 3, 1) := by decide +kernel
theorem dX4_depth_62 : decode cX4_depth 62 = .ok (.iaload, 1) := by decide +kernel
theorem dX4_depth_63 : decode cX4_depth 63 = .ok (.istore_n 3, 1) := by decide +kernel
theorem dX4_depth_64 : decode cX4_depth 64 = .ok (.goto (-14), 3) := by decide +kernel
theorem dX4_depth_67 : decode cX4_depth 67 = .ok (.iload_n 2, 1) := by decide +kernel
theorem dX4_depth_68 : decode cX4_depth 68 = .ok (.ireturn, 1) := by decide +kernel
theorem dX4_set_0 : decode cX4_set 0 = .ok (.aload_n 0, 1) := by decide +kernel
theorem dX4_set_1 : decode cX4_set 1 = .ok (.aload_n 0, 1) := by decide +kernel
theorem dX4_set_2 : decode cX4_set 2 = .ok (.getfield 115, 3) := by decide +kernel
theorem dX4_set_5 : decode cX4_set 5 = .ok (.ifCond .ne 7, 3) := by decide +kernel
theorem dX4_set_8 : decode cX4_set 8 = .ok (.iconst 1, 1) := by decide +kernel
theorem dX4_set_9 : decode cX4_set 9 = .ok (.goto 24, 3) := by decide +kernel
theorem dX4_set_12 : decode cX4_set 12 = .ok (.iload_n 1, 1) := by decide +kernel
theorem dX4_set_13 : decode cX4_set 13 = .ok (.aload_n 0, 1) := by decide +kernel
theorem dX4_set_14 : decode cX4_set 14 = .ok (.getfield 112, 3) := by decide +kernel
theorem dX4_set_17 : decode cX4_set 17 = .ok (.if_icmp .lt 11, 3) := by decide +kernel
theorem dX4_set_20 : decode cX4_set 20 = .ok (.iload_n 1, 1) := by decide +kernel
theorem dX4_set_21 : decode cX4_set 21 = .ok (.aload_n 0, 1) := by decide +kernel
theorem dX4_set_22 : decode cX4_set 22 = .ok (.getfield 140, 3) := by decide +kernel
theorem dX4_set_25 : decode cX4_set 25 = .ok (.if_icmp .lt 7, 3) := by decide +kernel
theorem dX4_set_28 : decode cX4_set 28 = .ok (.iconst 2, 1) := by decide +kernel
theorem dX4_set_29 : decode cX4_set 29 = .ok (.goto 4, 3) := by decide +kernel
theorem dX4_set_32 : decode cX4_set 32 = .ok (.iconst 0, 1) := by decide +kernel
theorem dX4_set_33 : decode cX4_set 33 = .ok (.putfield 100, 3) := by decide +kernel
theorem dX4_set_36 : decode cX4_set 36 = .ok (.aload_n 0, 1) := by decide +kernel
theorem dX4_set_37 : decode cX4_set 37 = .ok (.getfield 100, 3) := by decide +kernel
theorem dX4_set_40 : decode cX4_set 40 = .ok (.ifCond .gt 13, 3) := by decide +kernel
theorem dX4_set_43 : decode cX4_set 43 = .ok (.aload_n 0, 1) := by decide +kernel
theorem dX4_set_44 : decode cX4_set 44 = .ok (.getfield 68, 3) := by decide +kernel
theorem dX4_set_47 : decode cX4_set 47 = .ok (.iload_n 1, 1) := by decide +kernel
theorem dX4_set_48 : decode cX4_set 48 = .ok (.baload, 1) := by decide +kernel
theorem dX4_set_49 : decode cX4_set 49 = .ok (.iload_n 2, 1) := by decide +kernel
theorem dX4_set_50 : decode cX4_set 50 = .ok (.if_icmp .ne 5, 3) := by decide +kernel
theorem dX4_set_53 : decode cX4_set 53 = .ok (.iconst 0, 1) := by decide +kernel
theorem dX4_set_54 : decode cX4_set 54 = .ok (.ireturn, 1) := by decide +kernel
theorem dX4_set_55 : decode cX4_set 55 = .ok (.aload_n 0, 1) := by decide +kernel
theorem dX4_set_56 : decode cX4_set 56 = .ok (.getfield 68, 3) := by decide +kernel
theorem dX4_set_59 : decode cX4_set 59 = .ok (.iload_n 1, 1) := by decide +kernel
theorem dX4_set_60 : decode cX4_set 60 = .ok (.iload_n 2, 1) := by decide +kernel
theorem dX4_set_61 : decode cX4_set 61 = .ok (.bastore, 1) := by decide +kernel
theorem dX4_set_62 : decode cX4_set 62 = .ok (.iconst 1, 1) := by decide +kernel
theorem dX4_set_63 : decode cX4_set 63 = .ok (.ireturn, 1) := by decide +kernel
theorem dX4_number_0 : decode cX4_number 0 = .ok (.iconst 0, 1) := by decide +kernel
theorem dX4_number_1 : decode cX4_number 1 = .ok (.istore_n 1, 1) := by decide +kernel
theorem dX4_number_2 : decode cX4_number 2 = .ok (.aload_n 0, 1) := by decide +kernel
theorem dX4_number_3 : decode cX4_number 3 = .ok (.getfield 112, 3) := by decide +kernel
theorem dX4_number_6 : decode cX4_number 6 = .ok (.istore_n 2, 1) := by decide +kernel
theorem dX4_number_7 : decode cX4_number 7 = .ok (.iload_n 2, 1) := by decide +kernel
theorem dX4_number_8 : decode cX4_number 8 = .ok (.aload_n 0, 1) := by decide +kernel
theorem dX4_number_9 : decode cX4_number 9 = .ok (.getfield 140, 3) := by decide +kernel
theorem dX4_number_12 : decode cX4_number 12 = .ok (.if_icmp .ge 33, 3) := by decide +kernel
theorem dX4_number_15 : decode cX4_number 15 = .ok (.aload_n 0, 1) := by decide +kernel
theorem dX4_number_16 : decode cX4_number 16 = .ok (.getfield 68, 3) := by decide +kernel
theorem dX4_number_19 : decode cX4_number 19 = .ok (.iload_n 2, 1) := by decide +kernel
theorem dX4_number_20 : decode cX4_number 20 = .ok (.baload, 1) := by decide +kernel
theorem dX4_number_21 : decode cX4_number 21 = .ok (.ifCond .eq 16, 3) := by decide +kernel
theorem dX4_number_24 : decode cX4_number 24 = .ok (.iload_n 1, 1) := by decide +kernel
theorem dX4_number_25 : decode cX4_number 25 = .ok (.iconst 1, 1) := by decide +kernel
theorem dX4_number_26 : decode cX4_number 26 = .ok (.iload_n 2, 1) := by decide +kernel
theorem dX4_number_27 : decode cX4_number 27 = .ok (.aload_n 0, 1) := by decide +kernel
theorem dX4_number_28 : decode cX4_number 28 = .ok (.getfield 112, 3) := by decide +kernel
theorem dX4_number_31 : decode cX4_number 31 = .ok (.isub, 1) := by decide +kernel
theorem dX4_number_32 : decode cX4_number 32 = .ok (.ishl, 1) := by decide +kernel
theorem dX4_number_33 : decode cX4_number 33 = .ok (.ior, 1) := by decide +kernel
theorem dX4_number_34 : decode cX4_number 34 = .ok (.goto 4, 3) := by decide +kernel
theorem dX4_number_37 : decode cX4_number 37 = .ok (.iload_n 1, 1) := by decide +kernel
theorem dX4_number_38 : decode cX4_number 38 = .ok (.istore_n 1, 1) := by decide +kernel
theorem dX4_number_39 : decode cX4_number 39 = .ok (.iinc 2 1, 3) := by decide +kernel
theorem dX4_number_42 : decode cX4_number 42 = .ok (.goto (-35), 3) := by decide +kernel
theorem dX4_number_45 : decode cX4_number 45 = .ok (.iload_n 1, 1) := by decide +kernel
theorem dX4_number_46 : decode cX4_number 46 = .ok (.ireturn, 1) := by decide +kernel
set_option maxRecDepth 20000 in
theorem ggX4_setting_X4_number : GoodIn wsX4_setting wsX4_number := goodIn_r _ [7, 8, 9, 10, 11, 12, 13, 14, 15, 16, 17, 18, 19, 20, 21, 22, 23, 24, 25, 26, 27, 28, 29, 30, 31, 32, 33, 34, 35, 36, 37, 38, 39, 40, 41, 42, 43, 44, 45, 46, 47] (by decide +kernel) (by decide +kernel)
set_option maxRecDepth 20000 in
theorem gX4_setting_X4_number : GoodIn wsX4_setting (wsV RX4 187 RX4 yX4_number wsX4_number) := goodIn_app (goodIn_of _ (by decide +kernel)) ggX4_setting_X4_number
theorem dX4_setting_0 : decode cX4_setting 0 = .ok (.aload_n 0, 1) := by decide +kernel
theorem dX4_setting_1 : decode cX4_setting 1 = .ok (.aload_n 0, 1) := by decide +kernel
theorem dX4_setting_2 : decode cX4_setting 2 = .ok (.getfield 115, 3) := by decide +kernel
theorem dX4_setting_5 : decode cX4_setting 5 = .ok (.ifCond .eq 7, 3) := by decide +kernel
theorem dX4_setting_8 : decode cX4_setting 8 = .ok (.iconst 0, 1) := by decide +kernel
theorem dX4_setting_9 : decode cX4_setting 9 = .ok (.goto 4, 3) := by decide +kernel
theorem dX4_setting_12 : decode cX4_setting 12 = .ok (.iconst 1, 1) := by decide +kernel
theorem dX4_setting_13 : decode cX4_setting 13 = .ok (.putfield 100, 3) := by decide +kernel
theorem dX4_setting_16 : decode cX4_setting 16 = .ok (.aload_n 0, 1) := by decide +kernel
theorem dX4_setting_17 : decode cX4_setting 17 = .ok (.getfield 115, 3) := by decide +kernel
theorem dX4_setting_20 : decode cX4_setting 20 = .ok (.ifCond .eq 10, 3) := by decide +kernel
theorem dX4_setting_23 : decode cX4_setting 23 = .ok (.aload_n 0, 1) := by decide +kernel
theorem dX4_setting_24 : decode cX4_setting 24 = .ok (.invokevirtual 187, 3) := by decide +kernel
theorem dX4_setting_27 : decode cX4_setting 27 = .ok (.goto 4, 3) := by decide +kernel
theorem dX4_setting_30 : decode cX4_setting 30 = .ok (.iconst 0, 1) := by decide +kernel
theorem dX4_setting_31 : decode cX4_setting 31 = .ok (.ireturn, 1) := by decide +kernel
theorem dX4_weigh_0 : decode cX4_weigh 0 = .ok (.iconst 0, 1) := by decide +kernel
theorem dX4_weigh_1 : decode cX4_weigh 1 = .ok (.istore_n 2, 1) := by decide +kernel
theorem dX4_weigh_2 : decode cX4_weigh 2 = .ok (.iload_n 2, 1) := by decide +kernel
theorem dX4_weigh_3 : decode cX4_weigh 3 = .ok (.aload_n 0, 1) := by decide +kernel
theorem dX4_weigh_4 : decode cX4_weigh 4 = .ok (.getfield 140, 3) := by decide +kernel
theorem dX4_weigh_7 : decode cX4_weigh 7 = .ok (.if_icmp .ge 153, 3) := by decide +kernel
theorem dX4_weigh_10 : decode cX4_weigh 10 = .ok (.aload_n 0, 1) := by decide +kernel
theorem dX4_weigh_11 : decode cX4_weigh 11 = .ok (.getfield 35, 3) := by decide +kernel
theorem dX4_weigh_14 : decode cX4_weigh 14 = .ok (.iload_n 2, 1) := by decide +kernel
theorem dX4_weigh_15 : decode cX4_weigh 15 = .ok (.iaload, 1) := by decide +kernel
theorem dX4_weigh_16 : decode cX4_weigh 16 = .ok (.istore_n 3, 1) := by decide +kernel
theorem dX4_weigh_17 : decode cX4_weigh 17 = .ok (.aload_n 0, 1) := by decide +kernel
theorem dX4_weigh_18 : decode cX4_weigh 18 = .ok (.getfield 38, 3) := by decide +kernel
theorem dX4_weigh_21 : decode cX4_weigh 21 = .ok (.iload_n 2, 1) := by decide +kernel
theorem dX4_weigh_22 : decode cX4_weigh 22 = .ok (.iaload, 1) := by decide +kernel
theorem dX4_weigh_23 : decode cX4_weigh 23 = .ok (.istore 4, 2) := by decide +kernel
theorem dX4_weigh_25 : decode cX4_weigh 25 = .ok (.aload_n 0, 1) := by decide +kernel
theorem dX4_weigh_26 : decode cX4_weigh 26 = .ok (.getfield 93, 3) := by decide +kernel
theorem dX4_weigh_29 : decode cX4_weigh 29 = .ok (.iload_n 2, 1) := by decide +kernel
theorem dX4_weigh_30 : decode cX4_weigh 30 = .ok (.iload_n 2, 1) := by decide +kernel
theorem dX4_weigh_31 : decode cX4_weigh 31 = .ok (.aload_n 0, 1) := by decide +kernel
theorem dX4_weigh_32 : decode cX4_weigh 32 = .ok (.getfield 112, 3) := by decide +kernel
theorem dX4_weigh_35 : decode cX4_weigh 35 = .ok (.if_icmp .ge 17, 3) := by decide +kernel
theorem dX4_weigh_38 : decode cX4_weigh 38 = .ok (.ldc2_w 191, 3) := by decide +kernel
theorem dX4_weigh_41 : decode cX4_weigh 41 = .ok (.aload_n 0, 1) := by decide +kernel
theorem dX4_weigh_42 : decode cX4_weigh 42 = .ok (.getfield 16, 3) := by decide +kernel
theorem dX4_weigh_45 : decode cX4_weigh 45 = .ok (.iload_n 2, 1) := by decide +kernel
theorem dX4_weigh_46 : decode cX4_weigh 46 = .ok (.iaload, 1) := by decide +kernel
theorem dX4_weigh_47 : decode cX4_weigh 47 = .ok (.i2l, 1) := by decide +kernel
theorem dX4_weigh_48 : decode cX4_weigh 48 = .ok (.lmul, 1) := by decide +kernel
theorem dX4_weigh_49 : decode cX4_weigh 49 = .ok (.goto 46, 3) := by decide +kernel
theorem dX4_weigh_52 : decode cX4_weigh 52 = .ok (.aload_n 0, 1) := by decide +kernel
theorem dX4_weigh_53 : decode cX4_weigh 53 = .ok (.getfield 97, 3) := by decide +kernel
theorem dX4_weigh_56 : decode cX4_weigh 56 = .ok (.iload_n 3, 1) := by decide +kernel
theorem dX4_weigh_57 : decode cX4_weigh 57 = .ok (.laload, 1) := by decide +kernel
theorem dX4_weigh_58 : decode cX4_weigh 58 = .ok (.aload_n 0, 1) := by decide +kernel
theorem dX4_weigh_59 : decode cX4_weigh 59 = .ok (.getfield 26, 3) := by decide +kernel
theorem dX4_weigh_62 : decode cX4_weigh 62 = .ok (.i2l, 1) := by decide +kernel
theorem dX4_weigh_63 : decode cX4_weigh 63 = .ok (.aload_n 0, 1) := by decide +kernel
theorem dX4_weigh_64 : decode cX4_weigh 64 = .ok (.getfield 59, 3) := by decide +kernel
theorem dX4_weigh_67 : decode cX4_weigh 67 = .ok (.iload_n 3, 1) := by decide +kernel
theorem dX4_weigh_68 : decode cX4_weigh 68 = .ok (.iaload, 1) := by decide +kernel
theorem dX4_weigh_69 : decode cX4_weigh 69 = .ok (.i2l, 1) := by decide +kernel
theorem dX4_weigh_70 : decode cX4_weigh 70 = .ok (.lmul, 1) := by decide +kernel
theorem dX4_weigh_71 : decode cX4_weigh 71 = .ok (.ladd, 1) := by decide +kernel
theorem dX4_weigh_72 : decode cX4_weigh 72 = .ok (.aload_n 0, 1) := by decide +kernel
theorem dX4_weigh_73 : decode cX4_weigh 73 = .ok (.getfield 97, 3) := by decide +kernel
theorem dX4_weigh_76 : decode cX4_weigh 76 = .ok (.iload 4, 2) := by decide +kernel
theorem dX4_weigh_78 : decode cX4_weigh 78 = .ok (.laload, 1) := by decide +kernel
theorem dX4_weigh_79 : decode cX4_weigh 79 = .ok (.ladd, 1) := by decide +kernel
theorem dX4_weigh_80 : decode cX4_weigh 80 = .ok (.aload_n 0, 1) := by decide +kernel
theorem dX4_weigh_81 : decode cX4_weigh 81 = .ok (.getfield 26, 3) := by decide +kernel
theorem dX4_weigh_84 : decode cX4_weigh 84 = .ok (.i2l, 1) := by decide +kernel
theorem dX4_weigh_85 : decode cX4_weigh 85 = .ok (.aload_n 0, 1) := by decide +kernel
theorem dX4_weigh_86 : decode cX4_weigh 86 = .ok (.getfield 59, 3) := by decide +kernel
theorem dX4_weigh_89 : decode cX4_weigh 89 = .ok (.iload 4, 2) := by decide +kernel
theorem dX4_weigh_91 : decode cX4_weigh 91 = .ok (.iaload, 1) := by decide +kernel
theorem dX4_weigh_92 : decode cX4_weigh 92 = .ok (.i2l, 1) := by decide +kernel
theorem dX4_weigh_93 : decode cX4_weigh 93 = .ok (.lmul, 1) := by decide +kernel
theorem dX4_weigh_94 : decode cX4_weigh 94 = .ok (.ladd, 1) := by decide +kernel
theorem dX4_weigh_95 : decode cX4_weigh 95 = .ok (.lastore, 1) := by decide +kernel
theorem dX4_weigh_96 : decode cX4_weigh 96 = .ok (.iload_n 2, 1) := by decide +kernel
theorem dX4_weigh_97 : decode cX4_weigh 97 = .ok (.aload_n 0, 1) := by decide +kernel
theorem dX4_weigh_98 : decode cX4_weigh 98 = .ok (.getfield 112, 3) := by decide +kernel
theorem dX4_weigh_101 : decode cX4_weigh 101 = .ok (.if_icmp .lt 21, 3) := by decide +kernel
theorem dX4_weigh_104 : decode cX4_weigh 104 = .ok (.iload_n 1, 1) := by decide +kernel
theorem dX4_weigh_105 : decode cX4_weigh 105 = .ok (.iload_n 2, 1) := by decide +kernel
theorem dX4_weigh_106 : decode cX4_weigh 106 = .ok (.aload_n 0, 1) := by decide +kernel
theorem dX4_weigh_107 : decode cX4_weigh 107 = .ok (.getfield 112, 3) := by decide +kernel
theorem dX4_weigh_110 : decode cX4_weigh 110 = .ok (.isub, 1) := by decide +kernel
theorem dX4_weigh_111 : decode cX4_weigh 111 = .ok (.ishr, 1) := by decide +kernel
theorem dX4_weigh_112 : decode cX4_weigh 112 = .ok (.iconst 1, 1) := by decide +kernel
theorem dX4_weigh_113 : decode cX4_weigh 113 = .ok (.iand, 1) := by decide +kernel
theorem dX4_weigh_114 : decode cX4_weigh 114 = .ok (.iconst 1, 1) := by decide +kernel
theorem dX4_weigh_115 : decode cX4_weigh 115 = .ok (.if_icmp .ne 7, 3) := by decide +kernel
theorem dX4_weigh_118 : decode cX4_weigh 118 = .ok (.iconst 1, 1) := by decide +kernel
theorem dX4_weigh_119 : decode cX4_weigh 119 = .ok (.goto 4, 3) := by decide +kernel
theorem dX4_weigh_122 : decode cX4_weigh 122 = .ok (.iconst 0, 1) := by decide +kernel
theorem dX4_weigh_123 : decode cX4_weigh 123 = .ok (.istore 5, 2) := by decide +kernel
theorem dX4_weigh_125 : decode cX4_weigh 125 = .ok (.aload_n 0, 1) := by decide +kernel
theorem dX4_weigh_126 : decode cX4_weigh 126 = .ok (.getfield 97, 3) := by decide +kernel
theorem dX4_weigh_129 : decode cX4_weigh 129 = .ok (.iload_n 2, 1) := by decide +kernel
theorem dX4_weigh_130 : decode cX4_weigh 130 = .ok (.iload 5, 2) := by decide +kernel
theorem dX4_weigh_132 : decode cX4_weigh 132 = .ok (.ifCond .eq 15, 3) := by decide +kernel
theorem dX4_weigh_135 : decode cX4_weigh 135 = .ok (.ldc2_w 191, 3) := by decide +kernel
theorem dX4_weigh_138 : decode cX4_weigh 138 = .ok (.aload_n 0, 1) := by decide +kernel
theorem dX4_weigh_139 : decode cX4_weigh 139 = .ok (.getfield 29, 3) := by decide +kernel
theorem dX4_weigh_142 : decode cX4_weigh 142 = .ok (.i2l, 1) := by decide +kernel
theorem dX4_weigh_143 : decode cX4_weigh 143 = .ok (.lmul, 1) := by decide +kernel
theorem dX4_weigh_144 : decode cX4_weigh 144 = .ok (.goto 9, 3) := by decide +kernel
theorem dX4_weigh_147 : decode cX4_weigh 147 = .ok (.aload_n 0, 1) := by decide +kernel
theorem dX4_weigh_148 : decode cX4_weigh 148 = .ok (.getfield 93, 3) := by decide +kernel
theorem dX4_weigh_151 : decode cX4_weigh 151 = .ok (.iload_n 2, 1) := by decide +kernel
theorem dX4_weigh_152 : decode cX4_weigh 152 = .ok (.laload, 1) := by decide +kernel
theorem dX4_weigh_153 : decode cX4_weigh 153 = .ok (.lastore, 1) := by decide +kernel
theorem dX4_weigh_154 : decode cX4_weigh 154 = .ok (.iinc 2 1, 3) := by decide +kernel
theorem dX4_weigh_157 : decode cX4_weigh 157 = .ok (.goto (-155), 3) := by decide +kernel
theorem dX4_weigh_160 : decode cX4_weigh 160 = .ok (.return_, 1) := by decide +kernel
set_option maxRecDepth 20000 in
theorem ggX4_load_X4_isNode : GoodIn wsX4_load wsX4_isNode := goodIn_r _ [9, 10, 28, 29, 30, 31, 32, 33, 34, 35, 36, 37, 38, 39, 40, 41, 42, 43, 44, 45, 46, 47, 48, 49, 50, 51, 52, 53, 54, 55, 56, 57, 58, 59, 60, 61, 62, 63, 64] (by decide +kernel) (by decide +kernel)
set_option maxRecDepth 20000 in
theorem gX4_load_X4_isNode : GoodIn wsX4_load (wsV RX4 184 RX4 yX4_isNode wsX4_isNode) := goodIn_app (goodIn_of _ (by decide +kernel)) ggX4_load_X4_isNode
set_option maxRecDepth 20000 in
theorem ggX4_load_X4_number : GoodIn wsX4_load wsX4_number := goodIn_r _ [14, 15, 10, 16, 28, 29, 30, 31, 32, 33, 34, 35, 36, 37, 38, 39, 40, 41, 42, 43, 44, 45, 46, 47, 48, 49, 50, 51, 52, 53, 54, 55, 56, 57, 58, 59, 60, 61, 62, 63, 64] (by decide +kernel) (by decide +kernel)
set_option maxRecDepth 20000 in
theorem gX4_load_X4_number : GoodIn wsX4_load (wsV RX4 187 RX4 yX4_number wsX4_number) := goodIn_app (goodIn_of _ (by decide +kernel)) ggX4_load_X4_number
set_option maxRecDepth 20000 in
theorem ggX4_load_X4_weigh : GoodIn wsX4_load wsX4_weigh := goodIn_r _ [20, 10, 21, 22, 4, 15, 23, 24, 3, 25, 26, 27, 28, 29, 30, 31, 32, 33, 34, 35, 36, 37, 38, 39, 40, 41, 42, 43, 44, 45, 46, 47, 48, 49, 50, 51, 52, 53, 54, 55, 56, 57, 58, 59, 60, 61, 62, 63, 64] (by decide +kernel) (by decide +kernel)
set_option maxRecDepth 20000 in
theorem gX4_load_X4_weigh : GoodIn wsX4_load (wsV RX4 193 RX4 yX4_weigh wsX4_weigh) := goodIn_app (goodIn_of _ (by decide +kernel)) ggX4_load_X4_weigh
theorem dX4_load_0 : decode cX4_load 0 = .ok (.aload_n 0, 1) := by decide +kernel
theorem dX4_load_1 : decode cX4_load 1 = .ok (.aload_n 0, 1) := by decide +kernel
theorem dX4_load_2 : decode cX4_load 2 = .ok (.getfield 115, 3) := by decide +kernel
theorem dX4_load_5 : decode cX4_load 5 = .ok (.ifCond .ne 7, 3) := by decide +kernel
theorem dX4_load_8 : decode cX4_load 8 = .ok (.iconst 1, 1) := by decide +kernel
theorem dX4_load_9 : decode cX4_load 9 = .ok (.goto 16, 3) := by decide +kernel
theorem dX4_load_12 : decode cX4_load 12 = .ok (.aload_n 0, 1) := by decide +kernel
theorem dX4_load_13 : decode cX4_load 13 = .ok (.iload_n 1, 1) := by decide +kernel
theorem dX4_load_14 : decode cX4_load 14 = .ok (.invokevirtual 184, 3) := by decide +kernel
theorem dX4_load_17 : decode cX4_load 17 = .ok (.ifCond .ne 7, 3) := by decide +kernel
theorem dX4_load_20 : decode cX4_load 20 = .ok (.iconst 2, 1) := by decide +kernel
theorem dX4_load_21 : decode cX4_load 21 = .ok (.goto 4, 3) := by decide +kernel
theorem dX4_load_24 : decode cX4_load 24 = .ok (.iconst 0, 1) := by decide +kernel
theorem dX4_load_25 : decode cX4_load 25 = .ok (.putfield 100, 3) := by decide +kernel
theorem dX4_load_28 : decode cX4_load 28 = .ok (.aload_n 0, 1) := by decide +kernel
theorem dX4_load_29 : decode cX4_load 29 = .ok (.getfield 100, 3) := by decide +kernel
theorem dX4_load_32 : decode cX4_load 32 = .ok (.ifCond .le 5, 3) := by decide +kernel
theorem dX4_load_35 : decode cX4_load 35 = .ok (.lconst 0, 1) := by decide +kernel
theorem dX4_load_36 : decode cX4_load 36 = .ok (.lreturn, 1) := by decide +kernel
theorem dX4_load_37 : decode cX4_load 37 = .ok (.aload_n 0, 1) := by decide +kernel
theorem dX4_load_38 : decode cX4_load 38 = .ok (.aload_n 0, 1) := by decide +kernel
theorem dX4_load_39 : decode cX4_load 39 = .ok (.invokevirtual 187, 3) := by decide +kernel
theorem dX4_load_42 : decode cX4_load 42 = .ok (.invokevirtual 193, 3) := by decide +kernel
theorem dX4_load_45 : decode cX4_load 45 = .ok (.iload_n 2, 1) := by decide +kernel
theorem dX4_load_46 : decode cX4_load 46 = .ok (.ifCond .eq 12, 3) := by decide +kernel
theorem dX4_load_49 : decode cX4_load 49 = .ok (.aload_n 0, 1) := by decide +kernel
theorem dX4_load_50 : decode cX4_load 50 = .ok (.getfield 97, 3) := by decide +kernel
theorem dX4_load_53 : decode cX4_load 53 = .ok (.iload_n 1, 1) := by decide +kernel
theorem dX4_load_54 : decode cX4_load 54 = .ok (.laload, 1) := by decide +kernel
theorem dX4_load_55 : decode cX4_load 55 = .ok (.goto 9, 3) := by decide +kernel
theorem dX4_load_58 : decode cX4_load 58 = .ok (.aload_n 0, 1) := by decide +kernel
theorem dX4_load_59 : decode cX4_load 59 = .ok (.getfield 93, 3) := by decide +kernel
theorem dX4_load_62 : decode cX4_load 62 = .ok (.iload_n 1, 1) := by decide +kernel
theorem dX4_load_63 : decode cX4_load 63 = .ok (.laload, 1) := by decide +kernel
theorem dX4_load_64 : decode cX4_load 64 = .ok (.lreturn, 1) := by decide +kernel
theorem dX4_delayOf_0 : decode cX4_delayOf 0 = .ok (.lconst 0, 1) := by decide +kernel
theorem dX4_delayOf_1 : decode cX4_delayOf 1 = .ok (.lstore_n 3, 1) := by decide +kernel
theorem dX4_delayOf_2 : decode cX4_delayOf 2 = .ok (.iload_n 1, 1) := by decide +kernel
theorem dX4_delayOf_3 : decode cX4_delayOf 3 = .ok (.istore 5, 2) := by decide +kernel
theorem dX4_delayOf_5 : decode cX4_delayOf 5 = .ok (.iload 5, 2) := by decide +kernel
theorem dX4_delayOf_7 : decode cX4_delayOf 7 = .ok (.ifCond .lt 123, 3) := by decide +kernel
theorem dX4_delayOf_10 : decode cX4_delayOf 10 = .ok (.aload_n 0, 1) := by decide +kernel
theorem dX4_delayOf_11 : decode cX4_delayOf 11 = .ok (.getfield 59, 3) := by decide +kernel
theorem dX4_delayOf_14 : decode cX4_delayOf 14 = .ok (.iload 5, 2) := by decide +kernel
theorem dX4_delayOf_16 : decode cX4_delayOf 16 = .ok (.iaload, 1) := by decide +kernel
theorem dX4_delayOf_17 : decode cX4_delayOf 17 = .ok (.i2l, 1) := by decide +kernel
theorem dX4_delayOf_18 : decode cX4_delayOf 18 = .ok (.lstore 6, 2) := by decide +kernel
theorem dX4_delayOf_20 : decode cX4_delayOf 20 = .ok (.lload_n 3, 1) := by decide +kernel
theorem dX4_delayOf_21 : decode cX4_delayOf 21 = .ok (.aload_n 0, 1) := by decide +kernel
theorem dX4_delayOf_22 : decode cX4_delayOf 22 = .ok (.getfield 22, 3) := by decide +kernel
theorem dX4_delayOf_25 : decode cX4_delayOf 25 = .ok (.i2l, 1) := by decide +kernel
theorem dX4_delayOf_26 : decode cX4_delayOf 26 = .ok (.lload 6, 2) := by decide +kernel
theorem dX4_delayOf_28 : decode cX4_delayOf 28 = .ok (.lmul, 1) := by decide +kernel
theorem dX4_delayOf_29 : decode cX4_delayOf 29 = .ok (.aload_n 0, 1) := by decide +kernel
theorem dX4_delayOf_30 : decode cX4_delayOf 30 = .ok (.getfield 26, 3) := by decide +kernel
theorem dX4_delayOf_33 : decode cX4_delayOf 33 = .ok (.i2l, 1) := by decide +kernel
theorem dX4_delayOf_34 : decode cX4_delayOf 34 = .ok (.lload 6, 2) := by decide +kernel
theorem dX4_delayOf_36 : decode cX4_delayOf 36 = .ok (.lmul, 1) := by decide +kernel
theorem dX4_delayOf_37 : decode cX4_delayOf 37 = .ok (.ldc2_w 197, 3) := by decide +kernel
theorem dX4_delayOf_40 : decode cX4_delayOf 40 = .ok (.aload_n 0, 1) := by decide +kernel
theorem dX4_delayOf_41 : decode cX4_delayOf 41 = .ok (.getfield 97, 3) := by decide +kernel
theorem dX4_delayOf_44 : decode cX4_delayOf 44 = .ok (.iload 5, 2) := by decide +kernel
theorem dX4_delayOf_46 : decode cX4_delayOf 46 = .ok (.laload, 1) := by decide +kernel
theorem dX4_delayOf_47 : decode cX4_delayOf 47 = .ok (.lmul, 1) := by decide +kernel
theorem dX4_delayOf_48 : decode cX4_delayOf 48 = .ok (.ladd, 1) := by decide +kernel
theorem dX4_delayOf_49 : decode cX4_delayOf 49 = .ok (.lmul, 1) := by decide +kernel
theorem dX4_delayOf_50 : decode cX4_delayOf 50 = .ok (.ladd, 1) := by decide +kernel
theorem dX4_delayOf_51 : decode cX4_delayOf 51 = .ok (.lstore_n 3, 1) := by decide +kernel
theorem dX4_delayOf_52 : decode cX4_delayOf 52 = .ok (.iload 5, 2) := by decide +kernel
theorem dX4_delayOf_54 : decode cX4_delayOf 54 = .ok (.aload_n 0, 1) := by decide +kernel
theorem dX4_delayOf_55 : decode cX4_delayOf 55 = .ok (.getfield 112, 3) := by decide +kernel
theorem dX4_delayOf_58 : decode cX4_delayOf 58 = .ok (.if_icmp .lt 22, 3) := by decide +kernel
theorem dX4_delayOf_61 : decode cX4_delayOf 61 = .ok (.iload_n 2, 1) := by decide +kernel
theorem dX4_delayOf_62 : decode cX4_delayOf 62 = .ok (.iload 5, 2) := by decide +kernel
theorem dX4_delayOf_64 : decode cX4_delayOf 64 = .ok (.aload_n 0, 1) := by decide +kernel
theorem dX4_delayOf_65 : decode cX4_delayOf 65 = .ok (.getfield 112, 3) := by decide +kernel
theorem dX4_delayOf_68 : decode cX4_delayOf 68 = .ok (.isub, 1) := by decide +kernel
theorem dX4_delayOf_69 : decode cX4_delayOf 69 = .ok (.ishr, 1) := by decide +kernel
theorem dX4_delayOf_70 : decode cX4_delayOf 70 = .ok (.iconst 1, 1) := by decide +kernel
theorem dX4_delayOf_71 : decode cX4_delayOf 71 = .ok (.iand, 1) := by decide +kernel
theorem dX4_delayOf_72 : decode cX4_delayOf 72 = .ok (.iconst 1, 1) := by decide +kernel
theorem dX4_delayOf_73 : decode cX4_delayOf 73 = .ok (.if_icmp .ne 7, 3) := by decide +kernel
theorem dX4_delayOf_76 : decode cX4_delayOf 76 = .ok (.iconst 1, 1) := by decide +kernel
theorem dX4_delayOf_77 : decode cX4_delayOf 77 = .ok (.goto 4, 3) := by decide +kernel
theorem dX4_delayOf_80 : decode cX4_delayOf 80 = .ok (.iconst 0, 1) := by decide +kernel
theorem dX4_delayOf_81 : decode cX4_delayOf 81 = .ok (.istore 8, 2) := by decide +kernel
theorem dX4_delayOf_83 : decode cX4_delayOf 83 = .ok (.iload 8, 2) := by decide +kernel
theorem dX4_delayOf_85 : decode cX4_delayOf 85 = .ok (.ifCond .eq 31, 3) := by decide +kernel
theorem dX4_delayOf_88 : decode cX4_delayOf 88 = .ok (.lload_n 3, 1) := by decide +kernel
theorem dX4_delayOf_89 : decode cX4_delayOf 89 = .ok (.aload_n 0, 1) := by decide +kernel
theorem dX4_delayOf_90 : decode cX4_delayOf 90 = .ok (.getfield 126, 3) := by decide +kernel
theorem dX4_delayOf_93 : decode cX4_delayOf 93 = .ok (.i2l, 1) := by decide +kernel
theorem dX4_delayOf_94 : decode cX4_delayOf 94 = .ok (.ladd, 1) := by decide +kernel
theorem dX4_delayOf_95 : decode cX4_delayOf 95 = .ok (.ldc2_w 197, 3) := by decide +kernel
theorem dX4_delayOf_98 : decode cX4_delayOf 98 = .ok (.aload_n 0, 1) := by decide +kernel
theorem dX4_delayOf_99 : decode cX4_delayOf 99 = .ok (.getfield 32, 3) := by decide +kernel
theorem dX4_delayOf_102 : decode cX4_delayOf 102 = .ok (.i2l, 1) := by decide +kernel
theorem dX4_delayOf_103 : decode cX4_delayOf 103 = .ok (.lmul, 1) := by decide +kernel
theorem dX4_delayOf_104 : decode cX4_delayOf 104 = .ok (.aload_n 0, 1) := by decide +kernel
theorem dX4_delayOf_105 : decode cX4_delayOf 105 = .ok (.getfield 93, 3) := by decide +kernel
theorem dX4_delayOf_108 : decode cX4_delayOf 108 = .ok (.iload 5, 2) := by decide +kernel
theorem dX4_delayOf_110 : decode cX4_delayOf 110 = .ok (.laload, 1) := by decide +kernel
theorem dX4_delayOf_111 : decode cX4_delayOf 111 = .ok (.lmul, 1) := by decide +kernel
theorem dX4_delayOf_112 : decode cX4_delayOf 112 = .ok (.ladd, 1) := by decide +kernel
theorem dX4_delayOf_113 : decode cX4_delayOf 113 = .ok (.goto 4, 3) := by decide +kernel
theorem dX4_delayOf_116 : decode cX4_delayOf 116 = .ok (.lload_n 3, 1) := by decide +kernel
theorem dX4_delayOf_117 : decode cX4_delayOf 117 = .ok (.lstore_n 3, 1) := by decide +kernel
theorem dX4_delayOf_118 : decode cX4_delayOf 118 = .ok (.aload_n 0, 1) := by decide +kernel
theorem dX4_delayOf_119 : decode cX4_delayOf 119 = .ok (.getfield 41, 3) := by decide +kernel
theorem dX4_delayOf_122 : decode cX4_delayOf 122 = .ok (.iload 5, 2) := by decide +kernel
theorem dX4_delayOf_124 : decode cX4_delayOf 124 = .ok (.iaload, 1) := by decide +kernel
theorem dX4_delayOf_125 : decode cX4_delayOf 125 = .ok (.istore 5, 2) := by decide +kernel
theorem dX4_delayOf_127 : decode cX4_delayOf 127 = .ok (.goto (-122), 3) := by decide +kernel
theorem dX4_delayOf_130 : decode cX4_delayOf 130 = .ok (.lload_n 3, 1) := by decide +kernel
theorem dX4_delayOf_131 : decode cX4_delayOf 131 = .ok (.lreturn, 1) := by decide +kernel
set_option maxRecDepth 20000 in
theorem ggX4_delay_X4_number : GoodIn wsX4_delay wsX4_number := goodIn_r _ [8, 2, 9, 10, 33, 34, 35, 36, 37, 38, 39, 40, 41, 42, 43, 44, 45, 46, 47, 48, 49, 50, 51, 52, 53, 54, 55, 56, 57, 58, 59, 60, 61, 62, 63, 64, 65, 66, 67, 68, 69] (by decide +kernel) (by decide +kernel)
set_option maxRecDepth 20000 in
theorem gX4_delay_X4_number : GoodIn wsX4_delay (wsV RX4 187 RX4 yX4_number wsX4_number) := goodIn_app (goodIn_of _ (by decide +kernel)) ggX4_delay_X4_number
set_option maxRecDepth 20000 in
theorem ggX4_delay_X4_weigh : GoodIn wsX4_delay wsX4_weigh := goodIn_r _ [14, 9, 15, 16, 17, 2, 18, 19, 20, 21, 22, 23, 33, 34, 35, 36, 37, 38, 39, 40, 41, 42, 43, 44, 45, 46, 47, 48, 49, 50, 51, 52, 53, 54, 55, 56, 57, 58, 59, 60, 61, 62, 63, 64, 65, 66, 67, 68, 69] (by decide +kernel) (by decide +kernel)
set_option maxRecDepth 20000 in
theorem gX4_delay_X4_weigh : GoodIn wsX4_delay (wsV RX4 193 RX4 yX4_weigh wsX4_weigh) := goodIn_app (goodIn_of _ (by decide +kernel)) ggX4_delay_X4_weigh
set_option maxRecDepth 20000 in
theorem ggX4_delay_X4_delayOf : GoodIn wsX4_delay wsX4_delayOf := goodIn_r _ [27, 22, 28, 21, 29, 20, 2, 30, 31, 17, 32, 33, 34, 35, 36, 37, 38, 39, 40, 41, 42, 43, 44, 45, 46, 47, 48, 49, 50, 51, 52, 53, 54, 55, 56, 57, 58, 59, 60, 61, 62, 63, 64, 65, 66, 67, 68, 69] (by decide +kernel) (by decide +kernel)
set_option maxRecDepth 20000 in
theorem gX4_delay_X4_delayOf : GoodIn wsX4_delay (wsV RX4 199 RX4 yX4_delayOf wsX4_delayOf) := goodIn_app (goodIn_of _ (by decide +kernel)) ggX4_delay_X4_delayOf
theorem dX4_delay_0 : decode cX4_delay 0 = .ok (.aload_n 0, 1) := by decide +kernel
theorem dX4_delay_1 : decode cX4_delay 1 = .ok (.aload_n 0, 1) := by decide +kernel
theorem dX4_delay_2 : decode cX4_delay 2 = .ok (.getfield 115, 3) := by decide +kernel
theorem dX4_delay_5 : decode cX4_delay 5 = .ok (.ifCond .ne 7, 3) := by decide +kernel
theorem dX4_delay_8 : decode cX4_delay 8 = .ok (.iconst 1, 1) := by decide +kernel
theorem dX4_delay_9 : decode cX4_delay 9 = .ok (.goto 20, 3) := by decide +kernel
theorem dX4_delay_12 : decode cX4_delay 12 = .ok (.iload_n 1, 1) := by decide +kernel
theorem dX4_delay_13 : decode cX4_delay 13 = .ok (.ifCond .lt 11, 3) := by decide +kernel
theorem dX4_delay_16 : decode cX4_delay 16 = .ok (.iload_n 1, 1) := by decide +kernel
theorem dX4_delay_17 : decode cX4_delay 17 = .ok (.aload_n 0, 1) := by decide +kernel
theorem dX4_delay_18 : decode cX4_delay 18 = .ok (.getfield 112, 3) := by decide +kernel
theorem dX4_delay_21 : decode cX4_delay 21 = .ok (.if_icmp .lt 7, 3) := by decide +kernel
theorem dX4_delay_24 : decode cX4_delay 24 = .ok (.iconst 2, 1) := by decide +kernel
theorem dX4_delay_25 : decode cX4_delay 25 = .ok (.goto 4, 3) := by decide +kernel
theorem dX4_delay_28 : decode cX4_delay 28 = .ok (.iconst 0, 1) := by decide +kernel
theorem dX4_delay_29 : decode cX4_delay 29 = .ok (.putfield 100, 3) := by decide +kernel
theorem dX4_delay_32 : decode cX4_delay 32 = .ok (.aload_n 0, 1) := by decide +kernel
theorem dX4_delay_33 : decode cX4_delay 33 = .ok (.getfield 100, 3) := by decide +kernel
theorem dX4_delay_36 : decode cX4_delay 36 = .ok (.ifCond .le 5, 3) := by decide +kernel
theorem dX4_delay_39 : decode cX4_delay 39 = .ok (.lconst 0, 1) := by decide +kernel
theorem dX4_delay_40 : decode cX4_delay 40 = .ok (.lreturn, 1) := by decide +kernel
theorem dX4_delay_41 : decode cX4_delay 41 = .ok (.aload_n 0, 1) := by decide +kernel
theorem dX4_delay_42 : decode cX4_delay 42 = .ok (.aload_n 0, 1) := by decide +kernel
theorem dX4_delay_43 : decode cX4_delay 43 = .ok (.invokevirtual 187, 3) := by decide +kernel
theorem dX4_delay_46 : decode cX4_delay 46 = .ok (.invokevirtual 193, 3) := by decide +kernel
theorem dX4_delay_49 : decode cX4_delay 49 = .ok (.aload_n 0, 1) := by decide +kernel
theorem dX4_delay_50 : decode cX4_delay 50 = .ok (.iload_n 1, 1) := by decide +kernel
theorem dX4_delay_51 : decode cX4_delay 51 = .ok (.aload_n 0, 1) := by decide +kernel
theorem dX4_delay_52 : decode cX4_delay 52 = .ok (.invokevirtual 187, 3) := by decide +kernel
theorem dX4_delay_55 : decode cX4_delay 55 = .ok (.invokevirtual 199, 3) := by decide +kernel
theorem dX4_delay_58 : decode cX4_delay 58 = .ok (.lreturn, 1) := by decide +kernel
set_option maxRecDepth 20000 in
theorem ggX4_slackOf_X4_weigh : GoodIn wsX4_slackOf wsX4_weigh := goodIn_r _ [8, 9, 10, 11, 12, 1, 13, 14, 15, 16, 17, 18, 28, 29, 30, 31, 32, 33, 34, 35, 36, 37, 38, 39, 40, 41, 42, 43, 44, 45, 46, 47, 48, 49, 50, 51, 52, 53, 54, 55, 56, 57, 58, 59, 60, 61, 62, 63, 64] (by decide +kernel) (by decide +kernel)
set_option maxRecDepth 20000 in
theorem gX4_slackOf_X4_weigh : GoodIn wsX4_slackOf (wsV RX4 193 RX4 yX4_weigh wsX4_weigh) := goodIn_app (goodIn_of _ (by decide +kernel)) ggX4_slackOf_X4_weigh
set_option maxRecDepth 20000 in
theorem ggX4_slackOf_X4_delayOf : GoodIn wsX4_slackOf wsX4_delayOf := goodIn_r _ [22, 17, 23, 16, 24, 15, 1, 25, 26, 12, 27, 28, 29, 30, 31, 32, 33, 34, 35, 36, 37, 38, 39, 40, 41, 42, 43, 44, 45, 46, 47, 48, 49, 50, 51, 52, 53, 54, 55, 56, 57, 58, 59, 60, 61, 62, 63, 64] (by decide +kernel) (by decide +kernel)
set_option maxRecDepth 20000 in
theorem gX4_slackOf_X4_delayOf : GoodIn wsX4_slackOf (wsV RX4 199 RX4 yX4_delayOf wsX4_delayOf) := goodIn_app (goodIn_of _ (by decide +kernel)) ggX4_slackOf_X4_delayOf
theorem dX4_slackOf_0 : decode cX4_slackOf 0 = .ok (.aload_n 0, 1) := by decide +kernel
theorem dX4_slackOf_1 : decode cX4_slackOf 1 = .ok (.iload_n 1, 1) := by decide +kernel
theorem dX4_slackOf_2 : decode cX4_slackOf 2 = .ok (.invokevirtual 193, 3) := by decide +kernel
theorem dX4_slackOf_5 : decode cX4_slackOf 5 = .ok (.lconst 0, 1) := by decide +kernel
theorem dX4_slackOf_6 : decode cX4_slackOf 6 = .ok (.lstore_n 2, 1) := by decide +kernel
theorem dX4_slackOf_7 : decode cX4_slackOf 7 = .ok (.iconst 0, 1) := by decide +kernel
theorem dX4_slackOf_8 : decode cX4_slackOf 8 = .ok (.istore 4, 2) := by decide +kernel
theorem dX4_slackOf_10 : decode cX4_slackOf 10 = .ok (.iload 4, 2) := by decide +kernel
theorem dX4_slackOf_12 : decode cX4_slackOf 12 = .ok (.aload_n 0, 1) := by decide +kernel
theorem dX4_slackOf_13 : decode cX4_slackOf 13 = .ok (.getfield 112, 3) := by decide +kernel
theorem dX4_slackOf_16 : decode cX4_slackOf 16 = .ok (.if_icmp .ge 50, 3) := by decide +kernel
theorem dX4_slackOf_19 : decode cX4_slackOf 19 = .ok (.ldc2_w 203, 3) := by decide +kernel
theorem dX4_slackOf_22 : decode cX4_slackOf 22 = .ok (.aload_n 0, 1) := by decide +kernel
theorem dX4_slackOf_23 : decode cX4_slackOf 23 = .ok (.getfield 19, 3) := by decide +kernel
theorem dX4_slackOf_26 : decode cX4_slackOf 26 = .ok (.iload 4, 2) := by decide +kernel
theorem dX4_slackOf_28 : decode cX4_slackOf 28 = .ok (.iaload, 1) := by decide +kernel
theorem dX4_slackOf_29 : decode cX4_slackOf 29 = .ok (.i2l, 1) := by decide +kernel
theorem dX4_slackOf_30 : decode cX4_slackOf 30 = .ok (.lmul, 1) := by decide +kernel
theorem dX4_slackOf_31 : decode cX4_slackOf 31 = .ok (.aload_n 0, 1) := by decide +kernel
theorem dX4_slackOf_32 : decode cX4_slackOf 32 = .ok (.iload 4, 2) := by decide +kernel
theorem dX4_slackOf_34 : decode cX4_slackOf 34 = .ok (.iload_n 1, 1) := by decide +kernel
theorem dX4_slackOf_35 : decode cX4_slackOf 35 = .ok (.invokevirtual 199, 3) := by decide +kernel
theorem dX4_slackOf_38 : decode cX4_slackOf 38 = .ok (.lsub, 1) := by decide +kernel
theorem dX4_slackOf_39 : decode cX4_slackOf 39 = .ok (.lstore 5, 2) := by decide +kernel
theorem dX4_slackOf_41 : decode cX4_slackOf 41 = .ok (.iload 4, 2) := by decide +kernel
theorem dX4_slackOf_43 : decode cX4_slackOf 43 = .ok (.ifCond .eq 10, 3) := by decide +kernel
theorem dX4_slackOf_46 : decode cX4_slackOf 46 = .ok (.lload 5, 2) := by decide +kernel
theorem dX4_slackOf_48 : decode cX4_slackOf 48 = .ok (.lload_n 2, 1) := by decide +kernel
theorem dX4_slackOf_49 : decode cX4_slackOf 49 = .ok (.lcmp, 1) := by decide +kernel
theorem dX4_slackOf_50 : decode cX4_slackOf 50 = .ok (.ifCond .ge 8, 3) := by decide +kernel
theorem dX4_slackOf_53 : decode cX4_slackOf 53 = .ok (.lload 5, 2) := by decide +kernel
theorem dX4_slackOf_55 : decode cX4_slackOf 55 = .ok (.goto 4, 3) := by decide +kernel
theorem dX4_slackOf_58 : decode cX4_slackOf 58 = .ok (.lload_n 2, 1) := by decide +kernel
theorem dX4_slackOf_59 : decode cX4_slackOf 59 = .ok (.lstore_n 2, 1) := by decide +kernel
theorem dX4_slackOf_60 : decode cX4_slackOf 60 = .ok (.iinc 4 1, 3) := by decide +kernel
theorem dX4_slackOf_63 : decode cX4_slackOf 63 = .ok (.goto (-53), 3) := by decide +kernel
theorem dX4_slackOf_66 : decode cX4_slackOf 66 = .ok (.lload_n 2, 1) := by decide +kernel
theorem dX4_slackOf_67 : decode cX4_slackOf 67 = .ok (.lreturn, 1) := by decide +kernel
set_option maxRecDepth 20000 in
theorem ggX4_slack_X4_number : GoodIn wsX4_slack wsX4_number := goodIn_r _ [7, 8, 9, 10, 39, 40, 41, 42, 43, 44, 45, 46, 47, 48, 49, 50, 51, 52, 53, 54, 55, 56, 57, 58, 59, 60, 61, 62, 63, 64, 65, 66, 67, 68, 69, 70, 71, 72, 73, 74, 75] (by decide +kernel) (by decide +kernel)
set_option maxRecDepth 20000 in
theorem gX4_slack_X4_number : GoodIn wsX4_slack (wsV RX4 187 RX4 yX4_number wsX4_number) := goodIn_app (goodIn_of _ (by decide +kernel)) ggX4_slack_X4_number
set_option maxRecDepth 20000 in
theorem ggX4_slack_X4_slackOf : GoodIn wsX4_slack wsX4_slackOf := goodIn_r _ [14, 8, 15, 16, 17, 18, 19, 6, 20, 9, 21, 22, 23, 24, 25, 26, 27, 28, 29, 30, 31, 32, 33, 34, 35, 36, 37, 38, 39, 40, 41, 42, 43, 44, 45, 46, 47, 48, 49, 50, 51, 52, 53, 54, 55, 56, 57, 58, 59, 60, 61, 62, 63, 64, 65, 66, 67, 68, 69, 70, 71, 72, 73, 74, 75] (by decide +kernel) (by decide +kernel)
set_option maxRecDepth 20000 in
theorem gX4_slack_X4_slackOf : GoodIn wsX4_slack (wsV RX4 205 RX4 yX4_slackOf wsX4_slackOf) := goodIn_app (goodIn_of _ (by decide +kernel)) ggX4_slack_X4_slackOf
theorem dX4_slack_0 : decode cX4_slack 0 = .ok (.aload_n 0, 1) := by decide +kernel
theorem dX4_slack_1 : decode cX4_slack 1 = .ok (.aload_n 0, 1) := by decide +kernel
theorem dX4_slack_2 : decode cX4_slack 2 = .ok (.getfield 115, 3) := by decide +kernel
theorem dX4_slack_5 : decode cX4_slack 5 = .ok (.ifCond .eq 7, 3) := by decide +kernel
theorem dX4_slack_8 : decode cX4_slack 8 = .ok (.iconst 0, 1) := by decide +kernel
theorem dX4_slack_9 : decode cX4_slack 9 = .ok (.goto 4, 3) := by decide +kernel
theorem dX4_slack_12 : decode cX4_slack 12 = .ok (.iconst 1, 1) := by decide +kernel
theorem dX4_slack_13 : decode cX4_slack 13 = .ok (.putfield 100, 3) := by decide +kernel
theorem dX4_slack_16 : decode cX4_slack 16 = .ok (.aload_n 0, 1) := by decide +kernel
theorem dX4_slack_17 : decode cX4_slack 17 = .ok (.getfield 115, 3) := by decide +kernel
theorem dX4_slack_20 : decode cX4_slack 20 = .ok (.ifCond .eq 14, 3) := by decide +kernel
theorem dX4_slack_23 : decode cX4_slack 23 = .ok (.aload_n 0, 1) := by decide +kernel
theorem dX4_slack_24 : decode cX4_slack 24 = .ok (.aload_n 0, 1) := by decide +kernel
theorem dX4_slack_25 : decode cX4_slack 25 = .ok (.invokevirtual 187, 3) := by decide +kernel
theorem dX4_slack_28 : decode cX4_slack 28 = .ok (.invokevirtual 205, 3) := by decide +kernel
theorem dX4_slack_31 : decode cX4_slack 31 = .ok (.goto 4, 3) := by decide +kernel
theorem dX4_slack_34 : decode cX4_slack 34 = .ok (.lconst 0, 1) := by decide +kernel
theorem dX4_slack_35 : decode cX4_slack 35 = .ok (.lreturn, 1) := by decide +kernel
set_option maxRecDepth 20000 in
theorem ggX4_bestSetting_X4_slackOf : GoodIn wsX4_bestSetting wsX4_slackOf := goodIn_r _ [6, 1, 7, 8, 9, 10, 11, 5, 12, 13, 14, 15, 16, 17, 18, 19, 20, 21, 22, 23, 24, 25, 26, 27, 28, 29, 30, 31, 32, 33, 34, 35, 36, 37, 38, 39, 40, 41, 42, 43, 44, 45, 46, 47, 48, 49, 50, 51, 52, 53, 54, 55, 56, 57, 58, 59, 60, 61, 62, 63, 64, 65, 66, 67, 68] (by decide +kernel) (by decide +kernel)
set_option maxRecDepth 20000 in
theorem gX4_bestSetting_X4_slackOf : GoodIn wsX4_bestSetting (wsV RX4 205 RX4 yX4_slackOf wsX4_slackOf) := goodIn_app (goodIn_of _ (by decide +kernel)) ggX4_bestSetting_X4_slackOf
theorem dX4_bestSetting_0 : decode cX4_bestSetting 0 = .ok (.iconst 0, 1) := by decide +kernel
theorem dX4_bestSetting_1 : decode cX4_bestSetting 1 = .ok (.istore_n 1, 1) := by decide +kernel
theorem dX4_bestSetting_2 : decode cX4_bestSetting 2 = .ok (.aload_n 0, 1) := by decide +kernel
theorem dX4_bestSetting_3 : decode cX4_bestSetting 3 = .ok (.iconst 0, 1) := by decide +kernel
theorem dX4_bestSetting_4 : decode cX4_bestSetting 4 = .ok (.invokevirtual 205, 3) := by decide +kernel
theorem dX4_bestSetting_7 : decode cX4_bestSetting 7 = .ok (.lstore_n 2, 1) := by decide +kernel
theorem dX4_bestSetting_8 : decode cX4_bestSetting 8 = .ok (.iconst 1, 1) := by decide +kernel
theorem dX4_bestSetting_9 : decode cX4_bestSetting 9 = .ok (.istore 4, 2) := by decide +kernel
theorem dX4_bestSetting_11 : decode cX4_bestSetting 11 = .ok (.iload 4, 2) := by decide +kernel
theorem dX4_bestSetting_13 : decode cX4_bestSetting 13 = .ok (.iconst 1, 1) := by decide +kernel
theorem dX4_bestSetting_14 : decode cX4_bestSetting 14 = .ok (.aload_n 0, 1) := by decide +kernel
theorem dX4_bestSetting_15 : decode cX4_bestSetting 15 = .ok (.getfield 112, 3) := by decide +kernel
theorem dX4_bestSetting_18 : decode cX4_bestSetting 18 = .ok (.iconst 1, 1) := by decide +kernel
theorem dX4_bestSetting_19 : decode cX4_bestSetting 19 = .ok (.isub, 1) := by decide +kernel
theorem dX4_bestSetting_20 : decode cX4_bestSetting 20 = .ok (.ishl, 1) := by decide +kernel
theorem dX4_bestSetting_21 : decode cX4_bestSetting 21 = .ok (.if_icmp .ge 30, 3) := by decide +kernel
theorem dX4_bestSetting_24 : decode cX4_bestSetting 24 = .ok (.aload_n 0, 1) := by decide +kernel
theorem dX4_bestSetting_25 : decode cX4_bestSetting 25 = .ok (.iload 4, 2) := by decide +kernel
theorem dX4_bestSetting_27 : decode cX4_bestSetting 27 = .ok (.invokevirtual 205, 3) := by decide +kernel
theorem dX4_bestSetting_30 : decode cX4_bestSetting 30 = .ok (.lstore 5, 2) := by decide +kernel
theorem dX4_bestSetting_32 : decode cX4_bestSetting 32 = .ok (.lload 5, 2) := by decide +kernel
theorem dX4_bestSetting_34 : decode cX4_bestSetting 34 = .ok (.lload_n 2, 1) := by decide +kernel
theorem dX4_bestSetting_35 : decode cX4_bestSetting 35 = .ok (.lcmp, 1) := by decide +kernel
theorem dX4_bestSetting_36 : decode cX4_bestSetting 36 = .ok (.ifCond .le 9, 3) := by decide +kernel
theorem dX4_bestSetting_39 : decode cX4_bestSetting 39 = .ok (.lload 5, 2) := by decide +kernel
theorem dX4_bestSetting_41 : decode cX4_bestSetting 41 = .ok (.lstore_n 2, 1) := by decide +kernel
theorem dX4_bestSetting_42 : decode cX4_bestSetting 42 = .ok (.iload 4, 2) := by decide +kernel
theorem dX4_bestSetting_44 : decode cX4_bestSetting 44 = .ok (.istore_n 1, 1) := by decide +kernel
theorem dX4_bestSetting_45 : decode cX4_bestSetting 45 = .ok (.iinc 4 1, 3) := by decide +kernel
theorem dX4_bestSetting_48 : decode cX4_bestSetting 48 = .ok (.goto (-37), 3) := by decide +kernel
theorem dX4_bestSetting_51 : decode cX4_bestSetting 51 = .ok (.iload_n 1, 1) := by decide +kernel
theorem dX4_bestSetting_52 : decode cX4_bestSetting 52 = .ok (.ireturn, 1) := by decide +kernel
set_option maxRecDepth 20000 in
theorem ggX4_best_X4_bestSetting : GoodIn wsX4_best wsX4_bestSetting := goodIn_r _ [7, 8, 9, 10, 11, 6, 12, 13, 14, 15, 16, 17, 18, 19, 20, 21, 22, 23, 24, 25, 26, 27, 28, 29, 30, 31, 32, 33, 34, 35, 36, 37, 38, 39, 40, 41, 42, 43, 44, 45, 46, 47, 48, 49, 50, 51, 52, 53, 54, 55, 56, 57, 58, 59, 60, 61, 62, 63, 64, 65, 66, 67, 68, 69, 70, 71, 72, 73, 74] (by decide +kernel) (by decide +kernel)
set_option maxRecDepth 20000 in
theorem gX4_best_X4_bestSetting : GoodIn wsX4_best (wsV RX4 209 RX4 yX4_bestSetting wsX4_bestSetting) := goodIn_app (goodIn_of _ (by decide +kernel)) ggX4_best_X4_bestSetting
set_option maxRecDepth 20000 in
theorem ggX4_best_X4_slackOf : GoodIn wsX4_best wsX4_slackOf := goodIn_r _ [12, 8, 13, 14, 15, 16, 17, 6, 18, 19, 20, 21, 22, 23, 24, 25, 26, 27, 28, 29, 30, 31, 32, 33, 34, 35, 36, 37, 38, 39, 40, 41, 42, 43, 44, 45, 46, 47, 48, 49, 50, 51, 52, 53, 54, 55, 56, 57, 58, 59, 60, 61, 62, 63, 64, 65, 66, 67, 68, 69, 70, 71, 72, 73, 74] (by decide +kernel) (by decide +kernel)
set_option maxRecDepth 20000 in
theorem gX4_best_X4_slackOf : GoodIn wsX4_best (wsV RX4 205 RX4 yX4_slackOf wsX4_slackOf) := goodIn_app (goodIn_of _ (by decide +kernel)) ggX4_best_X4_slackOf
theorem dX4_best_0 : decode cX4_best 0 = .ok (.aload_n 0, 1) := by decide +kernel
theorem dX4_best_1 : decode cX4_best 1 = .ok (.aload_n 0, 1) := by decide +kernel
theorem dX4_best_2 : decode cX4_best 2 = .ok (.getfield 115, 3) := by decide +kernel
theorem dX4_best_5 : decode cX4_best 5 = .ok (.ifCond .eq 7, 3) := by decide +kernel
theorem dX4_best_8 : decode cX4_best 8 = .ok (.iconst 0, 1) := by decide +kernel
theorem dX4_best_9 : decode cX4_best 9 = .ok (.goto 4, 3) := by decide +kernel
theorem dX4_best_12 : decode cX4_best 12 = .ok (.iconst 1, 1) := by decide +kernel
theorem dX4_best_13 : decode cX4_best 13 = .ok (.putfield 100, 3) := by decide +kernel
theorem dX4_best_16 : decode cX4_best 16 = .ok (.aload_n 0, 1) := by decide +kernel
theorem dX4_best_17 : decode cX4_best 17 = .ok (.getfield 115, 3) := by decide +kernel
theorem dX4_best_20 : decode cX4_best 20 = .ok (.ifCond .eq 14, 3) := by decide +kernel
theorem dX4_best_23 : decode cX4_best 23 = .ok (.aload_n 0, 1) := by decide +kernel
theorem dX4_best_24 : decode cX4_best 24 = .ok (.aload_n 0, 1) := by decide +kernel
theorem dX4_best_25 : decode cX4_best 25 = .ok (.invokevirtual 209, 3) := by decide +kernel
theorem dX4_best_28 : decode cX4_best 28 = .ok (.invokevirtual 205, 3) := by decide +kernel
theorem dX4_best_31 : decode cX4_best 31 = .ok (.goto 4, 3) := by decide +kernel
theorem dX4_best_34 : decode cX4_best 34 = .ok (.lconst 0, 1) := by decide +kernel
theorem dX4_best_35 : decode cX4_best 35 = .ok (.lreturn, 1) := by decide +kernel
set_option maxRecDepth 20000 in
theorem ggX4_improve_X4_bestSetting : GoodIn wsX4_improve wsX4_bestSetting := goodIn_r _ [10, 3, 11, 12, 13, 9, 14, 15, 16, 17, 18, 19, 20, 4, 21, 22, 23, 24, 25, 26, 27, 28, 29, 30, 31, 32, 33, 34, 35, 36, 37, 38, 39, 40, 41, 42, 43, 44, 45, 46, 47, 48, 49, 50, 51, 52, 53, 54, 55, 56, 57, 58, 59, 60, 61, 62, 63, 64, 65, 66, 67, 68, 69, 70, 71, 72, 73, 74, 75] (by decide +kernel) (by decide +kernel)
set_option maxRecDepth 20000 in
theorem gX4_improve_X4_bestSetting : GoodIn wsX4_improve (wsV RX4 209 RX4 yX4_bestSetting wsX4_bestSetting) := goodIn_app (goodIn_of _ (by decide +kernel)) ggX4_improve_X4_bestSetting
theorem dX4_improve_0 : decode cX4_improve 0 = .ok (.aload_n 0, 1) := by decide +kernel
theorem dX4_improve_1 : decode cX4_improve 1 = .ok (.aload_n 0, 1) := by decide +kernel
theorem dX4_improve_2 : decode cX4_improve 2 = .ok (.getfield 115, 3) := by decide +kernel
theorem dX4_improve_5 : decode cX4_improve 5 = .ok (.ifCond .eq 7, 3) := by decide +kernel
theorem dX4_improve_8 : decode cX4_improve 8 = .ok (.iconst 0, 1) := by decide +kernel
theorem dX4_improve_9 : decode cX4_improve 9 = .ok (.goto 4, 3) := by decide +kernel
theorem dX4_improve_12 : decode cX4_improve 12 = .ok (.iconst 1, 1) := by decide +kernel
theorem dX4_improve_13 : decode cX4_improve 13 = .ok (.putfield 100, 3) := by decide +kernel
theorem dX4_improve_16 : decode cX4_improve 16 = .ok (.aload_n 0, 1) := by decide +kernel
theorem dX4_improve_17 : decode cX4_improve 17 = .ok (.getfield 115, 3) := by decide +kernel
theorem dX4_improve_20 : decode cX4_improve 20 = .ok (.ifCond .ne 5, 3) := by decide +kernel
theorem dX4_improve_23 : decode cX4_improve 23 = .ok (.iconst 0, 1) := by decide +kernel
theorem dX4_improve_24 : decode cX4_improve 24 = .ok (.ireturn, 1) := by decide +kernel
theorem dX4_improve_25 : decode cX4_improve 25 = .ok (.aload_n 0, 1) := by decide +kernel
theorem dX4_improve_26 : decode cX4_improve 26 = .ok (.invokevirtual 209, 3) := by decide +kernel
theorem dX4_improve_29 : decode cX4_improve 29 = .ok (.istore_n 1, 1) := by decide +kernel
theorem dX4_improve_30 : decode cX4_improve 30 = .ok (.aload_n 0, 1) := by decide +kernel
theorem dX4_improve_31 : decode cX4_improve 31 = .ok (.getfield 112, 3) := by decide +kernel
theorem dX4_improve_34 : decode cX4_improve 34 = .ok (.istore_n 2, 1) := by decide +kernel
theorem dX4_improve_35 : decode cX4_improve 35 = .ok (.iload_n 2, 1) := by decide +kernel
theorem dX4_improve_36 : decode cX4_improve 36 = .ok (.aload_n 0, 1) := by decide +kernel
theorem dX4_improve_37 : decode cX4_improve 37 = .ok (.getfield 140, 3) := by decide +kernel
theorem dX4_improve_40 : decode cX4_improve 40 = .ok (.if_icmp .ge 34, 3) := by decide +kernel
theorem dX4_improve_43 : decode cX4_improve 43 = .ok (.aload_n 0, 1) := by decide +kernel
theorem dX4_improve_44 : decode cX4_improve 44 = .ok (.getfield 68, 3) := by decide +kernel
theorem dX4_improve_47 : decode cX4_improve 47 = .ok (.iload_n 2, 1) := by decide +kernel
theorem dX4_improve_48 : decode cX4_improve 48 = .ok (.iload_n 1, 1) := by decide +kernel
theorem dX4_improve_49 : decode cX4_improve 49 = .ok (.iload_n 2, 1) := by decide +kernel
theorem dX4_improve_50 : decode cX4_improve 50 = .ok (.aload_n 0, 1) := by decide +kernel
theorem dX4_improve_51 : decode cX4_improve 51 = .ok (.getfield 112, 3) := by decide +kernel
theorem dX4_improve_54 : decode cX4_improve 54 = .ok (.isub, 1) := by decide +kernel
theorem dX4_improve_55 : decode cX4_improve 55 = .ok (.ishr, 1) := by decide +kernel
theorem dX4_improve_56 : decode cX4_improve 56 = .ok (.iconst 1, 1) := by decide +kernel
theorem dX4_improve_57 : decode cX4_improve 57 = .ok (.iand, 1) := by decide +kernel
theorem dX4_improve_58 : decode cX4_improve 58 = .ok (.iconst 1, 1) := by decide +kernel
theorem dX4_improve_59 : decode cX4_improve 59 = .ok (.if_icmp .ne 7, 3) := by decide +kernel
theorem dX4_improve_62 : decode cX4_improve 62 = .ok (.iconst 1, 1) := by decide +kernel
theorem dX4_improve_63 : decode cX4_improve 63 = .ok (.goto 4, 3) := by decide +kernel
theorem dX4_improve_66 : decode cX4_improve 66 = .ok (.iconst 0, 1) := by decide +kernel
theorem dX4_improve_67 : decode cX4_improve 67 = .ok (.bastore, 1) := by decide +kernel
theorem dX4_improve_68 : decode cX4_improve 68 = .ok (.iinc 2 1, 3) := by decide +kernel
theorem dX4_improve_71 : decode cX4_improve 71 = .ok (.goto (-36), 3) := by decide +kernel
theorem dX4_improve_74 : decode cX4_improve 74 = .ok (.iload_n 1, 1) := by decide +kernel
theorem dX4_improve_75 : decode cX4_improve 75 = .ok (.ireturn, 1) := by decide +kernel
theorem dJ9_abs_0f7a4_0 : decode cJ9_abs_0f7a4 0 = .ok (.iload_n 0, 1) := by decide +kernel
theorem dJ9_abs_0f7a4_1 : decode cJ9_abs_0f7a4 1 = .ok (.ifCond .ge 8, 3) := by decide +kernel
theorem dJ9_abs_0f7a4_4 : decode cJ9_abs_0f7a4 4 = .ok (.iload_n 0, 1) := by decide +kernel
theorem dJ9_abs_0f7a4_5 : decode cJ9_abs_0f7a4 5 = .ok (.ineg, 1) := by decide +kernel
theorem dJ9_abs_0f7a4_6 : decode cJ9_abs_0f7a4 6 = .ok (.goto 4, 3) := by decide +kernel
theorem dJ9_abs_0f7a4_9 : decode cJ9_abs_0f7a4 9 = .ok (.iload_n 0, 1) := by decide +kernel
theorem dJ9_abs_0f7a4_10 : decode cJ9_abs_0f7a4 10 = .ok (.ireturn, 1) := by decide +kernel
theorem dJ9_max_7cf53_0 : decode cJ9_max_7cf53 0 = .ok (.iload_n 0, 1) := by decide +kernel
theorem dJ9_max_7cf53_1 : decode cJ9_max_7cf53 1 = .ok (.iload_n 1, 1) := by decide +kernel
theorem dJ9_max_7cf53_2 : decode cJ9_max_7cf53 2 = .ok (.if_icmp .lt 7, 3) := by decide +kernel
theorem dJ9_max_7cf53_5 : decode cJ9_max_7cf53 5 = .ok (.iload_n 0, 1) := by decide +kernel
theorem dJ9_max_7cf53_6 : decode cJ9_max_7cf53 6 = .ok (.goto 4, 3) := by decide +kernel
theorem dJ9_max_7cf53_9 : decode cJ9_max_7cf53 9 = .ok (.iload_n 1, 1) := by decide +kernel
theorem dJ9_max_7cf53_10 : decode cJ9_max_7cf53 10 = .ok (.ireturn, 1) := by decide +kernel
theorem dJ9_min_7cf53_0 : decode cJ9_min_7cf53 0 = .ok (.iload_n 0, 1) := by decide +kernel
theorem dJ9_min_7cf53_1 : decode cJ9_min_7cf53 1 = .ok (.iload_n 1, 1) := by decide +kernel
theorem dJ9_min_7cf53_2 : decode cJ9_min_7cf53 2 = .ok (.if_icmp .gt 7, 3) := by decide +kernel
theorem dJ9_min_7cf53_5 : decode cJ9_min_7cf53 5 = .ok (.iload_n 0, 1) := by decide +kernel
theorem dJ9_min_7cf53_6 : decode cJ9_min_7cf53 6 = .ok (.goto 4, 3) := by decide +kernel
theorem dJ9_min_7cf53_9 : decode cJ9_min_7cf53 9 = .ok (.iload_n 1, 1) := by decide +kernel
theorem dJ9_min_7cf53_10 : decode cJ9_min_7cf53 10 = .ok (.ireturn, 1) := by decide +kernel
theorem dJ9_min_f86c9_0 : decode cJ9_min_f86c9 0 = .ok (.lload_n 0, 1) := by decide +kernel
theorem dJ9_min_f86c9_1 : decode cJ9_min_f86c9 1 = .ok (.lload_n 2, 1) := by decide +kernel
theorem dJ9_min_f86c9_2 : decode cJ9_min_f86c9 2 = .ok (.lcmp, 1) := by decide +kernel
theorem dJ9_min_f86c9_3 : decode cJ9_min_f86c9 3 = .ok (.ifCond .gt 7, 3) := by decide +kernel
theorem dJ9_min_f86c9_6 : decode cJ9_min_f86c9 6 = .ok (.lload_n 0, 1) := by decide +kernel
theorem dJ9_min_f86c9_7 : decode cJ9_min_f86c9 7 = .ok (.goto 4, 3) := by decide +kernel
theorem dJ9_min_f86c9_10 : decode cJ9_min_f86c9 10 = .ok (.lload_n 2, 1) := by decide +kernel
theorem dJ9_min_f86c9_11 : decode cJ9_min_f86c9 11 = .ok (.lreturn, 1) := by decide +kernel
set_option maxRecDepth 20000 in
theorem ggL_sink_X3_sink : GoodIn wsL_sink wsX3_sink := goodIn_ca (goodIn_ca (goodIn_r _ [7, 8, 9, 10, 11, 12, 13, 14, 15, 16, 17, 6, 18, 19, 20, 21, 22, 23, 24, 25, 26, 27, 28, 29, 30, 31, 32, 33, 34, 35, 36, 37, 38, 39, 40, 41, 42, 43] (by decide +kernel) (by decide +kernel)) (goodIn_sub (fun _ h => List.mem_cons_of_mem _ (List.mem_append_left _ (List.mem_append_right _ h))) (by decide +kernel))) (goodIn_sub (fun _ h => List.mem_cons_of_mem _ (List.mem_append_right _ h)) (by decide +kernel))
set_option maxRecDepth 20000 in
theorem gL_sink_X3_sink : GoodIn wsL_sink (wsV RL 7 RX3 yX3_sink wsX3_sink) := goodIn_app (goodIn_of _ (by decide +kernel)) ggL_sink_X3_sink
theorem dL_sink_0 : decode cL_sink 0 = .ok (.aload 5, 2) := by decide +kernel
theorem dL_sink_2 : decode cL_sink 2 = .ok (.iconst 0, 1) := by decide +kernel
theorem dL_sink_3 : decode cL_sink 3 = .ok (.aload_n 0, 1) := by decide +kernel
theorem dL_sink_4 : decode cL_sink 4 = .ok (.iload_n 1, 1) := by decide +kernel
theorem dL_sink_5 : decode cL_sink 5 = .ok (.iload_n 2, 1) := by decide +kernel
theorem dL_sink_6 : decode cL_sink 6 = .ok (.iload_n 3, 1) := by decide +kernel
theorem dL_sink_7 : decode cL_sink 7 = .ok (.iload 4, 2) := by decide +kernel
theorem dL_sink_9 : decode cL_sink 9 = .ok (.invokevirtual 7, 3) := by decide +kernel
theorem dL_sink_12 : decode cL_sink 12 = .ok (.i2l, 1) := by decide +kernel
theorem dL_sink_13 : decode cL_sink 13 = .ok (.lastore, 1) := by decide +kernel
theorem dL_sink_14 : decode cL_sink 14 = .ok (.goto 11, 3) := by decide +kernel
theorem dL_sink_17 : decode cL_sink 17 = .ok (.astore 6, 2) := by decide +kernel
theorem dL_sink_19 : decode cL_sink 19 = .ok (.iconst 1, 1) := by decide +kernel
theorem dL_sink_20 : decode cL_sink 20 = .ok (.ireturn, 1) := by decide +kernel
theorem dL_sink_21 : decode cL_sink 21 = .ok (.astore 6, 2) := by decide +kernel
theorem dL_sink_23 : decode cL_sink 23 = .ok (.iconst 2, 1) := by decide +kernel
theorem dL_sink_24 : decode cL_sink 24 = .ok (.ireturn, 1) := by decide +kernel
theorem dL_sink_25 : decode cL_sink 25 = .ok (.iconst 0, 1) := by decide +kernel
theorem dL_sink_26 : decode cL_sink 26 = .ok (.ireturn, 1) := by decide +kernel
set_option maxRecDepth 20000 in
theorem ggL_cut_X3_cut : GoodIn wsL_cut wsX3_cut := goodIn_ca (goodIn_r _ [6, 7, 8, 9, 10, 11, 12, 13, 5, 14, 15, 16, 17, 18, 19, 20, 21, 22, 23, 24, 25, 26] (by decide +kernel) (by decide +kernel)) (goodIn_sub (fun _ h => List.mem_cons_of_mem _ (List.mem_append_right _ h)) (by decide +kernel))
set_option maxRecDepth 20000 in
theorem gL_cut_X3_cut : GoodIn wsL_cut (wsV RL 17 RX3 yX3_cut wsX3_cut) := goodIn_app (goodIn_of _ (by decide +kernel)) ggL_cut_X3_cut
theorem dL_cut_0 : decode cL_cut 0 = .ok (.aload_n 0, 1) := by decide +kernel
theorem dL_cut_1 : decode cL_cut 1 = .ok (.iload_n 1, 1) := by decide +kernel
theorem dL_cut_2 : decode cL_cut 2 = .ok (.invokevirtual 17, 3) := by decide +kernel
theorem dL_cut_5 : decode cL_cut 5 = .ok (.goto 6, 3) := by decide +kernel
theorem dL_cut_8 : decode cL_cut 8 = .ok (.astore_n 2, 1) := by decide +kernel
theorem dL_cut_9 : decode cL_cut 9 = .ok (.iconst 1, 1) := by decide +kernel
theorem dL_cut_10 : decode cL_cut 10 = .ok (.ireturn, 1) := by decide +kernel
theorem dL_cut_11 : decode cL_cut 11 = .ok (.iconst 0, 1) := by decide +kernel
theorem dL_cut_12 : decode cL_cut 12 = .ok (.ireturn, 1) := by decide +kernel
set_option maxRecDepth 20000 in
theorem ggL_source_X3_source : GoodIn wsL_source wsX3_source := goodIn_ca (goodIn_r _ [6, 7, 8, 9, 10, 11, 12, 13, 5, 14, 15, 16, 17, 18, 19, 20, 21, 22, 23, 24] (by decide +kernel) (by decide +kernel)) (goodIn_sub (fun _ h => List.mem_cons_of_mem _ (List.mem_append_right _ h)) (by decide +kernel))
set_option maxRecDepth 20000 in
theorem gL_source_X3_source : GoodIn wsL_source (wsV RL 21 RX3 yX3_source wsX3_source) := goodIn_app (goodIn_of _ (by decide +kernel)) ggL_source_X3_source
theorem dL_source_0 : decode cL_source 0 = .ok (.aload_n 0, 1) := by decide +kernel
theorem dL_source_1 : decode cL_source 1 = .ok (.iload_n 1, 1) := by decide +kernel
theorem dL_source_2 : decode cL_source 2 = .ok (.iload_n 2, 1) := by decide +kernel
theorem dL_source_3 : decode cL_source 3 = .ok (.invokevirtual 21, 3) := by decide +kernel
theorem dL_source_6 : decode cL_source 6 = .ok (.goto 6, 3) := by decide +kernel
theorem dL_source_9 : decode cL_source 9 = .ok (.astore_n 3, 1) := by decide +kernel
theorem dL_source_10 : decode cL_source 10 = .ok (.iconst 1, 1) := by decide +kernel
theorem dL_source_11 : decode cL_source 11 = .ok (.ireturn, 1) := by decide +kernel
theorem dL_source_12 : decode cL_source 12 = .ok (.iconst 0, 1) := by decide +kernel
theorem dL_source_13 : decode cL_source 13 = .ok (.ireturn, 1) := by decide +kernel
set_option maxRecDepth 20000 in
theorem ggL_wires_X3_wires : GoodIn wsL_wires wsX3_wires := goodIn_ca (goodIn_r _ [6, 7, 8, 9, 10, 11, 12, 13, 5, 14, 15, 16, 17, 18, 19, 20, 21, 22, 23, 24, 25, 26, 27, 28, 29, 30, 31] (by decide +kernel) (by decide +kernel)) (goodIn_sub (fun _ h => List.mem_cons_of_mem _ (List.mem_append_right _ h)) (by decide +kernel))
set_option maxRecDepth 20000 in
theorem gL_wires_X3_wires : GoodIn wsL_wires (wsV RL 25 RX3 yX3_wires wsX3_wires) := goodIn_app (goodIn_of _ (by decide +kernel)) ggL_wires_X3_wires
theorem dL_wires_0 : decode cL_wires 0 = .ok (.aload_n 0, 1) := by decide +kernel
theorem dL_wires_1 : decode cL_wires 1 = .ok (.iload_n 1, 1) := by decide +kernel
theorem dL_wires_2 : decode cL_wires 2 = .ok (.iload_n 2, 1) := by decide +kernel
theorem dL_wires_3 : decode cL_wires 3 = .ok (.invokevirtual 25, 3) := by decide +kernel
theorem dL_wires_6 : decode cL_wires 6 = .ok (.goto 6, 3) := by decide +kernel
theorem dL_wires_9 : decode cL_wires 9 = .ok (.astore_n 3, 1) := by decide +kernel
theorem dL_wires_10 : decode cL_wires 10 = .ok (.iconst 1, 1) := by decide +kernel
theorem dL_wires_11 : decode cL_wires 11 = .ok (.ireturn, 1) := by decide +kernel
theorem dL_wires_12 : decode cL_wires 12 = .ok (.iconst 0, 1) := by decide +kernel
theorem dL_wires_13 : decode cL_wires 13 = .ok (.ireturn, 1) := by decide +kernel
set_option maxRecDepth 20000 in
theorem ggL_buffer_X3_buffer : GoodIn wsL_buffer wsX3_buffer := goodIn_ca (goodIn_r _ [6, 7, 8, 9, 10, 11, 12, 13, 14, 15, 16, 5, 17, 18, 19, 20, 21, 22, 23, 24, 25, 26, 27, 28, 29, 30, 31, 32, 33, 34] (by decide +kernel) (by decide +kernel)) (goodIn_sub (fun _ h => List.mem_cons_of_mem _ (List.mem_append_right _ h)) (by decide +kernel))
set_option maxRecDepth 20000 in
theorem gL_buffer_X3_buffer : GoodIn wsL_buffer (wsV RL 28 RX3 yX3_buffer wsX3_buffer) := goodIn_app (goodIn_of _ (by decide +kernel)) ggL_buffer_X3_buffer
theorem dL_buffer_0 : decode cL_buffer 0 = .ok (.aload_n 0, 1) := by decide +kernel
theorem dL_buffer_1 : decode cL_buffer 1 = .ok (.iload_n 1, 1) := by decide +kernel
theorem dL_buffer_2 : decode cL_buffer 2 = .ok (.iload_n 2, 1) := by decide +kernel
theorem dL_buffer_3 : decode cL_buffer 3 = .ok (.iload_n 3, 1) := by decide +kernel
theorem dL_buffer_4 : decode cL_buffer 4 = .ok (.invokevirtual 28, 3) := by decide +kernel
theorem dL_buffer_7 : decode cL_buffer 7 = .ok (.goto 7, 3) := by decide +kernel
theorem dL_buffer_10 : decode cL_buffer 10 = .ok (.astore 4, 2) := by decide +kernel
theorem dL_buffer_12 : decode cL_buffer 12 = .ok (.iconst 1, 1) := by decide +kernel
theorem dL_buffer_13 : decode cL_buffer 13 = .ok (.ireturn, 1) := by decide +kernel
theorem dL_buffer_14 : decode cL_buffer 14 = .ok (.iconst 0, 1) := by decide +kernel
theorem dL_buffer_15 : decode cL_buffer 15 = .ok (.ireturn, 1) := by decide +kernel
set_option maxRecDepth 20000 in
theorem ggL_build_X3_build : GoodIn wsL_build wsX3_build := goodIn_ca (goodIn_ca (goodIn_r _ [7, 8, 9, 10, 11, 12, 13, 14, 15, 16, 17, 18, 19, 20, 21, 6, 22, 23, 24, 25, 26, 27, 28, 29, 30, 31, 32, 33, 34, 35, 36, 37, 38, 39, 40, 41, 42, 43, 44, 45, 46, 47, 48, 49, 50, 51, 52, 53, 54, 55, 56, 57, 58, 59, 60, 61, 62, 63, 64, 65, 66, 67, 68, 69, 70, 71, 72, 73, 74, 75, 76, 77, 78, 79, 80, 81, 82, 83, 84, 85, 86, 87, 88, 89, 90, 91, 92, 93, 94, 95, 96, 97, 98, 99, 100, 101, 102, 103, 104, 105, 106, 107, 108, 109, 110, 111, 112, 113, 114, 115, 116, 117, 118, 119, 120, 121, 122, 123, 124, 125, 126, 127, 128, 129, 130, 131, 132, 133, 134, 135, 136] (by decide +kernel) (by decide +kernel)) (goodIn_sub (fun _ h => List.mem_cons_of_mem _ (List.mem_append_left _ (List.mem_append_right _ h))) (by decide +kernel))) (goodIn_sub (fun _ h => List.mem_cons_of_mem _ (List.mem_append_right _ h)) (by decide +kernel))
set_option maxRecDepth 20000 in
theorem gL_build_X3_build : GoodIn wsL_build (wsV RL 32 RX3 yX3_build wsX3_build) := goodIn_app (goodIn_of _ (by decide +kernel)) ggL_build_X3_build
theorem dL_build_0 : decode cL_build 0 = .ok (.aload_n 2, 1) := by decide +kernel
theorem dL_build_1 : decode cL_build 1 = .ok (.iconst 0, 1) := by decide +kernel
theorem dL_build_2 : decode cL_build 2 = .ok (.aload_n 0, 1) := by decide +kernel
theorem dL_build_3 : decode cL_build 3 = .ok (.iload_n 1, 1) := by decide +kernel
theorem dL_build_4 : decode cL_build 4 = .ok (.invokevirtual 32, 3) := by decide +kernel
theorem dL_build_7 : decode cL_build 7 = .ok (.i2l, 1) := by decide +kernel
theorem dL_build_8 : decode cL_build 8 = .ok (.lastore, 1) := by decide +kernel
theorem dL_build_9 : decode cL_build 9 = .ok (.goto 9, 3) := by decide +kernel
theorem dL_build_12 : decode cL_build 12 = .ok (.astore_n 3, 1) := by decide +kernel
theorem dL_build_13 : decode cL_build 13 = .ok (.iconst 1, 1) := by decide +kernel
theorem dL_build_14 : decode cL_build 14 = .ok (.ireturn, 1) := by decide +kernel
theorem dL_build_15 : decode cL_build 15 = .ok (.astore_n 3, 1) := by decide +kernel
theorem dL_build_16 : decode cL_build 16 = .ok (.iconst 2, 1) := by decide +kernel
theorem dL_build_17 : decode cL_build 17 = .ok (.ireturn, 1) := by decide +kernel
theorem dL_build_18 : decode cL_build 18 = .ok (.iconst 0, 1) := by decide +kernel
theorem dL_build_19 : decode cL_build 19 = .ok (.ireturn, 1) := by decide +kernel
set_option maxRecDepth 20000 in
theorem ggL_node_X3_node : GoodIn wsL_node wsX3_node := goodIn_ca (goodIn_ca (goodIn_r _ [7, 8, 9, 10, 11, 12, 13, 14, 6, 15, 16, 17, 18, 19, 20, 21, 22, 23, 24, 25, 26, 27, 28, 29, 30, 31, 32, 33, 34, 35, 36, 37, 38, 39, 40, 41, 42, 43, 44, 45, 46, 47, 48, 49, 50, 51, 52, 53, 54, 55, 56, 57, 58] (by decide +kernel) (by decide +kernel)) (goodIn_sub (fun _ h => List.mem_cons_of_mem _ (List.mem_append_left _ (List.mem_append_right _ h))) (by decide +kernel))) (goodIn_sub (fun _ h => List.mem_cons_of_mem _ (List.mem_append_right _ h)) (by decide +kernel))
set_option maxRecDepth 20000 in
theorem gL_node_X3_node : GoodIn wsL_node (wsV RL 38 RX3 yX3_node wsX3_node) := goodIn_app (goodIn_of _ (by decide +kernel)) ggL_node_X3_node
theorem dL_node_0 : decode cL_node 0 = .ok (.aload_n 3, 1) := by decide +kernel
theorem dL_node_1 : decode cL_node 1 = .ok (.iconst 0, 1) := by decide +kernel
theorem dL_node_2 : decode cL_node 2 = .ok (.aload_n 0, 1) := by decide +kernel
theorem dL_node_3 : decode cL_node 3 = .ok (.iload_n 1, 1) := by decide +kernel
theorem dL_node_4 : decode cL_node 4 = .ok (.iload_n 2, 1) := by decide +kernel
theorem dL_node_5 : decode cL_node 5 = .ok (.invokevirtual 38, 3) := by decide +kernel
theorem dL_node_8 : decode cL_node 8 = .ok (.i2l, 1) := by decide +kernel
theorem dL_node_9 : decode cL_node 9 = .ok (.lastore, 1) := by decide +kernel
theorem dL_node_10 : decode cL_node 10 = .ok (.goto 11, 3) := by decide +kernel
theorem dL_node_13 : decode cL_node 13 = .ok (.astore 4, 2) := by decide +kernel
theorem dL_node_15 : decode cL_node 15 = .ok (.iconst 1, 1) := by decide +kernel
theorem dL_node_16 : decode cL_node 16 = .ok (.ireturn, 1) := by decide +kernel
theorem dL_node_17 : decode cL_node 17 = .ok (.astore 4, 2) := by decide +kernel
theorem dL_node_19 : decode cL_node 19 = .ok (.iconst 2, 1) := by decide +kernel
theorem dL_node_20 : decode cL_node 20 = .ok (.ireturn, 1) := by decide +kernel
theorem dL_node_21 : decode cL_node 21 = .ok (.iconst 0, 1) := by decide +kernel
theorem dL_node_22 : decode cL_node 22 = .ok (.ireturn, 1) := by decide +kernel
set_option maxRecDepth 20000 in
theorem ggL_length_X3_length : GoodIn wsL_length wsX3_length := goodIn_ca (goodIn_r _ [6, 7, 8, 9, 10, 5, 11, 12, 13, 14, 15, 16, 17, 18, 19, 20, 21, 22, 23, 24, 25, 26, 27, 28, 29, 30, 31, 32, 33, 34, 35, 36, 37, 38, 39, 40, 41, 42] (by decide +kernel) (by decide +kernel)) (goodIn_sub (fun _ h => List.mem_cons_of_mem _ (List.mem_append_right _ h)) (by decide +kernel))
