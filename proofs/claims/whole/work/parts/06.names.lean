set_option maxRecDepth 20000 in
theorem gX3_isPlace_X3_isWithin : GoodIn wsX3_isPlace (va_wsS RX3 48 yX3_isWithin wsX3_isWithin) := goodIn_app (goodIn_of _ (by decide +kernel)) ggX3_isPlace_X3_isWithin
theorem dX3_isPlace_0 : decode cX3_isPlace 0 = .ok (.iload_n 0, 1) := by decide +kernel
theorem dX3_isPlace_1 : decode cX3_isPlace 1 = .ok (.iconst 0, 1) := by decide +kernel
theorem dX3_isPlace_2 : decode cX3_isPlace 2 = .ok (.sipush 200, 3) := by decide +kernel
theorem dX3_isPlace_5 : decode cX3_isPlace 5 = .ok (.invokestatic 48, 3) := by decide +kernel
theorem dX3_isPlace_8 : decode cX3_isPlace 8 = .ok (.ifCond .eq 18, 3) := by decide +kernel
theorem dX3_isPlace_11 : decode cX3_isPlace 11 = .ok (.iload_n 1, 1) := by decide +kernel
theorem dX3_isPlace_12 : decode cX3_isPlace 12 = .ok (.iconst 0, 1) := by decide +kernel
theorem dX3_isPlace_13 : decode cX3_isPlace 13 = .ok (.sipush 200, 3) := by decide +kernel
theorem dX3_isPlace_16 : decode cX3_isPlace 16 = .ok (.invokestatic 48, 3) := by decide +kernel
theorem dX3_isPlace_19 : decode cX3_isPlace 19 = .ok (.ifCond .eq 7, 3) := by decide +kernel
theorem dX3_isPlace_22 : decode cX3_isPlace 22 = .ok (.iconst 1, 1) := by decide +kernel
theorem dX3_isPlace_23 : decode cX3_isPlace 23 = .ok (.goto 4, 3) := by decide +kernel
theorem dX3_isPlace_26 : decode cX3_isPlace 26 = .ok (.iconst 0, 1) := by decide +kernel
theorem dX3_isPlace_27 : decode cX3_isPlace 27 = .ok (.ireturn, 1) := by decide +kernel
theorem dX3_isWithin_0 : decode cX3_isWithin 0 = .ok (.iload_n 0, 1) := by decide +kernel
theorem dX3_isWithin_1 : decode cX3_isWithin 1 = .ok (.iload_n 1, 1) := by decide +kernel
theorem dX3_isWithin_2 : decode cX3_isWithin 2 = .ok (.if_icmp .lt 12, 3) := by decide +kernel
theorem dX3_isWithin_5 : decode cX3_isWithin 5 = .ok (.iload_n 0, 1) := by decide +kernel
theorem dX3_isWithin_6 : decode cX3_isWithin 6 = .ok (.iload_n 2, 1) := by decide +kernel
theorem dX3_isWithin_7 : decode cX3_isWithin 7 = .ok (.if_icmp .gt 7, 3) := by decide +kernel
theorem dX3_isWithin_10 : decode cX3_isWithin 10 = .ok (.iconst 1, 1) := by decide +kernel
theorem dX3_isWithin_11 : decode cX3_isWithin 11 = .ok (.goto 4, 3) := by decide +kernel
theorem dX3_isWithin_14 : decode cX3_isWithin 14 = .ok (.iconst 0, 1) := by decide +kernel
theorem dX3_isWithin_15 : decode cX3_isWithin 15 = .ok (.ireturn, 1) := by decide +kernel
theorem dX3_placeU_0 : decode cX3_placeU 0 = .ok (.sipush 1024, 3) := by decide +kernel
theorem dX3_placeU_3 : decode cX3_placeU 3 = .ok (.iload_n 0, 1) := by decide +kernel
theorem dX3_placeU_4 : decode cX3_placeU 4 = .ok (.iload_n 1, 1) := by decide +kernel
theorem dX3_placeU_5 : decode cX3_placeU 5 = .ok (.iadd, 1) := by decide +kernel
theorem dX3_placeU_6 : decode cX3_placeU 6 = .ok (.imul, 1) := by decide +kernel
theorem dX3_placeU_7 : decode cX3_placeU 7 = .ok (.ireturn, 1) := by decide +kernel
theorem dX3_placeV_0 : decode cX3_placeV 0 = .ok (.sipush 1024, 3) := by decide +kernel
theorem dX3_placeV_3 : decode cX3_placeV 3 = .ok (.iload_n 0, 1) := by decide +kernel
theorem dX3_placeV_4 : decode cX3_placeV 4 = .ok (.iload_n 1, 1) := by decide +kernel
theorem dX3_placeV_5 : decode cX3_placeV 5 = .ok (.isub, 1) := by decide +kernel
theorem dX3_placeV_6 : decode cX3_placeV 6 = .ok (.imul, 1) := by decide +kernel
theorem dX3_placeV_7 : decode cX3_placeV 7 = .ok (.ireturn, 1) := by decide +kernel
theorem dX4_init_0 : decode cX4_init 0 = .ok (.aload_n 0, 1) := by decide +kernel
theorem dX4_init_1 : decode cX4_init 1 = .ok (.invokespecial 1, 3) := by decide +kernel
theorem dX4_init_4 : decode cX4_init 4 = .ok (.aload_n 0, 1) := by decide +kernel
theorem dX4_init_5 : decode cX4_init 5 = .ok (.bipush 10, 2) := by decide +kernel
theorem dX4_init_7 : decode cX4_init 7 = .ok (.newarray .int, 2) := by decide +kernel
theorem dX4_init_9 : decode cX4_init 9 = .ok (.putfield 7, 3) := by decide +kernel
theorem dX4_init_12 : decode cX4_init 12 = .ok (.aload_n 0, 1) := by decide +kernel
theorem dX4_init_13 : decode cX4_init 13 = .ok (.bipush 10, 2) := by decide +kernel
theorem dX4_init_15 : decode cX4_init 15 = .ok (.newarray .int, 2) := by decide +kernel
theorem dX4_init_17 : decode cX4_init 17 = .ok (.putfield 13, 3) := by decide +kernel
theorem dX4_init_20 : decode cX4_init 20 = .ok (.aload_n 0, 1) := by decide +kernel
theorem dX4_init_21 : decode cX4_init 21 = .ok (.bipush 10, 2) := by decide +kernel
theorem dX4_init_23 : decode cX4_init 23 = .ok (.newarray .int, 2) := by decide +kernel
theorem dX4_init_25 : decode cX4_init 25 = .ok (.putfield 16, 3) := by decide +kernel
theorem dX4_init_28 : decode cX4_init 28 = .ok (.aload_n 0, 1) := by decide +kernel
theorem dX4_init_29 : decode cX4_init 29 = .ok (.bipush 10, 2) := by decide +kernel
theorem dX4_init_31 : decode cX4_init 31 = .ok (.newarray .int, 2) := by decide +kernel
theorem dX4_init_33 : decode cX4_init 33 = .ok (.putfield 19, 3) := by decide +kernel
theorem dX4_init_36 : decode cX4_init 36 = .ok (.aload_n 0, 1) := by decide +kernel
theorem dX4_init_37 : decode cX4_init 37 = .ok (.iconst 1, 1) := by decide +kernel
theorem dX4_init_38 : decode cX4_init 38 = .ok (.putfield 22, 3) := by decide +kernel
theorem dX4_init_41 : decode cX4_init 41 = .ok (.aload_n 0, 1) := by decide +kernel
theorem dX4_init_42 : decode cX4_init 42 = .ok (.iconst 1, 1) := by decide +kernel
theorem dX4_init_43 : decode cX4_init 43 = .ok (.putfield 26, 3) := by decide +kernel
theorem dX4_init_46 : decode cX4_init 46 = .ok (.aload_n 0, 1) := by decide +kernel
theorem dX4_init_47 : decode cX4_init 47 = .ok (.iconst 1, 1) := by decide +kernel
theorem dX4_init_48 : decode cX4_init 48 = .ok (.putfield 29, 3) := by decide +kernel
theorem dX4_init_51 : decode cX4_init 51 = .ok (.aload_n 0, 1) := by decide +kernel
theorem dX4_init_52 : decode cX4_init 52 = .ok (.iconst 1, 1) := by decide +kernel
theorem dX4_init_53 : decode cX4_init 53 = .ok (.putfield 32, 3) := by decide +kernel
theorem dX4_init_56 : decode cX4_init 56 = .ok (.aload_n 0, 1) := by decide +kernel
theorem dX4_init_57 : decode cX4_init 57 = .ok (.bipush 19, 2) := by decide +kernel
theorem dX4_init_59 : decode cX4_init 59 = .ok (.newarray .int, 2) := by decide +kernel
theorem dX4_init_61 : decode cX4_init 61 = .ok (.putfield 35, 3) := by decide +kernel
theorem dX4_init_64 : decode cX4_init 64 = .ok (.aload_n 0, 1) := by decide +kernel
theorem dX4_init_65 : decode cX4_init 65 = .ok (.bipush 19, 2) := by decide +kernel
theorem dX4_init_67 : decode cX4_init 67 = .ok (.newarray .int, 2) := by decide +kernel
theorem dX4_init_69 : decode cX4_init 69 = .ok (.putfield 38, 3) := by decide +kernel
theorem dX4_init_72 : decode cX4_init 72 = .ok (.aload_n 0, 1) := by decide +kernel
theorem dX4_init_73 : decode cX4_init 73 = .ok (.bipush 19, 2) := by decide +kernel
theorem dX4_init_75 : decode cX4_init 75 = .ok (.newarray .int, 2) := by decide +kernel
theorem dX4_init_77 : decode cX4_init 77 = .ok (.putfield 41, 3) := by decide +kernel
theorem dX4_init_80 : decode cX4_init 80 = .ok (.aload_n 0, 1) := by decide +kernel
theorem dX4_init_81 : decode cX4_init 81 = .ok (.bipush 19, 2) := by decide +kernel
theorem dX4_init_83 : decode cX4_init 83 = .ok (.newarray .int, 2) := by decide +kernel
theorem dX4_init_85 : decode cX4_init 85 = .ok (.putfield 44, 3) := by decide +kernel
theorem dX4_init_88 : decode cX4_init 88 = .ok (.aload_n 0, 1) := by decide +kernel
theorem dX4_init_89 : decode cX4_init 89 = .ok (.bipush 19, 2) := by decide +kernel
theorem dX4_init_91 : decode cX4_init 91 = .ok (.newarray .int, 2) := by decide +kernel
theorem dX4_init_93 : decode cX4_init 93 = .ok (.putfield 47, 3) := by decide +kernel
theorem dX4_init_96 : decode cX4_init 96 = .ok (.aload_n 0, 1) := by decide +kernel
theorem dX4_init_97 : decode cX4_init 97 = .ok (.bipush 19, 2) := by decide +kernel
theorem dX4_init_99 : decode cX4_init 99 = .ok (.newarray .int, 2) := by decide +kernel
theorem dX4_init_101 : decode cX4_init 101 = .ok (.putfield 50, 3) := by decide +kernel
theorem dX4_init_104 : decode cX4_init 104 = .ok (.aload_n 0, 1) := by decide +kernel
theorem dX4_init_105 : decode cX4_init 105 = .ok (.bipush 19, 2) := by decide +kernel
theorem dX4_init_107 : decode cX4_init 107 = .ok (.newarray .int, 2) := by decide +kernel
theorem dX4_init_109 : decode cX4_init 109 = .ok (.putfield 53, 3) := by decide +kernel
theorem dX4_init_112 : decode cX4_init 112 = .ok (.aload_n 0, 1) := by decide +kernel
theorem dX4_init_113 : decode cX4_init 113 = .ok (.bipush 19, 2) := by decide +kernel
theorem dX4_init_115 : decode cX4_init 115 = .ok (.newarray .int, 2) := by decide +kernel
theorem dX4_init_117 : decode cX4_init 117 = .ok (.putfield 56, 3) := by decide +kernel
theorem dX4_init_120 : decode cX4_init 120 = .ok (.aload_n 0, 1) := by decide +kernel
theorem dX4_init_121 : decode cX4_init 121 = .ok (.bipush 19, 2) := by decide +kernel
theorem dX4_init_123 : decode cX4_init 123 = .ok (.newarray .int, 2) := by decide +kernel
theorem dX4_init_125 : decode cX4_init 125 = .ok (.putfield 59, 3) := by decide +kernel
theorem dX4_init_128 : decode cX4_init 128 = .ok (.aload_n 0, 1) := by decide +kernel
theorem dX4_init_129 : decode cX4_init 129 = .ok (.bipush 19, 2) := by decide +kernel
theorem dX4_init_131 : decode cX4_init 131 = .ok (.newarray .int, 2) := by decide +kernel
theorem dX4_init_133 : decode cX4_init 133 = .ok (.putfield 62, 3) := by decide +kernel
theorem dX4_init_136 : decode cX4_init 136 = .ok (.aload_n 0, 1) := by decide +kernel
theorem dX4_init_137 : decode cX4_init 137 = .ok (.bipush 19, 2) := by decide +kernel
theorem dX4_init_139 : decode cX4_init 139 = .ok (.newarray .int, 2) := by decide +kernel
theorem dX4_init_141 : decode cX4_init 141 = .ok (.putfield 65, 3) := by decide +kernel
theorem dX4_init_144 : decode cX4_init 144 = .ok (.aload_n 0, 1) := by decide +kernel
theorem dX4_init_145 : decode cX4_init 145 = .ok (.bipush 19, 2) := by decide +kernel
theorem dX4_init_147 : decode cX4_init 147 = .ok (.newarray .boolean, 2) := by decide +kernel
theorem dX4_init_149 : decode cX4_init 149 = .ok (.putfield 68, 3) := by decide +kernel
theorem dX4_init_152 : decode cX4_init 152 = .ok (.aload_n 0, 1) := by decide +kernel
theorem dX4_init_153 : decode cX4_init 153 = .ok (.bipush 19, 2) := by decide +kernel
theorem dX4_init_155 : decode cX4_init 155 = .ok (.newarray .boolean, 2) := by decide +kernel
theorem dX4_init_157 : decode cX4_init 157 = .ok (.putfield 72, 3) := by decide +kernel
theorem dX4_init_160 : decode cX4_init 160 = .ok (.aload_n 0, 1) := by decide +kernel
theorem dX4_init_161 : decode cX4_init 161 = .ok (.bipush 10, 2) := by decide +kernel
theorem dX4_init_163 : decode cX4_init 163 = .ok (.newarray .int, 2) := by decide +kernel
theorem dX4_init_165 : decode cX4_init 165 = .ok (.putfield 75, 3) := by decide +kernel
theorem dX4_init_168 : decode cX4_init 168 = .ok (.aload_n 0, 1) := by decide +kernel
theorem dX4_init_169 : decode cX4_init 169 = .ok (.bipush 12, 2) := by decide +kernel
theorem dX4_init_171 : decode cX4_init 171 = .ok (.newarray .int, 2) := by decide +kernel
theorem dX4_init_173 : decode cX4_init 173 = .ok (.putfield 78, 3) := by decide +kernel
theorem dX4_init_176 : decode cX4_init 176 = .ok (.aload_n 0, 1) := by decide +kernel
theorem dX4_init_177 : decode cX4_init 177 = .ok (.bipush 12, 2) := by decide +kernel
theorem dX4_init_179 : decode cX4_init 179 = .ok (.newarray .int, 2) := by decide +kernel
theorem dX4_init_181 : decode cX4_init 181 = .ok (.putfield 81, 3) := by decide +kernel
theorem dX4_init_184 : decode cX4_init 184 = .ok (.aload_n 0, 1) := by decide +kernel
theorem dX4_init_185 : decode cX4_init 185 = .ok (.bipush 12, 2) := by decide +kernel
theorem dX4_init_187 : decode cX4_init 187 = .ok (.newarray .int, 2) := by decide +kernel
theorem dX4_init_189 : decode cX4_init 189 = .ok (.putfield 84, 3) := by decide +kernel
theorem dX4_init_192 : decode cX4_init 192 = .ok (.aload_n 0, 1) := by decide +kernel
theorem dX4_init_193 : decode cX4_init 193 = .ok (.bipush 12, 2) := by decide +kernel
theorem dX4_init_195 : decode cX4_init 195 = .ok (.newarray .int, 2) := by decide +kernel
theorem dX4_init_197 : decode cX4_init 197 = .ok (.putfield 87, 3) := by decide +kernel
theorem dX4_init_200 : decode cX4_init 200 = .ok (.aload_n 0, 1) := by decide +kernel
theorem dX4_init_201 : decode cX4_init 201 = .ok (.bipush 12, 2) := by decide +kernel
theorem dX4_init_203 : decode cX4_init 203 = .ok (.newarray .int, 2) := by decide +kernel
theorem dX4_init_205 : decode cX4_init 205 = .ok (.putfield 90, 3) := by decide +kernel
theorem dX4_init_208 : decode cX4_init 208 = .ok (.aload_n 0, 1) := by decide +kernel
theorem dX4_init_209 : decode cX4_init 209 = .ok (.bipush 19, 2) := by decide +kernel
theorem dX4_init_211 : decode cX4_init 211 = .ok (.newarray .long, 2) := by decide +kernel
theorem dX4_init_213 : decode cX4_init 213 = .ok (.putfield 93, 3) := by decide +kernel
theorem dX4_init_216 : decode cX4_init 216 = .ok (.aload_n 0, 1) := by decide +kernel
theorem dX4_init_217 : decode cX4_init 217 = .ok (.bipush 19, 2) := by decide +kernel
theorem dX4_init_219 : decode cX4_init 219 = .ok (.newarray .long, 2) := by decide +kernel
theorem dX4_init_221 : decode cX4_init 221 = .ok (.putfield 97, 3) := by decide +kernel
theorem dX4_init_224 : decode cX4_init 224 = .ok (.return_, 1) := by decide +kernel
theorem dX4_thrown_0 : decode cX4_thrown 0 = .ok (.aload_n 0, 1) := by decide +kernel
theorem dX4_thrown_1 : decode cX4_thrown 1 = .ok (.getfield 100, 3) := by decide +kernel
theorem dX4_thrown_4 : decode cX4_thrown 4 = .ok (.ireturn, 1) := by decide +kernel
theorem dX4_isPlace_0 : decode cX4_isPlace 0 = .ok (.iload_n 0, 1) := by decide +kernel
theorem dX4_isPlace_1 : decode cX4_isPlace 1 = .ok (.ifCond .lt 14, 3) := by decide +kernel
theorem dX4_isPlace_4 : decode cX4_isPlace 4 = .ok (.iload_n 0, 1) := by decide +kernel
theorem dX4_isPlace_5 : decode cX4_isPlace 5 = .ok (.sipush 200, 3) := by decide +kernel
theorem dX4_isPlace_8 : decode cX4_isPlace 8 = .ok (.if_icmp .gt 7, 3) := by decide +kernel
theorem dX4_isPlace_11 : decode cX4_isPlace 11 = .ok (.iconst 1, 1) := by decide +kernel
theorem dX4_isPlace_12 : decode cX4_isPlace 12 = .ok (.goto 4, 3) := by decide +kernel
theorem dX4_isPlace_15 : decode cX4_isPlace 15 = .ok (.iconst 0, 1) := by decide +kernel
theorem dX4_isPlace_16 : decode cX4_isPlace 16 = .ok (.ireturn, 1) := by decide +kernel
theorem dX4_within_0 : decode cX4_within 0 = .ok (.iload_n 0, 1) := by decide +kernel
theorem dX4_within_1 : decode cX4_within 1 = .ok (.iload_n 1, 1) := by decide +kernel
theorem dX4_within_2 : decode cX4_within 2 = .ok (.if_icmp .lt 12, 3) := by decide +kernel
theorem dX4_within_5 : decode cX4_within 5 = .ok (.iload_n 0, 1) := by decide +kernel
theorem dX4_within_6 : decode cX4_within 6 = .ok (.iload_n 2, 1) := by decide +kernel
theorem dX4_within_7 : decode cX4_within 7 = .ok (.if_icmp .gt 7, 3) := by decide +kernel
theorem dX4_within_10 : decode cX4_within 10 = .ok (.iconst 1, 1) := by decide +kernel
theorem dX4_within_11 : decode cX4_within 11 = .ok (.goto 4, 3) := by decide +kernel
theorem dX4_within_14 : decode cX4_within 14 = .ok (.iconst 0, 1) := by decide +kernel
theorem dX4_within_15 : decode cX4_within 15 = .ok (.ireturn, 1) := by decide +kernel
set_option maxRecDepth 20000 in
theorem ggX4_sink_X4_isPlace : GoodIn wsX4_sink wsX4_isPlace := goodIn_r _ [12] (by decide +kernel) (by decide +kernel)
set_option maxRecDepth 20000 in
theorem gX4_sink_X4_isPlace : GoodIn wsX4_sink (va_wsS RX4 103 yX4_isPlace wsX4_isPlace) := goodIn_app (goodIn_of _ (by decide +kernel)) ggX4_sink_X4_isPlace
set_option maxRecDepth 20000 in
theorem ggX4_sink_X4_within : GoodIn wsX4_sink wsX4_within := goodIn_r _ [15] (by decide +kernel) (by decide +kernel)
set_option maxRecDepth 20000 in
theorem gX4_sink_X4_within : GoodIn wsX4_sink (va_wsS RX4 107 yX4_within wsX4_within) := goodIn_app (goodIn_of _ (by decide +kernel)) ggX4_sink_X4_within
theorem dX4_sink_0 : decode cX4_sink 0 = .ok (.aload_n 0, 1) := by decide +kernel
theorem dX4_sink_1 : decode cX4_sink 1 = .ok (.iload_n 1, 1) := by decide +kernel
theorem dX4_sink_2 : decode cX4_sink 2 = .ok (.invokestatic 103, 3) := by decide +kernel
theorem dX4_sink_5 : decode cX4_sink 5 = .ok (.ifCond .eq 31, 3) := by decide +kernel
theorem dX4_sink_8 : decode cX4_sink 8 = .ok (.iload_n 2, 1) := by decide +kernel
theorem dX4_sink_9 : decode cX4_sink 9 = .ok (.invokestatic 103, 3) := by decide +kernel
theorem dX4_sink_12 : decode cX4_sink 12 = .ok (.ifCond .eq 24, 3) := by decide +kernel
theorem dX4_sink_15 : decode cX4_sink 15 = .ok (.iload_n 3, 1) := by decide +kernel
theorem dX4_sink_16 : decode cX4_sink 16 = .ok (.iconst 1, 1) := by decide +kernel
theorem dX4_sink_17 : decode cX4_sink 17 = .ok (.bipush 100, 2) := by decide +kernel
theorem dX4_sink_19 : decode cX4_sink 19 = .ok (.invokestatic 107, 3) := by decide +kernel
theorem dX4_sink_22 : decode cX4_sink 22 = .ok (.ifCond .eq 14, 3) := by decide +kernel
theorem dX4_sink_25 : decode cX4_sink 25 = .ok (.iload 4, 2) := by decide +kernel
theorem dX4_sink_27 : decode cX4_sink 27 = .ok (.iconst 0, 1) := by decide +kernel
theorem dX4_sink_28 : decode cX4_sink 28 = .ok (.ldc 111, 2) := by decide +kernel
theorem dX4_sink_30 : decode cX4_sink 30 = .ok (.invokestatic 107, 3) := by decide +kernel
theorem dX4_sink_33 : decode cX4_sink 33 = .ok (.ifCond .ne 7, 3) := by decide +kernel
theorem dX4_sink_36 : decode cX4_sink 36 = .ok (.iconst 1, 1) := by decide +kernel
theorem dX4_sink_37 : decode cX4_sink 37 = .ok (.goto 17, 3) := by decide +kernel
theorem dX4_sink_40 : decode cX4_sink 40 = .ok (.aload_n 0, 1) := by decide +kernel
theorem dX4_sink_41 : decode cX4_sink 41 = .ok (.getfield 112, 3) := by decide +kernel
theorem dX4_sink_44 : decode cX4_sink 44 = .ok (.bipush 10, 2) := by decide +kernel
theorem dX4_sink_46 : decode cX4_sink 46 = .ok (.if_icmp .ne 7, 3) := by decide +kernel
theorem dX4_sink_49 : decode cX4_sink 49 = .ok (.iconst 2, 1) := by decide +kernel
theorem dX4_sink_50 : decode cX4_sink 50 = .ok (.goto 4, 3) := by decide +kernel
theorem dX4_sink_53 : decode cX4_sink 53 = .ok (.iconst 0, 1) := by decide +kernel
theorem dX4_sink_54 : decode cX4_sink 54 = .ok (.putfield 100, 3) := by decide +kernel
theorem dX4_sink_57 : decode cX4_sink 57 = .ok (.aload_n 0, 1) := by decide +kernel
theorem dX4_sink_58 : decode cX4_sink 58 = .ok (.getfield 100, 3) := by decide +kernel
theorem dX4_sink_61 : decode cX4_sink 61 = .ok (.ifCond .le 5, 3) := by decide +kernel
theorem dX4_sink_64 : decode cX4_sink 64 = .ok (.iconst 0, 1) := by decide +kernel
theorem dX4_sink_65 : decode cX4_sink 65 = .ok (.ireturn, 1) := by decide +kernel
theorem dX4_sink_66 : decode cX4_sink 66 = .ok (.aload_n 0, 1) := by decide +kernel
theorem dX4_sink_67 : decode cX4_sink 67 = .ok (.getfield 7, 3) := by decide +kernel
theorem dX4_sink_70 : decode cX4_sink 70 = .ok (.aload_n 0, 1) := by decide +kernel
theorem dX4_sink_71 : decode cX4_sink 71 = .ok (.getfield 112, 3) := by decide +kernel
theorem dX4_sink_74 : decode cX4_sink 74 = .ok (.iload_n 1, 1) := by decide +kernel
theorem dX4_sink_75 : decode cX4_sink 75 = .ok (.iastore, 1) := by decide +kernel
theorem dX4_sink_76 : decode cX4_sink 76 = .ok (.aload_n 0, 1) := by decide +kernel
theorem dX4_sink_77 : decode cX4_sink 77 = .ok (.getfield 13, 3) := by decide +kernel
theorem dX4_sink_80 : decode cX4_sink 80 = .ok (.aload_n 0, 1) := by decide +kernel
theorem dX4_sink_81 : decode cX4_sink 81 = .ok (.getfield 112, 3) := by decide +kernel
theorem dX4_sink_84 : decode cX4_sink 84 = .ok (.iload_n 2, 1) := by decide +kernel
theorem dX4_sink_85 : decode cX4_sink 85 = .ok (.iastore, 1) := by decide +kernel
theorem dX4_sink_86 : decode cX4_sink 86 = .ok (.aload_n 0, 1) := by decide +kernel
theorem dX4_sink_87 : decode cX4_sink 87 = .ok (.getfield 16, 3) := by decide +kernel
theorem dX4_sink_90 : decode cX4_sink 90 = .ok (.aload_n 0, 1) := by decide +kernel
theorem dX4_sink_91 : decode cX4_sink 91 = .ok (.getfield 112, 3) := by decide +kernel
theorem dX4_sink_94 : decode cX4_sink 94 = .ok (.iload_n 3, 1) := by decide +kernel
theorem dX4_sink_95 : decode cX4_sink 95 = .ok (.iastore, 1) := by decide +kernel
theorem dX4_sink_96 : decode cX4_sink 96 = .ok (.aload_n 0, 1) := by decide +kernel
theorem dX4_sink_97 : decode cX4_sink 97 = .ok (.getfield 19, 3) := by decide +kernel
theorem dX4_sink_100 : decode cX4_sink 100 = .ok (.aload_n 0, 1) := by decide +kernel
theorem dX4_sink_101 : decode cX4_sink 101 = .ok (.getfield 112, 3) := by decide +kernel
theorem dX4_sink_104 : decode cX4_sink 104 = .ok (.iload 4, 2) := by decide +kernel
theorem dX4_sink_106 : decode cX4_sink 106 = .ok (.iastore, 1) := by decide +kernel
theorem dX4_sink_107 : decode cX4_sink 107 = .ok (.aload_n 0, 1) := by decide +kernel
theorem dX4_sink_108 : decode cX4_sink 108 = .ok (.dup, 1) := by decide +kernel
theorem dX4_sink_109 : decode cX4_sink 109 = .ok (.getfield 112, 3) := by decide +kernel
theorem dX4_sink_112 : decode cX4_sink 112 = .ok (.iconst 1, 1) := by decide +kernel
theorem dX4_sink_113 : decode cX4_sink 113 = .ok (.iadd, 1) := by decide +kernel
theorem dX4_sink_114 : decode cX4_sink 114 = .ok (.putfield 112, 3) := by decide +kernel
theorem dX4_sink_117 : decode cX4_sink 117 = .ok (.aload_n 0, 1) := by decide +kernel
theorem dX4_sink_118 : decode cX4_sink 118 = .ok (.iconst 0, 1) := by decide +kernel
theorem dX4_sink_119 : decode cX4_sink 119 = .ok (.putfield 115, 3) := by decide +kernel
theorem dX4_sink_122 : decode cX4_sink 122 = .ok (.aload_n 0, 1) := by decide +kernel
theorem dX4_sink_123 : decode cX4_sink 123 = .ok (.getfield 112, 3) := by decide +kernel
theorem dX4_sink_126 : decode cX4_sink 126 = .ok (.iconst 1, 1) := by decide +kernel
theorem dX4_sink_127 : decode cX4_sink 127 = .ok (.isub, 1) := by decide +kernel
theorem dX4_sink_128 : decode cX4_sink 128 = .ok (.ireturn, 1) := by decide +kernel
set_option maxRecDepth 20000 in
theorem ggX4_cut_X4_within : GoodIn wsX4_cut wsX4_within := goodIn_r _ [7] (by decide +kernel) (by decide +kernel)
set_option maxRecDepth 20000 in
theorem gX4_cut_X4_within : GoodIn wsX4_cut (va_wsS RX4 107 yX4_within wsX4_within) := goodIn_app (goodIn_of _ (by decide +kernel)) ggX4_cut_X4_within
theorem dX4_cut_0 : decode cX4_cut 0 = .ok (.aload_n 0, 1) := by decide +kernel
theorem dX4_cut_1 : decode cX4_cut 1 = .ok (.iload_n 1, 1) := by decide +kernel
theorem dX4_cut_2 : decode cX4_cut 2 = .ok (.iconst 0, 1) := by decide +kernel
theorem dX4_cut_3 : decode cX4_cut 3 = .ok (.aload_n 0, 1) := by decide +kernel
theorem dX4_cut_4 : decode cX4_cut 4 = .ok (.getfield 112, 3) := by decide +kernel
theorem dX4_cut_7 : decode cX4_cut 7 = .ok (.invokestatic 107, 3) := by decide +kernel
theorem dX4_cut_10 : decode cX4_cut 10 = .ok (.ifCond .eq 7, 3) := by decide +kernel
theorem dX4_cut_13 : decode cX4_cut 13 = .ok (.iconst 0, 1) := by decide +kernel
theorem dX4_cut_14 : decode cX4_cut 14 = .ok (.goto 4, 3) := by decide +kernel
theorem dX4_cut_17 : decode cX4_cut 17 = .ok (.iconst 1, 1) := by decide +kernel
theorem dX4_cut_18 : decode cX4_cut 18 = .ok (.putfield 100, 3) := by decide +kernel
theorem dX4_cut_21 : decode cX4_cut 21 = .ok (.aload_n 0, 1) := by decide +kernel
theorem dX4_cut_22 : decode cX4_cut 22 = .ok (.getfield 100, 3) := by decide +kernel
theorem dX4_cut_25 : decode cX4_cut 25 = .ok (.ifCond .ne 13, 3) := by decide +kernel
theorem dX4_cut_28 : decode cX4_cut 28 = .ok (.aload_n 0, 1) := by decide +kernel
theorem dX4_cut_29 : decode cX4_cut 29 = .ok (.iload_n 1, 1) := by decide +kernel
theorem dX4_cut_30 : decode cX4_cut 30 = .ok (.putfield 112, 3) := by decide +kernel
theorem dX4_cut_33 : decode cX4_cut 33 = .ok (.aload_n 0, 1) := by decide +kernel
theorem dX4_cut_34 : decode cX4_cut 34 = .ok (.iconst 0, 1) := by decide +kernel
theorem dX4_cut_35 : decode cX4_cut 35 = .ok (.putfield 115, 3) := by decide +kernel
theorem dX4_cut_38 : decode cX4_cut 38 = .ok (.return_, 1) := by decide +kernel
set_option maxRecDepth 20000 in
theorem ggX4_source_X4_isPlace : GoodIn wsX4_source wsX4_isPlace := goodIn_r _ [8] (by decide +kernel) (by decide +kernel)
set_option maxRecDepth 20000 in
theorem gX4_source_X4_isPlace : GoodIn wsX4_source (va_wsS RX4 103 yX4_isPlace wsX4_isPlace) := goodIn_app (goodIn_of _ (by decide +kernel)) ggX4_source_X4_isPlace
theorem dX4_source_0 : decode cX4_source 0 = .ok (.aload_n 0, 1) := by decide +kernel
theorem dX4_source_1 : decode cX4_source 1 = .ok (.iload_n 1, 1) := by decide +kernel
theorem dX4_source_2 : decode cX4_source 2 = .ok (.invokestatic 103, 3) := by decide +kernel
theorem dX4_source_5 : decode cX4_source 5 = .ok (.ifCond .eq 14, 3) := by decide +kernel
theorem dX4_source_8 : decode cX4_source 8 = .ok (.iload_n 2, 1) := by decide +kernel
theorem dX4_source_9 : decode cX4_source 9 = .ok (.invokestatic 103, 3) := by decide +kernel
theorem dX4_source_12 : decode cX4_source 12 = .ok (.ifCond .eq 7, 3) := by decide +kernel
theorem dX4_source_15 : decode cX4_source 15 = .ok (.iconst 0, 1) := by decide +kernel
theorem dX4_source_16 : decode cX4_source 16 = .ok (.goto 4, 3) := by decide +kernel
theorem dX4_source_19 : decode cX4_source 19 = .ok (.iconst 1, 1) := by decide +kernel
theorem dX4_source_20 : decode cX4_source 20 = .ok (.putfield 100, 3) := by decide +kernel
theorem dX4_source_23 : decode cX4_source 23 = .ok (.aload_n 0, 1) := by decide +kernel
theorem dX4_source_24 : decode cX4_source 24 = .ok (.getfield 100, 3) := by decide +kernel
theorem dX4_source_27 : decode cX4_source 27 = .ok (.ifCond .ne 18, 3) := by decide +kernel
theorem dX4_source_30 : decode cX4_source 30 = .ok (.aload_n 0, 1) := by decide +kernel
theorem dX4_source_31 : decode cX4_source 31 = .ok (.iload_n 1, 1) := by decide +kernel
theorem dX4_source_32 : decode cX4_source 32 = .ok (.putfield 119, 3) := by decide +kernel
theorem dX4_source_35 : decode cX4_source 35 = .ok (.aload_n 0, 1) := by decide +kernel
theorem dX4_source_36 : decode cX4_source 36 = .ok (.iload_n 2, 1) := by decide +kernel
theorem dX4_source_37 : decode cX4_source 37 = .ok (.putfield 122, 3) := by decide +kernel
theorem dX4_source_40 : decode cX4_source 40 = .ok (.aload_n 0, 1) := by decide +kernel
theorem dX4_source_41 : decode cX4_source 41 = .ok (.iconst 0, 1) := by decide +kernel
theorem dX4_source_42 : decode cX4_source 42 = .ok (.putfield 115, 3) := by decide +kernel
theorem dX4_source_45 : decode cX4_source 45 = .ok (.return_, 1) := by decide +kernel
set_option maxRecDepth 20000 in
theorem ggX4_wires_X4_within : GoodIn wsX4_wires wsX4_within := goodIn_r _ [7] (by decide +kernel) (by decide +kernel)
set_option maxRecDepth 20000 in
theorem gX4_wires_X4_within : GoodIn wsX4_wires (va_wsS RX4 107 yX4_within wsX4_within) := goodIn_app (goodIn_of _ (by decide +kernel)) ggX4_wires_X4_within
theorem dX4_wires_0 : decode cX4_wires 0 = .ok (.aload_n 0, 1) := by decide +kernel
theorem dX4_wires_1 : decode cX4_wires 1 = .ok (.iload_n 1, 1) := by decide +kernel
theorem dX4_wires_2 : decode cX4_wires 2 = .ok (.iconst 1, 1) := by decide +kernel
theorem dX4_wires_3 : decode cX4_wires 3 = .ok (.bipush 20, 2) := by decide +kernel
theorem dX4_wires_5 : decode cX4_wires 5 = .ok (.invokestatic 107, 3) := by decide +kernel
theorem dX4_wires_8 : decode cX4_wires 8 = .ok (.ifCond .eq 17, 3) := by decide +kernel
theorem dX4_wires_11 : decode cX4_wires 11 = .ok (.iload_n 2, 1) := by decide +kernel
theorem dX4_wires_12 : decode cX4_wires 12 = .ok (.iconst 1, 1) := by decide +kernel
theorem dX4_wires_13 : decode cX4_wires 13 = .ok (.bipush 20, 2) := by decide +kernel
theorem dX4_wires_15 : decode cX4_wires 15 = .ok (.invokestatic 107, 3) := by decide +kernel
theorem dX4_wires_18 : decode cX4_wires 18 = .ok (.ifCond .eq 7, 3) := by decide +kernel
theorem dX4_wires_21 : decode cX4_wires 21 = .ok (.iconst 0, 1) := by decide +kernel
theorem dX4_wires_22 : decode cX4_wires 22 = .ok (.goto 4, 3) := by decide +kernel
theorem dX4_wires_25 : decode cX4_wires 25 = .ok (.iconst 1, 1) := by decide +kernel
theorem dX4_wires_26 : decode cX4_wires 26 = .ok (.putfield 100, 3) := by decide +kernel
theorem dX4_wires_29 : decode cX4_wires 29 = .ok (.aload_n 0, 1) := by decide +kernel
theorem dX4_wires_30 : decode cX4_wires 30 = .ok (.getfield 100, 3) := by decide +kernel
theorem dX4_wires_33 : decode cX4_wires 33 = .ok (.ifCond .ne 13, 3) := by decide +kernel
theorem dX4_wires_36 : decode cX4_wires 36 = .ok (.aload_n 0, 1) := by decide +kernel
theorem dX4_wires_37 : decode cX4_wires 37 = .ok (.iload_n 1, 1) := by decide +kernel
theorem dX4_wires_38 : decode cX4_wires 38 = .ok (.putfield 22, 3) := by decide +kernel
theorem dX4_wires_41 : decode cX4_wires 41 = .ok (.aload_n 0, 1) := by decide +kernel
theorem dX4_wires_42 : decode cX4_wires 42 = .ok (.iload_n 2, 1) := by decide +kernel
theorem dX4_wires_43 : decode cX4_wires 43 = .ok (.putfield 26, 3) := by decide +kernel
theorem dX4_wires_46 : decode cX4_wires 46 = .ok (.return_, 1) := by decide +kernel
set_option maxRecDepth 20000 in
theorem ggX4_buffer_X4_within : GoodIn wsX4_buffer wsX4_within := goodIn_r _ [10] (by decide +kernel) (by decide +kernel)
set_option maxRecDepth 20000 in
theorem gX4_buffer_X4_within : GoodIn wsX4_buffer (va_wsS RX4 107 yX4_within wsX4_within) := goodIn_app (goodIn_of _ (by decide +kernel)) ggX4_buffer_X4_within
theorem dX4_buffer_0 : decode cX4_buffer 0 = .ok (.aload_n 0, 1) := by decide +kernel
theorem dX4_buffer_1 : decode cX4_buffer 1 = .ok (.iload_n 1, 1) := by decide +kernel
theorem dX4_buffer_2 : decode cX4_buffer 2 = .ok (.iconst 1, 1) := by decide +kernel
theorem dX4_buffer_3 : decode cX4_buffer 3 = .ok (.ldc 125, 2) := by decide +kernel
theorem dX4_buffer_5 : decode cX4_buffer 5 = .ok (.invokestatic 107, 3) := by decide +kernel
theorem dX4_buffer_8 : decode cX4_buffer 8 = .ok (.ifCond .eq 28, 3) := by decide +kernel
theorem dX4_buffer_11 : decode cX4_buffer 11 = .ok (.iload_n 2, 1) := by decide +kernel
theorem dX4_buffer_12 : decode cX4_buffer 12 = .ok (.iconst 1, 1) := by decide +kernel
theorem dX4_buffer_13 : decode cX4_buffer 13 = .ok (.sipush 1000, 3) := by decide +kernel
theorem dX4_buffer_16 : decode cX4_buffer 16 = .ok (.invokestatic 107, 3) := by decide +kernel
theorem dX4_buffer_19 : decode cX4_buffer 19 = .ok (.ifCond .eq 17, 3) := by decide +kernel
theorem dX4_buffer_22 : decode cX4_buffer 22 = .ok (.iload_n 3, 1) := by decide +kernel
theorem dX4_buffer_23 : decode cX4_buffer 23 = .ok (.iconst 0, 1) := by decide +kernel
theorem dX4_buffer_24 : decode cX4_buffer 24 = .ok (.ldc 111, 2) := by decide +kernel
theorem dX4_buffer_26 : decode cX4_buffer 26 = .ok (.invokestatic 107, 3) := by decide +kernel
theorem dX4_buffer_29 : decode cX4_buffer 29 = .ok (.ifCond .eq 7, 3) := by decide +kernel
theorem dX4_buffer_32 : decode cX4_buffer 32 = .ok (.iconst 0, 1) := by decide +kernel
theorem dX4_buffer_33 : decode cX4_buffer 33 = .ok (.goto 4, 3) := by decide +kernel
theorem dX4_buffer_36 : decode cX4_buffer 36 = .ok (.iconst 1, 1) := by decide +kernel
theorem dX4_buffer_37 : decode cX4_buffer 37 = .ok (.putfield 100, 3) := by decide +kernel
theorem dX4_buffer_40 : decode cX4_buffer 40 = .ok (.aload_n 0, 1) := by decide +kernel
theorem dX4_buffer_41 : decode cX4_buffer 41 = .ok (.getfield 100, 3) := by decide +kernel
theorem dX4_buffer_44 : decode cX4_buffer 44 = .ok (.ifCond .ne 18, 3) := by decide +kernel
theorem dX4_buffer_47 : decode cX4_buffer 47 = .ok (.aload_n 0, 1) := by decide +kernel
theorem dX4_buffer_48 : decode cX4_buffer 48 = .ok (.iload_n 1, 1) := by decide +kernel
theorem dX4_buffer_49 : decode cX4_buffer 49 = .ok (.putfield 29, 3) := by decide +kernel
theorem dX4_buffer_52 : decode cX4_buffer 52 = .ok (.aload_n 0, 1) := by decide +kernel
theorem dX4_buffer_53 : decode cX4_buffer 53 = .ok (.iload_n 2, 1) := by decide +kernel
theorem dX4_buffer_54 : decode cX4_buffer 54 = .ok (.putfield 32, 3) := by decide +kernel
theorem dX4_buffer_57 : decode cX4_buffer 57 = .ok (.aload_n 0, 1) := by decide +kernel
theorem dX4_buffer_58 : decode cX4_buffer 58 = .ok (.iload_n 3, 1) := by decide +kernel
theorem dX4_buffer_59 : decode cX4_buffer 59 = .ok (.putfield 126, 3) := by decide +kernel
theorem dX4_buffer_62 : decode cX4_buffer 62 = .ok (.return_, 1) := by decide +kernel
theorem dX4_sinks_0 : decode cX4_sinks 0 = .ok (.aload_n 0, 1) := by decide +kernel
theorem dX4_sinks_1 : decode cX4_sinks 1 = .ok (.iconst 0, 1) := by decide +kernel
theorem dX4_sinks_2 : decode cX4_sinks 2 = .ok (.putfield 100, 3) := by decide +kernel
theorem dX4_sinks_5 : decode cX4_sinks 5 = .ok (.aload_n 0, 1) := by decide +kernel
theorem dX4_sinks_6 : decode cX4_sinks 6 = .ok (.getfield 112, 3) := by decide +kernel
theorem dX4_sinks_9 : decode cX4_sinks 9 = .ok (.ireturn, 1) := by decide +kernel
theorem dX4_greater_0 : decode cX4_greater 0 = .ok (.iload_n 0, 1) := by decide +kernel
theorem dX4_greater_1 : decode cX4_greater 1 = .ok (.iload_n 1, 1) := by decide +kernel
theorem dX4_greater_2 : decode cX4_greater 2 = .ok (.if_icmp .ge 7, 3) := by decide +kernel
theorem dX4_greater_5 : decode cX4_greater 5 = .ok (.iload_n 1, 1) := by decide +kernel
theorem dX4_greater_6 : decode cX4_greater 6 = .ok (.goto 4, 3) := by decide +kernel
theorem dX4_greater_9 : decode cX4_greater 9 = .ok (.iload_n 0, 1) := by decide +kernel
theorem dX4_greater_10 : decode cX4_greater 10 = .ok (.ireturn, 1) := by decide +kernel
theorem dX4_lesser_0 : decode cX4_lesser 0 = .ok (.iload_n 0, 1) := by decide +kernel
theorem dX4_lesser_1 : decode cX4_lesser 1 = .ok (.iload_n 1, 1) := by decide +kernel
theorem dX4_lesser_2 : decode cX4_lesser 2 = .ok (.if_icmp .ge 7, 3) := by decide +kernel
theorem dX4_lesser_5 : decode cX4_lesser 5 = .ok (.iload_n 0, 1) := by decide +kernel
theorem dX4_lesser_6 : decode cX4_lesser 6 = .ok (.goto 4, 3) := by decide +kernel
theorem dX4_lesser_9 : decode cX4_lesser 9 = .ok (.iload_n 1, 1) := by decide +kernel
theorem dX4_lesser_10 : decode cX4_lesser 10 = .ok (.ireturn, 1) := by decide +kernel
set_option maxRecDepth 20000 in
theorem ggX4_gap_X4_greater : GoodIn wsX4_gap wsX4_greater := goodIn_r _ [4] (by decide +kernel) (by decide +kernel)
set_option maxRecDepth 20000 in
theorem gX4_gap_X4_greater : GoodIn wsX4_gap (va_wsS RX4 129 yX4_greater wsX4_greater) := goodIn_app (goodIn_of _ (by decide +kernel)) ggX4_gap_X4_greater
theorem dX4_gap_0 : decode cX4_gap 0 = .ok (.iconst 0, 1) := by decide +kernel
theorem dX4_gap_1 : decode cX4_gap 1 = .ok (.iload_n 0, 1) := by decide +kernel
theorem dX4_gap_2 : decode cX4_gap 2 = .ok (.iload_n 3, 1) := by decide +kernel
theorem dX4_gap_3 : decode cX4_gap 3 = .ok (.isub, 1) := by decide +kernel
theorem dX4_gap_4 : decode cX4_gap 4 = .ok (.iload_n 2, 1) := by decide +kernel
theorem dX4_gap_5 : decode cX4_gap 5 = .ok (.iload_n 1, 1) := by decide +kernel
theorem dX4_gap_6 : decode cX4_gap 6 = .ok (.isub, 1) := by decide +kernel
theorem dX4_gap_7 : decode cX4_gap 7 = .ok (.invokestatic 129, 3) := by decide +kernel
theorem dX4_gap_10 : decode cX4_gap 10 = .ok (.invokestatic 129, 3) := by decide +kernel
theorem dX4_gap_13 : decode cX4_gap 13 = .ok (.ireturn, 1) := by decide +kernel
set_option maxRecDepth 20000 in
theorem ggX4_distance_X4_gap : GoodIn wsX4_distance wsX4_gap := goodIn_r _ [8, 9, 10, 7, 11] (by decide +kernel) (by decide +kernel)
set_option maxRecDepth 20000 in
theorem gX4_distance_X4_gap : GoodIn wsX4_distance (va_wsS RX4 133 yX4_gap wsX4_gap) := goodIn_app (goodIn_of _ (by decide +kernel)) ggX4_distance_X4_gap
set_option maxRecDepth 20000 in
theorem ggX4_distance_X4_greater : GoodIn wsX4_distance wsX4_greater := goodIn_r _ [11] (by decide +kernel) (by decide +kernel)
set_option maxRecDepth 20000 in
theorem gX4_distance_X4_greater : GoodIn wsX4_distance (va_wsS RX4 129 yX4_greater wsX4_greater) := goodIn_app (goodIn_of _ (by decide +kernel)) ggX4_distance_X4_greater
theorem dX4_distance_0 : decode cX4_distance 0 = .ok (.aload_n 0, 1) := by decide +kernel
theorem dX4_distance_1 : decode cX4_distance 1 = .ok (.getfield 44, 3) := by decide +kernel
theorem dX4_distance_4 : decode cX4_distance 4 = .ok (.iload_n 1, 1) := by decide +kernel
theorem dX4_distance_5 : decode cX4_distance 5 = .ok (.iaload, 1) := by decide +kernel
theorem dX4_distance_6 : decode cX4_distance 6 = .ok (.aload_n 0, 1) := by decide +kernel
theorem dX4_distance_7 : decode cX4_distance 7 = .ok (.getfield 47, 3) := by decide +kernel
theorem dX4_distance_10 : decode cX4_distance 10 = .ok (.iload_n 1, 1) := by decide +kernel
theorem dX4_distance_11 : decode cX4_distance 11 = .ok (.iaload, 1) := by decide +kernel
theorem dX4_distance_12 : decode cX4_distance 12 = .ok (.aload_n 0, 1) := by decide +kernel
theorem dX4_distance_13 : decode cX4_distance 13 = .ok (.getfield 44, 3) := by decide +kernel
theorem dX4_distance_16 : decode cX4_distance 16 = .ok (.iload_n 2, 1) := by decide +kernel
theorem dX4_distance_17 : decode cX4_distance 17 = .ok (.iaload, 1) := by decide +kernel
theorem dX4_distance_18 : decode cX4_distance 18 = .ok (.aload_n 0, 1) := by decide +kernel
theorem dX4_distance_19 : decode cX4_distance 19 = .ok (.getfield 47, 3) := by decide +kernel
theorem dX4_distance_22 : decode cX4_distance 22 = .ok (.iload_n 2, 1) := by decide +kernel
theorem dX4_distance_23 : decode cX4_distance 23 = .ok (.iaload, 1) := by decide +kernel
theorem dX4_distance_24 : decode cX4_distance 24 = .ok (.invokestatic 133, 3) := by decide +kernel
theorem dX4_distance_27 : decode cX4_distance 27 = .ok (.aload_n 0, 1) := by decide +kernel
theorem dX4_distance_28 : decode cX4_distance 28 = .ok (.getfield 50, 3) := by decide +kernel
theorem dX4_distance_31 : decode cX4_distance 31 = .ok (.iload_n 1, 1) := by decide +kernel
theorem dX4_distance_32 : decode cX4_distance 32 = .ok (.iaload, 1) := by decide +kernel
theorem dX4_distance_33 : decode cX4_distance 33 = .ok (.aload_n 0, 1) := by decide +kernel
theorem dX4_distance_34 : decode cX4_distance 34 = .ok (.getfield 53, 3) := by decide +kernel
theorem dX4_distance_37 : decode cX4_distance 37 = .ok (.iload_n 1, 1) := by decide +kernel
theorem dX4_distance_38 : decode cX4_distance 38 = .ok (.iaload, 1) := by decide +kernel
theorem dX4_distance_39 : decode cX4_distance 39 = .ok (.aload_n 0, 1) := by decide +kernel
theorem dX4_distance_40 : decode cX4_distance 40 = .ok (.getfield 50, 3) := by decide +kernel
theorem dX4_distance_43 : decode cX4_distance 43 = .ok (.iload_n 2, 1) := by decide +kernel
theorem dX4_distance_44 : decode cX4_distance 44 = .ok (.iaload, 1) := by decide +kernel
theorem dX4_distance_45 : decode cX4_distance 45 = .ok (.aload_n 0, 1) := by decide +kernel
theorem dX4_distance_46 : decode cX4_distance 46 = .ok (.getfield 53, 3) := by decide +kernel
theorem dX4_distance_49 : decode cX4_distance 49 = .ok (.iload_n 2, 1) := by decide +kernel
theorem dX4_distance_50 : decode cX4_distance 50 = .ok (.iaload, 1) := by decide +kernel
theorem dX4_distance_51 : decode cX4_distance 51 = .ok (.invokestatic 133, 3) := by decide +kernel
theorem dX4_distance_54 : decode cX4_distance 54 = .ok (.invokestatic 129, 3) := by decide +kernel
theorem dX4_distance_57 : decode cX4_distance 57 = .ok (.ireturn, 1) := by decide +kernel
theorem dX4_place_0 : decode cX4_place 0 = .ok (.aload_n 0, 1) := by decide +kernel
theorem dX4_place_1 : decode cX4_place 1 = .ok (.getfield 44, 3) := by decide +kernel
theorem dX4_place_4 : decode cX4_place 4 = .ok (.iload_n 1, 1) := by decide +kernel
theorem dX4_place_5 : decode cX4_place 5 = .ok (.iload_n 2, 1) := by decide +kernel
theorem dX4_place_6 : decode cX4_place 6 = .ok (.iastore, 1) := by decide +kernel
theorem dX4_place_7 : decode cX4_place 7 = .ok (.aload_n 0, 1) := by decide +kernel
theorem dX4_place_8 : decode cX4_place 8 = .ok (.getfield 47, 3) := by decide +kernel
theorem dX4_place_11 : decode cX4_place 11 = .ok (.iload_n 1, 1) := by decide +kernel
theorem dX4_place_12 : decode cX4_place 12 = .ok (.iload_n 3, 1) := by decide +kernel
theorem dX4_place_13 : decode cX4_place 13 = .ok (.iastore, 1) := by decide +kernel
theorem dX4_place_14 : decode cX4_place 14 = .ok (.aload_n 0, 1) := by decide +kernel
theorem dX4_place_15 : decode cX4_place 15 = .ok (.getfield 50, 3) := by decide +kernel
theorem dX4_place_18 : decode cX4_place 18 = .ok (.iload_n 1, 1) := by decide +kernel
theorem dX4_place_19 : decode cX4_place 19 = .ok (.iload 4, 2) := by decide +kernel
theorem dX4_place_21 : decode cX4_place 21 = .ok (.iastore, 1) := by decide +kernel
theorem dX4_place_22 : decode cX4_place 22 = .ok (.aload_n 0, 1) := by decide +kernel
theorem dX4_place_23 : decode cX4_place 23 = .ok (.getfield 53, 3) := by decide +kernel
theorem dX4_place_26 : decode cX4_place 26 = .ok (.iload_n 1, 1) := by decide +kernel
theorem dX4_place_27 : decode cX4_place 27 = .ok (.iload 5, 2) := by decide +kernel
theorem dX4_place_29 : decode cX4_place 29 = .ok (.iastore, 1) := by decide +kernel
theorem dX4_place_30 : decode cX4_place 30 = .ok (.return_, 1) := by decide +kernel
set_option maxRecDepth 20000 in
theorem ggX4_join_X4_distance : GoodIn wsX4_join wsX4_distance := goodIn_r _ [17, 7, 8, 9, 10, 18, 19, 16, 20, 21, 22, 23, 31, 32, 33, 34, 35, 36, 37, 38, 39, 40, 41, 42, 43, 44, 45, 46, 47, 48, 49, 50, 51, 52, 53, 54, 55, 56, 57, 58, 59, 60, 61, 62, 63, 64, 65, 66, 67] (by decide +kernel) (by decide +kernel)
set_option maxRecDepth 20000 in
theorem gX4_join_X4_distance : GoodIn wsX4_join (wsV RX4 137 RX4 yX4_distance wsX4_distance) := goodIn_app (goodIn_of _ (by decide +kernel)) ggX4_join_X4_distance
set_option maxRecDepth 20000 in
theorem ggX4_join_X4_greater : GoodIn wsX4_join wsX4_greater := goodIn_r _ [23] (by decide +kernel) (by decide +kernel)
set_option maxRecDepth 20000 in
theorem gX4_join_X4_greater : GoodIn wsX4_join (va_wsS RX4 129 yX4_greater wsX4_greater) := goodIn_app (goodIn_of _ (by decide +kernel)) ggX4_join_X4_greater
set_option maxRecDepth 20000 in
theorem ggX4_join_X4_lesser : GoodIn wsX4_join wsX4_lesser := goodIn_r _ [26] (by decide +kernel) (by decide +kernel)
set_option maxRecDepth 20000 in
theorem gX4_join_X4_lesser : GoodIn wsX4_join (va_wsS RX4 143 yX4_lesser wsX4_lesser) := goodIn_app (goodIn_of _ (by decide +kernel)) ggX4_join_X4_lesser
set_option maxRecDepth 20000 in
theorem ggX4_join_X4_place : GoodIn wsX4_join wsX4_place := goodIn_r _ [30, 7, 8, 9, 10, 31, 32, 33, 34, 35, 36, 37, 38, 39, 40, 41, 42, 43, 44, 45, 46, 47, 48, 49, 50, 51, 52, 53, 54, 55, 56, 57, 58, 59, 60, 61, 62, 63, 64, 65, 66, 67] (by decide +kernel) (by decide +kernel)
set_option maxRecDepth 20000 in
theorem gX4_join_X4_place : GoodIn wsX4_join (wsV RX4 146 RX4 yX4_place wsX4_place) := goodIn_app (goodIn_of _ (by decide +kernel)) ggX4_join_X4_place
theorem dX4_join_0 : decode cX4_join 0 = .ok (.aload_n 0, 1) := by decide +kernel
theorem dX4_join_1 : decode cX4_join 1 = .ok (.iload_n 1, 1) := by decide +kernel
theorem dX4_join_2 : decode cX4_join 2 = .ok (.iload_n 2, 1) := by decide +kernel
theorem dX4_join_3 : decode cX4_join 3 = .ok (.invokevirtual 137, 3) := by decide +kernel
theorem dX4_join_6 : decode cX4_join 6 = .ok (.istore_n 3, 1) := by decide +kernel
theorem dX4_join_7 : decode cX4_join 7 = .ok (.aload_n 0, 1) := by decide +kernel
theorem dX4_join_8 : decode cX4_join 8 = .ok (.getfield 56, 3) := by decide +kernel
theorem dX4_join_11 : decode cX4_join 11 = .ok (.iload_n 1, 1) := by decide +kernel
theorem dX4_join_12 : decode cX4_join 12 = .ok (.iaload, 1) := by decide +kernel
theorem dX4_join_13 : decode cX4_join 13 = .ok (.istore 4, 2) := by decide +kernel
theorem dX4_join_15 : decode cX4_join 15 = .ok (.aload_n 0, 1) := by decide +kernel
theorem dX4_join_16 : decode cX4_join 16 = .ok (.getfield 56, 3) := by decide +kernel
theorem dX4_join_19 : decode cX4_join 19 = .ok (.iload_n 2, 1) := by decide +kernel
theorem dX4_join_20 : decode cX4_join 20 = .ok (.iaload, 1) := by decide +kernel
theorem dX4_join_21 : decode cX4_join 21 = .ok (.istore 5, 2) := by decide +kernel
theorem dX4_join_23 : decode cX4_join 23 = .ok (.iload 4, 2) := by decide +kernel
theorem dX4_join_25 : decode cX4_join 25 = .ok (.iload_n 3, 1) := by decide +kernel
theorem dX4_join_26 : decode cX4_join 26 = .ok (.iload 5, 2) := by decide +kernel
theorem dX4_join_28 : decode cX4_join 28 = .ok (.iadd, 1) := by decide +kernel
theorem dX4_join_29 : decode cX4_join 29 = .ok (.if_icmp .le 7, 3) := by decide +kernel
theorem dX4_join_32 : decode cX4_join 32 = .ok (.iconst 0, 1) := by decide +kernel
theorem dX4_join_33 : decode cX4_join 33 = .ok (.goto 29, 3) := by decide +kernel
theorem dX4_join_36 : decode cX4_join 36 = .ok (.iload 5, 2) := by decide +kernel
theorem dX4_join_38 : decode cX4_join 38 = .ok (.iload_n 3, 1) := by decide +kernel
theorem dX4_join_39 : decode cX4_join 39 = .ok (.iload 4, 2) := by decide +kernel
theorem dX4_join_41 : decode cX4_join 41 = .ok (.iadd, 1) := by decide +kernel
theorem dX4_join_42 : decode cX4_join 42 = .ok (.if_icmp .le 11, 3) := by decide +kernel
theorem dX4_join_45 : decode cX4_join 45 = .ok (.iload 5, 2) := by decide +kernel
theorem dX4_join_47 : decode cX4_join 47 = .ok (.iload 4, 2) := by decide +kernel
theorem dX4_join_49 : decode cX4_join 49 = .ok (.isub, 1) := by decide +kernel
theorem dX4_join_50 : decode cX4_join 50 = .ok (.goto 12, 3) := by decide +kernel
theorem dX4_join_53 : decode cX4_join 53 = .ok (.iload_n 3, 1) := by decide +kernel
theorem dX4_join_54 : decode cX4_join 54 = .ok (.iload 5, 2) := by decide +kernel
theorem dX4_join_56 : decode cX4_join 56 = .ok (.iadd, 1) := by decide +kernel
theorem dX4_join_57 : decode cX4_join 57 = .ok (.iload 4, 2) := by decide +kernel
theorem dX4_join_59 : decode cX4_join 59 = .ok (.isub, 1) := by decide +kernel
theorem dX4_join_60 : decode cX4_join 60 = .ok (.iconst 2, 1) := by decide +kernel
theorem dX4_join_61 : decode cX4_join 61 = .ok (.idiv, 1) := by decide +kernel
theorem dX4_join_62 : decode cX4_join 62 = .ok (.istore 6, 2) := by decide +kernel
theorem dX4_join_64 : decode cX4_join 64 = .ok (.iload 4, 2) := by decide +kernel
theorem dX4_join_66 : decode cX4_join 66 = .ok (.iload_n 3, 1) := by decide +kernel
theorem dX4_join_67 : decode cX4_join 67 = .ok (.iload 5, 2) := by decide +kernel
theorem dX4_join_69 : decode cX4_join 69 = .ok (.iadd, 1) := by decide +kernel
theorem dX4_join_70 : decode cX4_join 70 = .ok (.if_icmp .le 11, 3) := by decide +kernel
theorem dX4_join_73 : decode cX4_join 73 = .ok (.iload 4, 2) := by decide +kernel
theorem dX4_join_75 : decode cX4_join 75 = .ok (.iload 5, 2) := by decide +kernel
theorem dX4_join_77 : decode cX4_join 77 = .ok (.isub, 1) := by decide +kernel
theorem dX4_join_78 : decode cX4_join 78 = .ok (.goto 20, 3) := by decide +kernel
theorem dX4_join_81 : decode cX4_join 81 = .ok (.iload 5, 2) := by decide +kernel
theorem dX4_join_83 : decode cX4_join 83 = .ok (.iload_n 3, 1) := by decide +kernel
theorem dX4_join_84 : decode cX4_join 84 = .ok (.iload 4, 2) := by decide +kernel
theorem dX4_join_86 : decode cX4_join 86 = .ok (.iadd, 1) := by decide +kernel
theorem dX4_join_87 : decode cX4_join 87 = .ok (.if_icmp .le 7, 3) := by decide +kernel
theorem dX4_join_90 : decode cX4_join 90 = .ok (.iconst 0, 1) := by decide +kernel
theorem dX4_join_91 : decode cX4_join 91 = .ok (.goto 7, 3) := by decide +kernel
theorem dX4_join_94 : decode cX4_join 94 = .ok (.iload_n 3, 1) := by decide +kernel
theorem dX4_join_95 : decode cX4_join 95 = .ok (.iload 6, 2) := by decide +kernel
theorem dX4_join_97 : decode cX4_join 97 = .ok (.isub, 1) := by decide +kernel
theorem dX4_join_98 : decode cX4_join 98 = .ok (.istore 7, 2) := by decide +kernel
theorem dX4_join_100 : decode cX4_join 100 = .ok (.aload_n 0, 1) := by decide +kernel
theorem dX4_join_101 : decode cX4_join 101 = .ok (.getfield 140, 3) := by decide +kernel
theorem dX4_join_104 : decode cX4_join 104 = .ok (.istore 8, 2) := by decide +kernel
theorem dX4_join_106 : decode cX4_join 106 = .ok (.aload_n 0, 1) := by decide +kernel
theorem dX4_join_107 : decode cX4_join 107 = .ok (.dup, 1) := by decide +kernel
theorem dX4_join_108 : decode cX4_join 108 = .ok (.getfield 140, 3) := by decide +kernel
theorem dX4_join_111 : decode cX4_join 111 = .ok (.iconst 1, 1) := by decide +kernel
theorem dX4_join_112 : decode cX4_join 112 = .ok (.iadd, 1) := by decide +kernel
theorem dX4_join_113 : decode cX4_join 113 = .ok (.putfield 140, 3) := by decide +kernel
theorem dX4_join_116 : decode cX4_join 116 = .ok (.aload_n 0, 1) := by decide +kernel
theorem dX4_join_117 : decode cX4_join 117 = .ok (.getfield 35, 3) := by decide +kernel
theorem dX4_join_120 : decode cX4_join 120 = .ok (.iload 8, 2) := by decide +kernel
theorem dX4_join_122 : decode cX4_join 122 = .ok (.iload_n 1, 1) := by decide +kernel
theorem dX4_join_123 : decode cX4_join 123 = .ok (.iastore, 1) := by decide +kernel
theorem dX4_join_124 : decode cX4_join 124 = .ok (.aload_n 0, 1) := by decide +kernel
theorem dX4_join_125 : decode cX4_join 125 = .ok (.getfield 38, 3) := by decide +kernel
theorem dX4_join_128 : decode cX4_join 128 = .ok (.iload 8, 2) := by decide +kernel
theorem dX4_join_130 : decode cX4_join 130 = .ok (.iload_n 2, 1) := by decide +kernel
theorem dX4_join_131 : decode cX4_join 131 = .ok (.iastore, 1) := by decide +kernel
theorem dX4_join_132 : decode cX4_join 132 = .ok (.aload_n 0, 1) := by decide +kernel
theorem dX4_join_133 : decode cX4_join 133 = .ok (.getfield 41, 3) := by decide +kernel
theorem dX4_join_136 : decode cX4_join 136 = .ok (.iload 8, 2) := by decide +kernel
theorem dX4_join_138 : decode cX4_join 138 = .ok (.iconst (-1), 1) := by decide +kernel
theorem dX4_join_139 : decode cX4_join 139 = .ok (.iastore, 1) := by decide +kernel
theorem dX4_join_140 : decode cX4_join 140 = .ok (.aload_n 0, 1) := by decide +kernel
theorem dX4_join_141 : decode cX4_join 141 = .ok (.getfield 41, 3) := by decide +kernel
theorem dX4_join_144 : decode cX4_join 144 = .ok (.iload_n 1, 1) := by decide +kernel
theorem dX4_join_145 : decode cX4_join 145 = .ok (.iload 8, 2) := by decide +kernel
theorem dX4_join_147 : decode cX4_join 147 = .ok (.iastore, 1) := by decide +kernel
theorem dX4_join_148 : decode cX4_join 148 = .ok (.aload_n 0, 1) := by decide +kernel
theorem dX4_join_149 : decode cX4_join 149 = .ok (.getfield 41, 3) := by decide +kernel
theorem dX4_join_152 : decode cX4_join 152 = .ok (.iload_n 2, 1) := by decide +kernel
theorem dX4_join_153 : decode cX4_join 153 = .ok (.iload 8, 2) := by decide +kernel
theorem dX4_join_155 : decode cX4_join 155 = .ok (.iastore, 1) := by decide +kernel
theorem dX4_join_156 : decode cX4_join 156 = .ok (.aload_n 0, 1) := by decide +kernel
theorem dX4_join_157 : decode cX4_join 157 = .ok (.getfield 59, 3) := by decide +kernel
theorem dX4_join_160 : decode cX4_join 160 = .ok (.iload_n 1, 1) := by decide +kernel
theorem dX4_join_161 : decode cX4_join 161 = .ok (.iload 6, 2) := by decide +kernel
theorem dX4_join_163 : decode cX4_join 163 = .ok (.iastore, 1) := by decide +kernel
theorem dX4_join_164 : decode cX4_join 164 = .ok (.aload_n 0, 1) := by decide +kernel
theorem dX4_join_165 : decode cX4_join 165 = .ok (.getfield 59, 3) := by decide +kernel
theorem dX4_join_168 : decode cX4_join 168 = .ok (.iload_n 2, 1) := by decide +kernel
theorem dX4_join_169 : decode cX4_join 169 = .ok (.iload 7, 2) := by decide +kernel
theorem dX4_join_171 : decode cX4_join 171 = .ok (.iastore, 1) := by decide +kernel
theorem dX4_join_172 : decode cX4_join 172 = .ok (.aload_n 0, 1) := by decide +kernel
theorem dX4_join_173 : decode cX4_join 173 = .ok (.iload 8, 2) := by decide +kernel
theorem dX4_join_175 : decode cX4_join 175 = .ok (.aload_n 0, 1) := by decide +kernel
theorem dX4_join_176 : decode cX4_join 176 = .ok (.getfield 44, 3) := by decide +kernel
theorem dX4_join_179 : decode cX4_join 179 = .ok (.iload_n 1, 1) := by decide +kernel
theorem dX4_join_180 : decode cX4_join 180 = .ok (.iaload, 1) := by decide +kernel
theorem dX4_join_181 : decode cX4_join 181 = .ok (.iload 6, 2) := by decide +kernel
theorem dX4_join_183 : decode cX4_join 183 = .ok (.isub, 1) := by decide +kernel
theorem dX4_join_184 : decode cX4_join 184 = .ok (.aload_n 0, 1) := by decide +kernel
theorem dX4_join_185 : decode cX4_join 185 = .ok (.getfield 44, 3) := by decide +kernel
theorem dX4_join_188 : decode cX4_join 188 = .ok (.iload_n 2, 1) := by decide +kernel
theorem dX4_join_189 : decode cX4_join 189 = .ok (.iaload, 1) := by decide +kernel
theorem dX4_join_190 : decode cX4_join 190 = .ok (.iload 7, 2) := by decide +kernel
theorem dX4_join_192 : decode cX4_join 192 = .ok (.isub, 1) := by decide +kernel
theorem dX4_join_193 : decode cX4_join 193 = .ok (.invokestatic 129, 3) := by decide +kernel
theorem dX4_join_196 : decode cX4_join 196 = .ok (.aload_n 0, 1) := by decide +kernel
theorem dX4_join_197 : decode cX4_join 197 = .ok (.getfield 47, 3) := by decide +kernel
theorem dX4_join_200 : decode cX4_join 200 = .ok (.iload_n 1, 1) := by decide +kernel
theorem dX4_join_201 : decode cX4_join 201 = .ok (.iaload, 1) := by decide +kernel
theorem dX4_join_202 : decode cX4_join 202 = .ok (.iload 6, 2) := by decide +kernel
theorem dX4_join_204 : decode cX4_join 204 = .ok (.iadd, 1) := by decide +kernel
theorem dX4_join_205 : decode cX4_join 205 = .ok (.aload_n 0, 1) := by decide +kernel
theorem dX4_join_206 : decode cX4_join 206 = .ok (.getfield 47, 3) := by decide +kernel
theorem dX4_join_209 : decode cX4_join 209 = .ok (.iload_n 2, 1) := by decide +kernel
theorem dX4_join_210 : decode cX4_join 210 = .ok (.iaload, 1) := by decide +kernel
theorem dX4_join_211 : decode cX4_join 211 = .ok (.iload 7, 2) := by decide +kernel
theorem dX4_join_213 : decode cX4_join 213 = .ok (.iadd, 1) := by decide +kernel
theorem dX4_join_214 : decode cX4_join 214 = .ok (.invokestatic 143, 3) := by decide +kernel
theorem dX4_join_217 : decode cX4_join 217 = .ok (.aload_n 0, 1) := by decide +kernel
theorem dX4_join_218 : decode cX4_join 218 = .ok (.getfield 50, 3) := by decide +kernel
theorem dX4_join_221 : decode cX4_join 221 = .ok (.iload_n 1, 1) := by decide +kernel
theorem dX4_join_222 : decode cX4_join 222 = .ok (.iaload, 1) := by decide +kernel
theorem dX4_join_223 : decode cX4_join 223 = .ok (.iload 6, 2) := by decide +kernel
theorem dX4_join_225 : decode cX4_join 225 = .ok (.isub, 1) := by decide +kernel
theorem dX4_join_226 : decode cX4_join 226 = .ok (.aload_n 0, 1) := by decide +kernel
theorem dX4_join_227 : decode cX4_join 227 = .ok (.getfield 50, 3) := by decide +kernel
theorem dX4_join_230 : decode cX4_join 230 = .ok (.iload_n 2, 1) := by decide +kernel
theorem dX4_join_231 : decode cX4_join 231 = .ok (.iaload, 1) := by decide +kernel
theorem dX4_join_232 : decode cX4_join 232 = .ok (.iload 7, 2) := by decide +kernel
theorem dX4_join_234 : decode cX4_join 234 = .ok (.isub, 1) := by decide +kernel
theorem dX4_join_235 : decode cX4_join 235 = .ok (.invokestatic 129, 3) := by decide +kernel
theorem dX4_join_238 : decode cX4_join 238 = .ok (.aload_n 0, 1) := by decide +kernel
theorem dX4_join_239 : decode cX4_join 239 = .ok (.getfield 53, 3) := by decide +kernel
theorem dX4_join_242 : decode cX4_join 242 = .ok (.iload_n 1, 1) := by decide +kernel
theorem dX4_join_243 : decode cX4_join 243 = .ok (.iaload, 1) := by decide +kernel
theorem dX4_join_244 : decode cX4_join 244 = .ok (.iload 6, 2) := by decide +kernel
theorem dX4_join_246 : decode cX4_join 246 = .ok (.iadd, 1) := by decide +kernel
theorem dX4_join_247 : decode cX4_join 247 = .ok (.aload_n 0, 1) := by decide +kernel
theorem dX4_join_248 : decode cX4_join 248 = .ok (.getfield 53, 3) := by decide +kernel
theorem dX4_join_251 : decode cX4_join 251 = .ok (.iload_n 2, 1) := by decide +kernel
theorem dX4_join_252 : decode cX4_join 252 = .ok (.iaload, 1) := by decide +kernel
theorem dX4_join_253 : decode cX4_join 253 = .ok (.iload 7, 2) := by decide +kernel
theorem dX4_join_255 : decode cX4_join 255 = .ok (.iadd, 1) := by decide +kernel
theorem dX4_join_256 : decode cX4_join 256 = .ok (.invokestatic 143, 3) := by decide +kernel
theorem dX4_join_259 : decode cX4_join 259 = .ok (.invokevirtual 146, 3) := by decide +kernel
theorem dX4_join_262 : decode cX4_join 262 = .ok (.aload_n 0, 1) := by decide +kernel
theorem dX4_join_263 : decode cX4_join 263 = .ok (.getfield 56, 3) := by decide +kernel
theorem dX4_join_266 : decode cX4_join 266 = .ok (.iload 8, 2) := by decide +kernel
theorem dX4_join_268 : decode cX4_join 268 = .ok (.iload 4, 2) := by decide +kernel
theorem dX4_join_270 : decode cX4_join 270 = .ok (.iload 6, 2) := by decide +kernel
theorem dX4_join_272 : decode cX4_join 272 = .ok (.iadd, 1) := by decide +kernel
theorem dX4_join_273 : decode cX4_join 273 = .ok (.iastore, 1) := by decide +kernel
theorem dX4_join_274 : decode cX4_join 274 = .ok (.aload_n 0, 1) := by decide +kernel
theorem dX4_join_275 : decode cX4_join 275 = .ok (.getfield 72, 3) := by decide +kernel
theorem dX4_join_278 : decode cX4_join 278 = .ok (.iload_n 1, 1) := by decide +kernel
theorem dX4_join_279 : decode cX4_join 279 = .ok (.iconst 1, 1) := by decide +kernel
theorem dX4_join_280 : decode cX4_join 280 = .ok (.bastore, 1) := by decide +kernel
theorem dX4_join_281 : decode cX4_join 281 = .ok (.aload_n 0, 1) := by decide +kernel
theorem dX4_join_282 : decode cX4_join 282 = .ok (.getfield 72, 3) := by decide +kernel
theorem dX4_join_285 : decode cX4_join 285 = .ok (.iload_n 2, 1) := by decide +kernel
theorem dX4_join_286 : decode cX4_join 286 = .ok (.iconst 1, 1) := by decide +kernel
theorem dX4_join_287 : decode cX4_join 287 = .ok (.bastore, 1) := by decide +kernel
theorem dX4_join_288 : decode cX4_join 288 = .ok (.aload_n 0, 1) := by decide +kernel
theorem dX4_join_289 : decode cX4_join 289 = .ok (.getfield 72, 3) := by decide +kernel
theorem dX4_join_292 : decode cX4_join 292 = .ok (.iload 8, 2) := by decide +kernel
theorem dX4_join_294 : decode cX4_join 294 = .ok (.iconst 0, 1) := by decide +kernel
theorem dX4_join_295 : decode cX4_join 295 = .ok (.bastore, 1) := by decide +kernel
theorem dX4_join_296 : decode cX4_join 296 = .ok (.aload_n 0, 1) := by decide +kernel
theorem dX4_join_297 : decode cX4_join 297 = .ok (.getfield 68, 3) := by decide +kernel
theorem dX4_join_300 : decode cX4_join 300 = .ok (.iload 8, 2) := by decide +kernel
theorem dX4_join_302 : decode cX4_join 302 = .ok (.iconst 0, 1) := by decide +kernel
theorem dX4_join_303 : decode cX4_join 303 = .ok (.bastore, 1) := by decide +kernel
theorem dX4_join_304 : decode cX4_join 304 = .ok (.iload 8, 2) := by decide +kernel
theorem dX4_join_306 : decode cX4_join 306 = .ok (.ireturn, 1) := by decide +kernel
set_option maxRecDepth 20000 in
theorem ggX4_begin_X4_place : GoodIn wsX4_begin wsX4_place := goodIn_r _ [15, 16, 17, 18, 19, 20, 21, 22, 23, 24, 25, 26, 27, 28, 29, 30, 31, 32, 33, 34, 35, 36, 37, 38, 39, 40, 41, 42, 43, 44, 45, 46, 47, 48, 49, 50, 51, 52, 53, 54, 55, 56] (by decide +kernel) (by decide +kernel)
set_option maxRecDepth 20000 in
theorem gX4_begin_X4_place : GoodIn wsX4_begin (wsV RX4 146 RX4 yX4_place wsX4_place) := goodIn_app (goodIn_of _ (by decide +kernel)) ggX4_begin_X4_place
theorem dX4_begin_0 : decode cX4_begin 0 = .ok (.aload_n 0, 1) := by decide +kernel
theorem dX4_begin_1 : decode cX4_begin 1 = .ok (.aload_n 0, 1) := by decide +kernel
theorem dX4_begin_2 : decode cX4_begin 2 = .ok (.getfield 112, 3) := by decide +kernel
theorem dX4_begin_5 : decode cX4_begin 5 = .ok (.putfield 140, 3) := by decide +kernel
theorem dX4_begin_8 : decode cX4_begin 8 = .ok (.iconst 0, 1) := by decide +kernel
theorem dX4_begin_9 : decode cX4_begin 9 = .ok (.istore_n 1, 1) := by decide +kernel
theorem dX4_begin_10 : decode cX4_begin 10 = .ok (.iload_n 1, 1) := by decide +kernel
theorem dX4_begin_11 : decode cX4_begin 11 = .ok (.aload_n 0, 1) := by decide +kernel
theorem dX4_begin_12 : decode cX4_begin 12 = .ok (.getfield 112, 3) := by decide +kernel
theorem dX4_begin_15 : decode cX4_begin 15 = .ok (.if_icmp .ge 96, 3) := by decide +kernel
theorem dX4_begin_18 : decode cX4_begin 18 = .ok (.sipush 1024, 3) := by decide +kernel
theorem dX4_begin_21 : decode cX4_begin 21 = .ok (.aload_n 0, 1) := by decide +kernel
theorem dX4_begin_22 : decode cX4_begin 22 = .ok (.getfield 7, 3) := by decide +kernel
theorem dX4_begin_25 : decode cX4_begin 25 = .ok (.iload_n 1, 1) := by decide +kernel
theorem dX4_begin_26 : decode cX4_begin 26 = .ok (.iaload, 1) := by decide +kernel
theorem dX4_begin_27 : decode cX4_begin 27 = .ok (.aload_n 0, 1) := by decide +kernel
theorem dX4_begin_28 : decode cX4_begin 28 = .ok (.getfield 13, 3) := by decide +kernel
theorem dX4_begin_31 : decode cX4_begin 31 = .ok (.iload_n 1, 1) := by decide +kernel
theorem dX4_begin_32 : decode cX4_begin 32 = .ok (.iaload, 1) := by decide +kernel
theorem dX4_begin_33 : decode cX4_begin 33 = .ok (.iadd, 1) := by decide +kernel
theorem dX4_begin_34 : decode cX4_begin 34 = .ok (.imul, 1) := by decide +kernel
theorem dX4_begin_35 : decode cX4_begin 35 = .ok (.istore_n 2, 1) := by decide +kernel
theorem dX4_begin_36 : decode cX4_begin 36 = .ok (.sipush 1024, 3) := by decide +kernel
theorem dX4_begin_39 : decode cX4_begin 39 = .ok (.aload_n 0, 1) := by decide +kernel
theorem dX4_begin_40 : decode cX4_begin 40 = .ok (.getfield 7, 3) := by decide +kernel
theorem dX4_begin_43 : decode cX4_begin 43 = .ok (.iload_n 1, 1) := by decide +kernel
theorem dX4_begin_44 : decode cX4_begin 44 = .ok (.iaload, 1) := by decide +kernel
theorem dX4_begin_45 : decode cX4_begin 45 = .ok (.aload_n 0, 1) := by decide +kernel
theorem dX4_begin_46 : decode cX4_begin 46 = .ok (.getfield 13, 3) := by decide +kernel
theorem dX4_begin_49 : decode cX4_begin 49 = .ok (.iload_n 1, 1) := by decide +kernel
theorem dX4_begin_50 : decode cX4_begin 50 = .ok (.iaload, 1) := by decide +kernel
theorem dX4_begin_51 : decode cX4_begin 51 = .ok (.isub, 1) := by decide +kernel
theorem dX4_begin_52 : decode cX4_begin 52 = .ok (.imul, 1) := by decide +kernel
theorem dX4_begin_53 : decode cX4_begin 53 = .ok (.istore_n 3, 1) := by decide +kernel
theorem dX4_begin_54 : decode cX4_begin 54 = .ok (.aload_n 0, 1) := by decide +kernel
theorem dX4_begin_55 : decode cX4_begin 55 = .ok (.iload_n 1, 1) := by decide +kernel
theorem dX4_begin_56 : decode cX4_begin 56 = .ok (.iload_n 2, 1) := by decide +kernel
theorem dX4_begin_57 : decode cX4_begin 57 = .ok (.iload_n 2, 1) := by decide +kernel
theorem dX4_begin_58 : decode cX4_begin 58 = .ok (.iload_n 3, 1) := by decide +kernel
theorem dX4_begin_59 : decode cX4_begin 59 = .ok (.iload_n 3, 1) := by decide +kernel
theorem dX4_begin_60 : decode cX4_begin 60 = .ok (.invokevirtual 146, 3) := by decide +kernel
theorem dX4_begin_63 : decode cX4_begin 63 = .ok (.aload_n 0, 1) := by decide +kernel
theorem dX4_begin_64 : decode cX4_begin 64 = .ok (.getfield 35, 3) := by decide +kernel
theorem dX4_begin_67 : decode cX4_begin 67 = .ok (.iload_n 1, 1) := by decide +kernel
theorem dX4_begin_68 : decode cX4_begin 68 = .ok (.iconst (-1), 1) := by decide +kernel
theorem dX4_begin_69 : decode cX4_begin 69 = .ok (.iastore, 1) := by decide +kernel
theorem dX4_begin_70 : decode cX4_begin 70 = .ok (.aload_n 0, 1) := by decide +kernel
theorem dX4_begin_71 : decode cX4_begin 71 = .ok (.getfield 38, 3) := by decide +kernel
theorem dX4_begin_74 : decode cX4_begin 74 = .ok (.iload_n 1, 1) := by decide +kernel
theorem dX4_begin_75 : decode cX4_begin 75 = .ok (.iconst (-1), 1) := by decide +kernel
theorem dX4_begin_76 : decode cX4_begin 76 = .ok (.iastore, 1) := by decide +kernel
theorem dX4_begin_77 : decode cX4_begin 77 = .ok (.aload_n 0, 1) := by decide +kernel
theorem dX4_begin_78 : decode cX4_begin 78 = .ok (.getfield 41, 3) := by decide +kernel
theorem dX4_begin_81 : decode cX4_begin 81 = .ok (.iload_n 1, 1) := by decide +kernel
theorem dX4_begin_82 : decode cX4_begin 82 = .ok (.iconst (-1), 1) := by decide +kernel
theorem dX4_begin_83 : decode cX4_begin 83 = .ok (.iastore, 1) := by decide +kernel
theorem dX4_begin_84 : decode cX4_begin 84 = .ok (.aload_n 0, 1) := by decide +kernel
theorem dX4_begin_85 : decode cX4_begin 85 = .ok (.getfield 56, 3) := by decide +kernel
theorem dX4_begin_88 : decode cX4_begin 88 = .ok (.iload_n 1, 1) := by decide +kernel
theorem dX4_begin_89 : decode cX4_begin 89 = .ok (.iconst 0, 1) := by decide +kernel
theorem dX4_begin_90 : decode cX4_begin 90 = .ok (.iastore, 1) := by decide +kernel
theorem dX4_begin_91 : decode cX4_begin 91 = .ok (.aload_n 0, 1) := by decide +kernel
theorem dX4_begin_92 : decode cX4_begin 92 = .ok (.getfield 72, 3) := by decide +kernel
theorem dX4_begin_95 : decode cX4_begin 95 = .ok (.iload_n 1, 1) := by decide +kernel
theorem dX4_begin_96 : decode cX4_begin 96 = .ok (.iconst 0, 1) := by decide +kernel
theorem dX4_begin_97 : decode cX4_begin 97 = .ok (.bastore, 1) := by decide +kernel
theorem dX4_begin_98 : decode cX4_begin 98 = .ok (.aload_n 0, 1) := by decide +kernel
theorem dX4_begin_99 : decode cX4_begin 99 = .ok (.getfield 68, 3) := by decide +kernel
theorem dX4_begin_102 : decode cX4_begin 102 = .ok (.iload_n 1, 1) := by decide +kernel
theorem dX4_begin_103 : decode cX4_begin 103 = .ok (.iconst 0, 1) := by decide +kernel
theorem dX4_begin_104 : decode cX4_begin 104 = .ok (.bastore, 1) := by decide +kernel
theorem dX4_begin_105 : decode cX4_begin 105 = .ok (.iinc 1 1, 3) := by decide +kernel
theorem dX4_begin_108 : decode cX4_begin 108 = .ok (.goto (-98), 3) := by decide +kernel
theorem dX4_begin_111 : decode cX4_begin 111 = .ok (.return_, 1) := by decide +kernel
set_option maxRecDepth 20000 in
theorem ggX4_joinNearest_X4_distance : GoodIn wsX4_joinNearest wsX4_distance := goodIn_r _ [7, 8, 9, 10, 11, 12, 13, 6, 14, 15, 16, 17, 35, 36, 37, 38, 39, 40, 41, 42, 43, 44, 45, 46, 47, 48, 49, 50, 51, 52, 53, 54, 55, 56, 57, 58, 59, 60, 61, 62, 63, 64, 65, 66, 67, 68, 69, 70, 71] (by decide +kernel) (by decide +kernel)
set_option maxRecDepth 20000 in
theorem gX4_joinNearest_X4_distance : GoodIn wsX4_joinNearest (wsV RX4 137 RX4 yX4_distance wsX4_distance) := goodIn_app (goodIn_of _ (by decide +kernel)) ggX4_joinNearest_X4_distance
set_option maxRecDepth 20000 in
theorem ggX4_joinNearest_X4_join : GoodIn wsX4_joinNearest wsX4_join := goodIn_r _ [21, 22, 1, 23, 24, 25, 26, 8, 9, 10, 11, 2, 27, 3, 4, 5, 6, 7, 12, 13, 14, 15, 16, 17, 28, 29, 30, 31, 32, 33, 34, 35, 36, 37, 38, 39, 40, 41, 42, 43, 44, 45, 46, 47, 48, 49, 50, 51, 52, 53, 54, 55, 56, 57, 58, 59, 60, 61, 62, 63, 64, 65, 66, 67, 68, 69, 70, 71] (by decide +kernel) (by decide +kernel)
set_option maxRecDepth 20000 in
theorem gX4_joinNearest_X4_join : GoodIn wsX4_joinNearest (wsV RX4 150 RX4 yX4_join wsX4_join) := goodIn_app (goodIn_of _ (by decide +kernel)) ggX4_joinNearest_X4_join
theorem dX4_joinNearest_0 : decode cX4_joinNearest 0 = .ok (.iconst (-1), 1) := by decide +kernel
theorem dX4_joinNearest_1 : decode cX4_joinNearest 1 = .ok (.istore_n 1, 1) := by decide +kernel
theorem dX4_joinNearest_2 : decode cX4_joinNearest 2 = .ok (.iconst (-1), 1) := by decide +kernel
theorem dX4_joinNearest_3 : decode cX4_joinNearest 3 = .ok (.istore_n 2, 1) := by decide +kernel
theorem dX4_joinNearest_4 : decode cX4_joinNearest 4 = .ok (.iconst 0, 1) := by decide +kernel
theorem dX4_joinNearest_5 : decode cX4_joinNearest 5 = .ok (.istore_n 3, 1) := by decide +kernel
theorem dX4_joinNearest_6 : decode cX4_joinNearest 6 = .ok (.iload_n 3, 1) := by decide +kernel
theorem dX4_joinNearest_7 : decode cX4_joinNearest 7 = .ok (.aload_n 0, 1) := by decide +kernel
theorem dX4_joinNearest_8 : decode cX4_joinNearest 8 = .ok (.getfield 140, 3) := by decide +kernel
theorem dX4_joinNearest_11 : decode cX4_joinNearest 11 = .ok (.if_icmp .ge 85, 3) := by decide +kernel
theorem dX4_joinNearest_14 : decode cX4_joinNearest 14 = .ok (.iload_n 3, 1) := by decide +kernel
theorem dX4_joinNearest_15 : decode cX4_joinNearest 15 = .ok (.iconst 1, 1) := by decide +kernel
theorem dX4_joinNearest_16 : decode cX4_joinNearest 16 = .ok (.iadd, 1) := by decide +kernel
theorem dX4_joinNearest_17 : decode cX4_joinNearest 17 = .ok (.istore 4, 2) := by decide +kernel
theorem dX4_joinNearest_19 : decode cX4_joinNearest 19 = .ok (.iload 4, 2) := by decide +kernel
theorem dX4_joinNearest_21 : decode cX4_joinNearest 21 = .ok (.aload_n 0, 1) := by decide +kernel
theorem dX4_joinNearest_22 : decode cX4_joinNearest 22 = .ok (.getfield 140, 3) := by decide +kernel
theorem dX4_joinNearest_25 : decode cX4_joinNearest 25 = .ok (.if_icmp .ge 65, 3) := by decide +kernel
theorem dX4_joinNearest_28 : decode cX4_joinNearest 28 = .ok (.aload_n 0, 1) := by decide +kernel
theorem dX4_joinNearest_29 : decode cX4_joinNearest 29 = .ok (.getfield 72, 3) := by decide +kernel
theorem dX4_joinNearest_32 : decode cX4_joinNearest 32 = .ok (.iload_n 3, 1) := by decide +kernel
theorem dX4_joinNearest_33 : decode cX4_joinNearest 33 = .ok (.baload, 1) := by decide +kernel
theorem dX4_joinNearest_34 : decode cX4_joinNearest 34 = .ok (.ifCond .ne 17, 3) := by decide +kernel
theorem dX4_joinNearest_37 : decode cX4_joinNearest 37 = .ok (.aload_n 0, 1) := by decide +kernel
theorem dX4_joinNearest_38 : decode cX4_joinNearest 38 = .ok (.getfield 72, 3) := by decide +kernel
theorem dX4_joinNearest_41 : decode cX4_joinNearest 41 = .ok (.iload 4, 2) := by decide +kernel
theorem dX4_joinNearest_43 : decode cX4_joinNearest 43 = .ok (.baload, 1) := by decide +kernel
theorem dX4_joinNearest_44 : decode cX4_joinNearest 44 = .ok (.ifCond .ne 7, 3) := by decide +kernel
theorem dX4_joinNearest_47 : decode cX4_joinNearest 47 = .ok (.iconst 1, 1) := by decide +kernel
theorem dX4_joinNearest_48 : decode cX4_joinNearest 48 = .ok (.goto 4, 3) := by decide +kernel
theorem dX4_joinNearest_51 : decode cX4_joinNearest 51 = .ok (.iconst 0, 1) := by decide +kernel
theorem dX4_joinNearest_52 : decode cX4_joinNearest 52 = .ok (.istore 5, 2) := by decide +kernel
theorem dX4_joinNearest_54 : decode cX4_joinNearest 54 = .ok (.iload 5, 2) := by decide +kernel
theorem dX4_joinNearest_56 : decode cX4_joinNearest 56 = .ok (.ifCond .eq 28, 3) := by decide +kernel
theorem dX4_joinNearest_59 : decode cX4_joinNearest 59 = .ok (.iload_n 1, 1) := by decide +kernel
theorem dX4_joinNearest_60 : decode cX4_joinNearest 60 = .ok (.ifCond .lt 19, 3) := by decide +kernel
theorem dX4_joinNearest_63 : decode cX4_joinNearest 63 = .ok (.aload_n 0, 1) := by decide +kernel
theorem dX4_joinNearest_64 : decode cX4_joinNearest 64 = .ok (.iload_n 3, 1) := by decide +kernel
theorem dX4_joinNearest_65 : decode cX4_joinNearest 65 = .ok (.iload 4, 2) := by decide +kernel
theorem dX4_joinNearest_67 : decode cX4_joinNearest 67 = .ok (.invokevirtual 137, 3) := by decide +kernel
theorem dX4_joinNearest_70 : decode cX4_joinNearest 70 = .ok (.aload_n 0, 1) := by decide +kernel
theorem dX4_joinNearest_71 : decode cX4_joinNearest 71 = .ok (.iload_n 1, 1) := by decide +kernel
theorem dX4_joinNearest_72 : decode cX4_joinNearest 72 = .ok (.iload_n 2, 1) := by decide +kernel
theorem dX4_joinNearest_73 : decode cX4_joinNearest 73 = .ok (.invokevirtual 137, 3) := by decide +kernel
theorem dX4_joinNearest_76 : decode cX4_joinNearest 76 = .ok (.if_icmp .ge 8, 3) := by decide +kernel
theorem dX4_joinNearest_79 : decode cX4_joinNearest 79 = .ok (.iload_n 3, 1) := by decide +kernel
theorem dX4_joinNearest_80 : decode cX4_joinNearest 80 = .ok (.istore_n 1, 1) := by decide +kernel
theorem dX4_joinNearest_81 : decode cX4_joinNearest 81 = .ok (.iload 4, 2) := by decide +kernel
theorem dX4_joinNearest_83 : decode cX4_joinNearest 83 = .ok (.istore_n 2, 1) := by decide +kernel
theorem dX4_joinNearest_84 : decode cX4_joinNearest 84 = .ok (.iinc 4 1, 3) := by decide +kernel
theorem dX4_joinNearest_87 : decode cX4_joinNearest 87 = .ok (.goto (-68), 3) := by decide +kernel
theorem dX4_joinNearest_90 : decode cX4_joinNearest 90 = .ok (.iinc 3 1, 3) := by decide +kernel
theorem dX4_joinNearest_93 : decode cX4_joinNearest 93 = .ok (.goto (-87), 3) := by decide +kernel
theorem dX4_joinNearest_96 : decode cX4_joinNearest 96 = .ok (.aload_n 0, 1) := by decide +kernel
theorem dX4_joinNearest_97 : decode cX4_joinNearest 97 = .ok (.iload_n 1, 1) := by decide +kernel
theorem dX4_joinNearest_98 : decode cX4_joinNearest 98 = .ok (.iload_n 2, 1) := by decide +kernel
theorem dX4_joinNearest_99 : decode cX4_joinNearest 99 = .ok (.invokevirtual 150, 3) := by decide +kernel
theorem dX4_joinNearest_102 : decode cX4_joinNearest 102 = .ok (.pop, 1) := by decide +kernel
theorem dX4_joinNearest_103 : decode cX4_joinNearest 103 = .ok (.return_, 1) := by decide +kernel
theorem dX4_isBefore_0 : decode cX4_isBefore 0 = .ok (.iload_n 3, 1) := by decide +kernel
theorem dX4_isBefore_1 : decode cX4_isBefore 1 = .ok (.ifCond .eq 19, 3) := by decide +kernel
theorem dX4_isBefore_4 : decode cX4_isBefore 4 = .ok (.aload_n 0, 1) := by decide +kernel
theorem dX4_isBefore_5 : decode cX4_isBefore 5 = .ok (.getfield 7, 3) := by decide +kernel
theorem dX4_isBefore_8 : decode cX4_isBefore 8 = .ok (.iload_n 1, 1) := by decide +kernel
theorem dX4_isBefore_9 : decode cX4_isBefore 9 = .ok (.iaload, 1) := by decide +kernel
theorem dX4_isBefore_10 : decode cX4_isBefore 10 = .ok (.aload_n 0, 1) := by decide +kernel
theorem dX4_isBefore_11 : decode cX4_isBefore 11 = .ok (.getfield 7, 3) := by decide +kernel
theorem dX4_isBefore_14 : decode cX4_isBefore 14 = .ok (.iload_n 2, 1) := by decide +kernel
theorem dX4_isBefore_15 : decode cX4_isBefore 15 = .ok (.iaload, 1) := by decide +kernel
theorem dX4_isBefore_16 : decode cX4_isBefore 16 = .ok (.isub, 1) := by decide +kernel
theorem dX4_isBefore_17 : decode cX4_isBefore 17 = .ok (.goto 16, 3) := by decide +kernel
theorem dX4_isBefore_20 : decode cX4_isBefore 20 = .ok (.aload_n 0, 1) := by decide +kernel
theorem dX4_isBefore_21 : decode cX4_isBefore 21 = .ok (.getfield 13, 3) := by decide +kernel
theorem dX4_isBefore_24 : decode cX4_isBefore 24 = .ok (.iload_n 1, 1) := by decide +kernel
theorem dX4_isBefore_25 : decode cX4_isBefore 25 = .ok (.iaload, 1) := by decide +kernel
theorem dX4_isBefore_26 : decode cX4_isBefore 26 = .ok (.aload_n 0, 1) := by decide +kernel
theorem dX4_isBefore_27 : decode cX4_isBefore 27 = .ok (.getfield 13, 3) := by decide +kernel
theorem dX4_isBefore_30 : decode cX4_isBefore 30 = .ok (.iload_n 2, 1) := by decide +kernel
theorem dX4_isBefore_31 : decode cX4_isBefore 31 = .ok (.iaload, 1) := by decide +kernel
theorem dX4_isBefore_32 : decode cX4_isBefore 32 = .ok (.isub, 1) := by decide +kernel
theorem dX4_isBefore_33 : decode cX4_isBefore 33 = .ok (.istore 4, 2) := by decide +kernel
theorem dX4_isBefore_35 : decode cX4_isBefore 35 = .ok (.iload_n 3, 1) := by decide +kernel
theorem dX4_isBefore_36 : decode cX4_isBefore 36 = .ok (.ifCond .eq 19, 3) := by decide +kernel
theorem dX4_isBefore_39 : decode cX4_isBefore 39 = .ok (.aload_n 0, 1) := by decide +kernel
theorem dX4_isBefore_40 : decode cX4_isBefore 40 = .ok (.getfield 13, 3) := by decide +kernel
theorem dX4_isBefore_43 : decode cX4_isBefore 43 = .ok (.iload_n 1, 1) := by decide +kernel
theorem dX4_isBefore_44 : decode cX4_isBefore 44 = .ok (.iaload, 1) := by decide +kernel
theorem dX4_isBefore_45 : decode cX4_isBefore 45 = .ok (.aload_n 0, 1) := by decide +kernel
theorem dX4_isBefore_46 : decode cX4_isBefore 46 = .ok (.getfield 13, 3) := by decide +kernel
theorem dX4_isBefore_49 : decode cX4_isBefore 49 = .ok (.iload_n 2, 1) := by decide +kernel
theorem dX4_isBefore_50 : decode cX4_isBefore 50 = .ok (.iaload, 1) := by decide +kernel
theorem dX4_isBefore_51 : decode cX4_isBefore 51 = .ok (.isub, 1) := by decide +kernel
theorem dX4_isBefore_52 : decode cX4_isBefore 52 = .ok (.goto 16, 3) := by decide +kernel
theorem dX4_isBefore_55 : decode cX4_isBefore 55 = .ok (.aload_n 0, 1) := by decide +kernel
theorem dX4_isBefore_56 : decode cX4_isBefore 56 = .ok (.getfield 7, 3) := by decide +kernel
theorem dX4_isBefore_59 : decode cX4_isBefore 59 = .ok (.iload_n 1, 1) := by decide +kernel
theorem dX4_isBefore_60 : decode cX4_isBefore 60 = .ok (.iaload, 1) := by decide +kernel
theorem dX4_isBefore_61 : decode cX4_isBefore 61 = .ok (.aload_n 0, 1) := by decide +kernel
theorem dX4_isBefore_62 : decode cX4_isBefore 62 = .ok (.getfield 7, 3) := by decide +kernel
theorem dX4_isBefore_65 : decode cX4_isBefore 65 = .ok (.iload_n 2, 1) := by decide +kernel
theorem dX4_isBefore_66 : decode cX4_isBefore 66 = .ok (.iaload, 1) := by decide +kernel
theorem dX4_isBefore_67 : decode cX4_isBefore 67 = .ok (.isub, 1) := by decide +kernel
theorem dX4_isBefore_68 : decode cX4_isBefore 68 = .ok (.istore 5, 2) := by decide +kernel
theorem dX4_isBefore_70 : decode cX4_isBefore 70 = .ok (.iload 4, 2) := by decide +kernel
theorem dX4_isBefore_72 : decode cX4_isBefore 72 = .ok (.ifCond .eq 16, 3) := by decide +kernel
theorem dX4_isBefore_75 : decode cX4_isBefore 75 = .ok (.iload 4, 2) := by decide +kernel
theorem dX4_isBefore_77 : decode cX4_isBefore 77 = .ok (.ifCond .ge 7, 3) := by decide +kernel
theorem dX4_isBefore_80 : decode cX4_isBefore 80 = .ok (.iconst 1, 1) := by decide +kernel
theorem dX4_isBefore_81 : decode cX4_isBefore 81 = .ok (.goto 35, 3) := by decide +kernel
theorem dX4_isBefore_84 : decode cX4_isBefore 84 = .ok (.iconst 0, 1) := by decide +kernel
theorem dX4_isBefore_85 : decode cX4_isBefore 85 = .ok (.goto 31, 3) := by decide +kernel
theorem dX4_isBefore_88 : decode cX4_isBefore 88 = .ok (.iload 5, 2) := by decide +kernel
theorem dX4_isBefore_90 : decode cX4_isBefore 90 = .ok (.ifCond .eq 16, 3) := by decide +kernel
theorem dX4_isBefore_93 : decode cX4_isBefore 93 = .ok (.iload 5, 2) := by decide +kernel
theorem dX4_isBefore_95 : decode cX4_isBefore 95 = .ok (.ifCond .ge 7, 3) := by decide +kernel
theorem dX4_isBefore_98 : decode cX4_isBefore 98 = .ok (.iconst 1, 1) := by decide +kernel
theorem dX4_isBefore_99 : decode cX4_isBefore 99 = .ok (.goto 17, 3) := by decide +kernel
theorem dX4_isBefore_102 : decode cX4_isBefore 102 = .ok (.iconst 0, 1) := by decide +kernel
theorem dX4_isBefore_103 : decode cX4_isBefore 103 = .ok (.goto 13, 3) := by decide +kernel
theorem dX4_isBefore_106 : decode cX4_isBefore 106 = .ok (.iload_n 1, 1) := by decide +kernel
theorem dX4_isBefore_107 : decode cX4_isBefore 107 = .ok (.iload_n 2, 1) := by decide +kernel
theorem dX4_isBefore_108 : decode cX4_isBefore 108 = .ok (.if_icmp .ge 7, 3) := by decide +kernel
theorem dX4_isBefore_111 : decode cX4_isBefore 111 = .ok (.iconst 1, 1) := by decide +kernel
theorem dX4_isBefore_112 : decode cX4_isBefore 112 = .ok (.goto 4, 3) := by decide +kernel
theorem dX4_isBefore_115 : decode cX4_isBefore 115 = .ok (.iconst 0, 1) := by decide +kernel
theorem dX4_isBefore_116 : decode cX4_isBefore 116 = .ok (.ireturn, 1) := by decide +kernel
set_option maxRecDepth 20000 in
theorem ggX4_sort_X4_isBefore : GoodIn wsX4_sort wsX4_isBefore := goodIn_r _ [6, 7, 8, 9, 10, 11, 12, 13, 14, 15, 16, 17, 18, 19, 20, 21, 22, 23, 24, 25, 26, 27, 28, 29, 30, 31, 32, 33, 34, 35, 36, 37, 38, 39, 40, 41, 42, 43, 44, 45] (by decide +kernel) (by decide +kernel)
set_option maxRecDepth 20000 in
theorem gX4_sort_X4_isBefore : GoodIn wsX4_sort (wsV RX4 153 RX4 yX4_isBefore wsX4_isBefore) := goodIn_app (goodIn_of _ (by decide +kernel)) ggX4_sort_X4_isBefore
theorem dX4_sort_0 : decode cX4_sort 0 = .ok (.iload_n 1, 1) := by decide +kernel
theorem dX4_sort_1 : decode cX4_sort 1 = .ok (.iconst 1, 1) := by decide +kernel
theorem dX4_sort_2 : decode cX4_sort 2 = .ok (.iadd, 1) := by decide +kernel
theorem dX4_sort_3 : decode cX4_sort 3 = .ok (.istore 4, 2) := by decide +kernel
theorem dX4_sort_5 : decode cX4_sort 5 = .ok (.iload 4, 2) := by decide +kernel
theorem dX4_sort_7 : decode cX4_sort 7 = .ok (.iload_n 2, 1) := by decide +kernel
theorem dX4_sort_8 : decode cX4_sort 8 = .ok (.if_icmp .ge 78, 3) := by decide +kernel
theorem dX4_sort_11 : decode cX4_sort 11 = .ok (.aload_n 0, 1) := by decide +kernel
theorem dX4_sort_12 : decode cX4_sort 12 = .ok (.getfield 75, 3) := by decide +kernel
theorem dX4_sort_15 : decode cX4_sort 15 = .ok (.iload 4, 2) := by decide +kernel
theorem dX4_sort_17 : decode cX4_sort 17 = .ok (.iaload, 1) := by decide +kernel
theorem dX4_sort_18 : decode cX4_sort 18 = .ok (.istore 5, 2) := by decide +kernel
theorem dX4_sort_20 : decode cX4_sort 20 = .ok (.iload 4, 2) := by decide +kernel
theorem dX4_sort_22 : decode cX4_sort 22 = .ok (.istore 6, 2) := by decide +kernel
theorem dX4_sort_24 : decode cX4_sort 24 = .ok (.iload 6, 2) := by decide +kernel
theorem dX4_sort_26 : decode cX4_sort 26 = .ok (.iload_n 1, 1) := by decide +kernel
theorem dX4_sort_27 : decode cX4_sort 27 = .ok (.if_icmp .le 44, 3) := by decide +kernel
theorem dX4_sort_30 : decode cX4_sort 30 = .ok (.aload_n 0, 1) := by decide +kernel
theorem dX4_sort_31 : decode cX4_sort 31 = .ok (.iload 5, 2) := by decide +kernel
theorem dX4_sort_33 : decode cX4_sort 33 = .ok (.aload_n 0, 1) := by decide +kernel
theorem dX4_sort_34 : decode cX4_sort 34 = .ok (.getfield 75, 3) := by decide +kernel
theorem dX4_sort_37 : decode cX4_sort 37 = .ok (.iload 6, 2) := by decide +kernel
theorem dX4_sort_39 : decode cX4_sort 39 = .ok (.iconst 1, 1) := by decide +kernel
theorem dX4_sort_40 : decode cX4_sort 40 = .ok (.isub, 1) := by decide +kernel
theorem dX4_sort_41 : decode cX4_sort 41 = .ok (.iaload, 1) := by decide +kernel
theorem dX4_sort_42 : decode cX4_sort 42 = .ok (.iload_n 3, 1) := by decide +kernel
theorem dX4_sort_43 : decode cX4_sort 43 = .ok (.invokevirtual 153, 3) := by decide +kernel
theorem dX4_sort_46 : decode cX4_sort 46 = .ok (.ifCond .eq 25, 3) := by decide +kernel
theorem dX4_sort_49 : decode cX4_sort 49 = .ok (.aload_n 0, 1) := by decide +kernel
theorem dX4_sort_50 : decode cX4_sort 50 = .ok (.getfield 75, 3) := by decide +kernel
theorem dX4_sort_53 : decode cX4_sort 53 = .ok (.iload 6, 2) := by decide +kernel
theorem dX4_sort_55 : decode cX4_sort 55 = .ok (.aload_n 0, 1) := by decide +kernel
theorem dX4_sort_56 : decode cX4_sort 56 = .ok (.getfield 75, 3) := by decide +kernel
theorem dX4_sort_59 : decode cX4_sort 59 = .ok (.iload 6, 2) := by decide +kernel
theorem dX4_sort_61 : decode cX4_sort 61 = .ok (.iconst 1, 1) := by decide +kernel
theorem dX4_sort_62 : decode cX4_sort 62 = .ok (.isub, 1) := by decide +kernel
theorem dX4_sort_63 : decode cX4_sort 63 = .ok (.iaload, 1) := by decide +kernel
theorem dX4_sort_64 : decode cX4_sort 64 = .ok (.iastore, 1) := by decide +kernel
theorem dX4_sort_65 : decode cX4_sort 65 = .ok (.iinc 6 (-1), 3) := by decide +kernel
theorem dX4_sort_68 : decode cX4_sort 68 = .ok (.goto (-44), 3) := by decide +kernel
theorem dX4_sort_71 : decode cX4_sort 71 = .ok (.aload_n 0, 1) := by decide +kernel
theorem dX4_sort_72 : decode cX4_sort 72 = .ok (.getfield 75, 3) := by decide +kernel
theorem dX4_sort_75 : decode cX4_sort 75 = .ok (.iload 6, 2) := by decide +kernel
theorem dX4_sort_77 : decode cX4_sort 77 = .ok (.iload 5, 2) := by decide +kernel
theorem dX4_sort_79 : decode cX4_sort 79 = .ok (.iastore, 1) := by decide +kernel
theorem dX4_sort_80 : decode cX4_sort 80 = .ok (.iinc 4 1, 3) := by decide +kernel
theorem dX4_sort_83 : decode cX4_sort 83 = .ok (.goto (-78), 3) := by decide +kernel
theorem dX4_sort_86 : decode cX4_sort 86 = .ok (.return_, 1) := by decide +kernel
theorem dX4_push_0 : decode cX4_push 0 = .ok (.aload_n 0, 1) := by decide +kernel
theorem dX4_push_1 : decode cX4_push 1 = .ok (.getfield 78, 3) := by decide +kernel
theorem dX4_push_4 : decode cX4_push 4 = .ok (.aload_n 0, 1) := by decide +kernel
theorem dX4_push_5 : decode cX4_push 5 = .ok (.getfield 157, 3) := by decide +kernel
theorem dX4_push_8 : decode cX4_push 8 = .ok (.iload_n 1, 1) := by decide +kernel
theorem dX4_push_9 : decode cX4_push 9 = .ok (.iastore, 1) := by decide +kernel
theorem dX4_push_10 : decode cX4_push 10 = .ok (.aload_n 0, 1) := by decide +kernel
theorem dX4_push_11 : decode cX4_push 11 = .ok (.getfield 81, 3) := by decide +kernel
theorem dX4_push_14 : decode cX4_push 14 = .ok (.aload_n 0, 1) := by decide +kernel
theorem dX4_push_15 : decode cX4_push 15 = .ok (.getfield 157, 3) := by decide +kernel
theorem dX4_push_18 : decode cX4_push 18 = .ok (.iload_n 2, 1) := by decide +kernel
theorem dX4_push_19 : decode cX4_push 19 = .ok (.iastore, 1) := by decide +kernel
theorem dX4_push_20 : decode cX4_push 20 = .ok (.aload_n 0, 1) := by decide +kernel
theorem dX4_push_21 : decode cX4_push 21 = .ok (.getfield 84, 3) := by decide +kernel
theorem dX4_push_24 : decode cX4_push 24 = .ok (.aload_n 0, 1) := by decide +kernel
theorem dX4_push_25 : decode cX4_push 25 = .ok (.getfield 157, 3) := by decide +kernel
theorem dX4_push_28 : decode cX4_push 28 = .ok (.iload_n 3, 1) := by decide +kernel
theorem dX4_push_29 : decode cX4_push 29 = .ok (.iastore, 1) := by decide +kernel
theorem dX4_push_30 : decode cX4_push 30 = .ok (.aload_n 0, 1) := by decide +kernel
theorem dX4_push_31 : decode cX4_push 31 = .ok (.getfield 87, 3) := by decide +kernel
theorem dX4_push_34 : decode cX4_push 34 = .ok (.aload_n 0, 1) := by decide +kernel
theorem dX4_push_35 : decode cX4_push 35 = .ok (.getfield 157, 3) := by decide +kernel
theorem dX4_push_38 : decode cX4_push 38 = .ok (.iconst 0, 1) := by decide +kernel
theorem dX4_push_39 : decode cX4_push 39 = .ok (.iastore, 1) := by decide +kernel
theorem dX4_push_40 : decode cX4_push 40 = .ok (.aload_n 0, 1) := by decide +kernel
theorem dX4_push_41 : decode cX4_push 41 = .ok (.dup, 1) := by decide +kernel
theorem dX4_push_42 : decode cX4_push 42 = .ok (.getfield 157, 3) := by decide +kernel
theorem dX4_push_45 : decode cX4_push 45 = .ok (.iconst 1, 1) := by decide +kernel
theorem dX4_push_46 : decode cX4_push 46 = .ok (.iadd, 1) := by decide +kernel
theorem dX4_push_47 : decode cX4_push 47 = .ok (.putfield 157, 3) := by decide +kernel
theorem dX4_push_50 : decode cX4_push 50 = .ok (.return_, 1) := by decide +kernel
set_option maxRecDepth 20000 in
theorem ggX4_cutAll_X4_push : GoodIn wsX4_cutAll wsX4_push := goodIn_r _ [13, 4, 3, 5, 7, 6, 57, 58, 59, 60, 61, 62, 63, 64, 65, 66, 67, 68, 69, 70, 71, 72, 73, 74, 75, 76, 77, 78, 79, 80, 81, 82, 83, 84, 85, 86, 87, 88, 89, 90, 91, 92, 93] (by decide +kernel) (by decide +kernel)
set_option maxRecDepth 20000 in
theorem gX4_cutAll_X4_push : GoodIn wsX4_cutAll (wsV RX4 160 RX4 yX4_push wsX4_push) := goodIn_app (goodIn_of _ (by decide +kernel)) ggX4_cutAll_X4_push
set_option maxRecDepth 20000 in
theorem ggX4_cutAll_X4_sort : GoodIn wsX4_cutAll wsX4_sort := goodIn_r _ [17, 2, 18, 19, 20, 12, 21, 22, 23, 57, 58, 59, 60, 61, 62, 63, 64, 65, 66, 67, 68, 69, 70, 71, 72, 73, 74, 75, 76, 77, 78, 79, 80, 81, 82, 83, 84, 85, 86, 87, 88, 89, 90, 91, 92, 93] (by decide +kernel) (by decide +kernel)
set_option maxRecDepth 20000 in
theorem gX4_cutAll_X4_sort : GoodIn wsX4_cutAll (wsV RX4 164 RX4 yX4_sort wsX4_sort) := goodIn_app (goodIn_of _ (by decide +kernel)) ggX4_cutAll_X4_sort
set_option maxRecDepth 20000 in
theorem ggX4_cutAll_X4_join : GoodIn wsX4_cutAll wsX4_join := goodIn_r _ [27, 28, 29, 30, 31, 32, 33, 34, 35, 36, 37, 38, 39, 40, 41, 42, 12, 43, 44, 45, 46, 47, 48, 49, 50, 51, 52, 53, 54, 55, 56, 57, 58, 59, 60, 61, 62, 63, 64, 65, 66, 67, 68, 69, 70, 71, 72, 73, 74, 75, 76, 77, 78, 79, 80, 81, 82, 83, 84, 85, 86, 87, 88, 89, 90, 91, 92, 93] (by decide +kernel) (by decide +kernel)
set_option maxRecDepth 20000 in
theorem gX4_cutAll_X4_join : GoodIn wsX4_cutAll (wsV RX4 150 RX4 yX4_join wsX4_join) := goodIn_app (goodIn_of _ (by decide +kernel)) ggX4_cutAll_X4_join
theorem dX4_cutAll_0 : decode cX4_cutAll 0 = .ok (.iconst 0, 1) := by decide +kernel
theorem dX4_cutAll_1 : decode cX4_cutAll 1 = .ok (.istore_n 1, 1) := by decide +kernel
theorem dX4_cutAll_2 : decode cX4_cutAll 2 = .ok (.iload_n 1, 1) := by decide +kernel
theorem dX4_cutAll_3 : decode cX4_cutAll 3 = .ok (.aload_n 0, 1) := by decide +kernel
theorem dX4_cutAll_4 : decode cX4_cutAll 4 = .ok (.getfield 112, 3) := by decide +kernel
theorem dX4_cutAll_7 : decode cX4_cutAll 7 = .ok (.if_icmp .ge 16, 3) := by decide +kernel
theorem dX4_cutAll_10 : decode cX4_cutAll 10 = .ok (.aload_n 0, 1) := by decide +kernel
theorem dX4_cutAll_11 : decode cX4_cutAll 11 = .ok (.getfield 75, 3) := by decide +kernel
theorem dX4_cutAll_14 : decode cX4_cutAll 14 = .ok (.iload_n 1, 1) := by decide +kernel
theorem dX4_cutAll_15 : decode cX4_cutAll 15 = .ok (.iload_n 1, 1) := by decide +kernel
theorem dX4_cutAll_16 : decode cX4_cutAll 16 = .ok (.iastore, 1) := by decide +kernel
theorem dX4_cutAll_17 : decode cX4_cutAll 17 = .ok (.iinc 1 1, 3) := by decide +kernel
theorem dX4_cutAll_20 : decode cX4_cutAll 20 = .ok (.goto (-18), 3) := by decide +kernel
theorem dX4_cutAll_23 : decode cX4_cutAll 23 = .ok (.iconst 0, 1) := by decide +kernel
theorem dX4_cutAll_24 : decode cX4_cutAll 24 = .ok (.istore_n 1, 1) := by decide +kernel
theorem dX4_cutAll_25 : decode cX4_cutAll 25 = .ok (.aload_n 0, 1) := by decide +kernel
theorem dX4_cutAll_26 : decode cX4_cutAll 26 = .ok (.iconst 0, 1) := by decide +kernel
theorem dX4_cutAll_27 : decode cX4_cutAll 27 = .ok (.putfield 157, 3) := by decide +kernel
theorem dX4_cutAll_30 : decode cX4_cutAll 30 = .ok (.aload_n 0, 1) := by decide +kernel
theorem dX4_cutAll_31 : decode cX4_cutAll 31 = .ok (.iconst 0, 1) := by decide +kernel
theorem dX4_cutAll_32 : decode cX4_cutAll 32 = .ok (.aload_n 0, 1) := by decide +kernel
theorem dX4_cutAll_33 : decode cX4_cutAll 33 = .ok (.getfield 112, 3) := by decide +kernel
theorem dX4_cutAll_36 : decode cX4_cutAll 36 = .ok (.iconst 0, 1) := by decide +kernel
theorem dX4_cutAll_37 : decode cX4_cutAll 37 = .ok (.invokevirtual 160, 3) := by decide +kernel
theorem dX4_cutAll_40 : decode cX4_cutAll 40 = .ok (.aload_n 0, 1) := by decide +kernel
theorem dX4_cutAll_41 : decode cX4_cutAll 41 = .ok (.getfield 157, 3) := by decide +kernel
theorem dX4_cutAll_44 : decode cX4_cutAll 44 = .ok (.ifCond .le 218, 3) := by decide +kernel
theorem dX4_cutAll_47 : decode cX4_cutAll 47 = .ok (.aload_n 0, 1) := by decide +kernel
theorem dX4_cutAll_48 : decode cX4_cutAll 48 = .ok (.getfield 157, 3) := by decide +kernel
theorem dX4_cutAll_51 : decode cX4_cutAll 51 = .ok (.iconst 1, 1) := by decide +kernel
theorem dX4_cutAll_52 : decode cX4_cutAll 52 = .ok (.isub, 1) := by decide +kernel
theorem dX4_cutAll_53 : decode cX4_cutAll 53 = .ok (.istore_n 2, 1) := by decide +kernel
theorem dX4_cutAll_54 : decode cX4_cutAll 54 = .ok (.aload_n 0, 1) := by decide +kernel
theorem dX4_cutAll_55 : decode cX4_cutAll 55 = .ok (.getfield 78, 3) := by decide +kernel
theorem dX4_cutAll_58 : decode cX4_cutAll 58 = .ok (.iload_n 2, 1) := by decide +kernel
theorem dX4_cutAll_59 : decode cX4_cutAll 59 = .ok (.iaload, 1) := by decide +kernel
theorem dX4_cutAll_60 : decode cX4_cutAll 60 = .ok (.aload_n 0, 1) := by decide +kernel
theorem dX4_cutAll_61 : decode cX4_cutAll 61 = .ok (.getfield 81, 3) := by decide +kernel
theorem dX4_cutAll_64 : decode cX4_cutAll 64 = .ok (.iload_n 2, 1) := by decide +kernel
theorem dX4_cutAll_65 : decode cX4_cutAll 65 = .ok (.iaload, 1) := by decide +kernel
theorem dX4_cutAll_66 : decode cX4_cutAll 66 = .ok (.aload_n 0, 1) := by decide +kernel
theorem dX4_cutAll_67 : decode cX4_cutAll 67 = .ok (.getfield 78, 3) := by decide +kernel
theorem dX4_cutAll_70 : decode cX4_cutAll 70 = .ok (.iload_n 2, 1) := by decide +kernel
theorem dX4_cutAll_71 : decode cX4_cutAll 71 = .ok (.iaload, 1) := by decide +kernel
theorem dX4_cutAll_72 : decode cX4_cutAll 72 = .ok (.isub, 1) := by decide +kernel
theorem dX4_cutAll_73 : decode cX4_cutAll 73 = .ok (.iconst 1, 1) := by decide +kernel
theorem dX4_cutAll_74 : decode cX4_cutAll 74 = .ok (.iadd, 1) := by decide +kernel
theorem dX4_cutAll_75 : decode cX4_cutAll 75 = .ok (.iconst 2, 1) := by decide +kernel
theorem dX4_cutAll_76 : decode cX4_cutAll 76 = .ok (.idiv, 1) := by decide +kernel
theorem dX4_cutAll_77 : decode cX4_cutAll 77 = .ok (.iadd, 1) := by decide +kernel
theorem dX4_cutAll_78 : decode cX4_cutAll 78 = .ok (.istore_n 3, 1) := by decide +kernel
theorem dX4_cutAll_79 : decode cX4_cutAll 79 = .ok (.aload_n 0, 1) := by decide +kernel
theorem dX4_cutAll_80 : decode cX4_cutAll 80 = .ok (.getfield 81, 3) := by decide +kernel
theorem dX4_cutAll_83 : decode cX4_cutAll 83 = .ok (.iload_n 2, 1) := by decide +kernel
theorem dX4_cutAll_84 : decode cX4_cutAll 84 = .ok (.iaload, 1) := by decide +kernel
theorem dX4_cutAll_85 : decode cX4_cutAll 85 = .ok (.aload_n 0, 1) := by decide +kernel
theorem dX4_cutAll_86 : decode cX4_cutAll 86 = .ok (.getfield 78, 3) := by decide +kernel
theorem dX4_cutAll_89 : decode cX4_cutAll 89 = .ok (.iload_n 2, 1) := by decide +kernel
theorem dX4_cutAll_90 : decode cX4_cutAll 90 = .ok (.iaload, 1) := by decide +kernel
theorem dX4_cutAll_91 : decode cX4_cutAll 91 = .ok (.isub, 1) := by decide +kernel
theorem dX4_cutAll_92 : decode cX4_cutAll 92 = .ok (.iconst 1, 1) := by decide +kernel
theorem dX4_cutAll_93 : decode cX4_cutAll 93 = .ok (.if_icmp .ne 28, 3) := by decide +kernel
theorem dX4_cutAll_96 : decode cX4_cutAll 96 = .ok (.aload_n 0, 1) := by decide +kernel
theorem dX4_cutAll_97 : decode cX4_cutAll 97 = .ok (.getfield 75, 3) := by decide +kernel
theorem dX4_cutAll_100 : decode cX4_cutAll 100 = .ok (.aload_n 0, 1) := by decide +kernel
theorem dX4_cutAll_101 : decode cX4_cutAll 101 = .ok (.getfield 78, 3) := by decide +kernel
theorem dX4_cutAll_104 : decode cX4_cutAll 104 = .ok (.iload_n 2, 1) := by decide +kernel
theorem dX4_cutAll_105 : decode cX4_cutAll 105 = .ok (.iaload, 1) := by decide +kernel
theorem dX4_cutAll_106 : decode cX4_cutAll 106 = .ok (.iaload, 1) := by decide +kernel
theorem dX4_cutAll_107 : decode cX4_cutAll 107 = .ok (.istore_n 1, 1) := by decide +kernel
theorem dX4_cutAll_108 : decode cX4_cutAll 108 = .ok (.aload_n 0, 1) := by decide +kernel
theorem dX4_cutAll_109 : decode cX4_cutAll 109 = .ok (.dup, 1) := by decide +kernel
theorem dX4_cutAll_110 : decode cX4_cutAll 110 = .ok (.getfield 157, 3) := by decide +kernel
theorem dX4_cutAll_113 : decode cX4_cutAll 113 = .ok (.iconst 1, 1) := by decide +kernel
theorem dX4_cutAll_114 : decode cX4_cutAll 114 = .ok (.isub, 1) := by decide +kernel
theorem dX4_cutAll_115 : decode cX4_cutAll 115 = .ok (.putfield 157, 3) := by decide +kernel
theorem dX4_cutAll_118 : decode cX4_cutAll 118 = .ok (.goto 141, 3) := by decide +kernel
theorem dX4_cutAll_121 : decode cX4_cutAll 121 = .ok (.aload_n 0, 1) := by decide +kernel
theorem dX4_cutAll_122 : decode cX4_cutAll 122 = .ok (.getfield 87, 3) := by decide +kernel
theorem dX4_cutAll_125 : decode cX4_cutAll 125 = .ok (.iload_n 2, 1) := by decide +kernel
theorem dX4_cutAll_126 : decode cX4_cutAll 126 = .ok (.iaload, 1) := by decide +kernel
theorem dX4_cutAll_127 : decode cX4_cutAll 127 = .ok (.ifCond .ne 64, 3) := by decide +kernel
theorem dX4_cutAll_130 : decode cX4_cutAll 130 = .ok (.aload_n 0, 1) := by decide +kernel
theorem dX4_cutAll_131 : decode cX4_cutAll 131 = .ok (.aload_n 0, 1) := by decide +kernel
theorem dX4_cutAll_132 : decode cX4_cutAll 132 = .ok (.getfield 78, 3) := by decide +kernel
theorem dX4_cutAll_135 : decode cX4_cutAll 135 = .ok (.iload_n 2, 1) := by decide +kernel
theorem dX4_cutAll_136 : decode cX4_cutAll 136 = .ok (.iaload, 1) := by decide +kernel
theorem dX4_cutAll_137 : decode cX4_cutAll 137 = .ok (.aload_n 0, 1) := by decide +kernel
theorem dX4_cutAll_138 : decode cX4_cutAll 138 = .ok (.getfield 81, 3) := by decide +kernel
theorem dX4_cutAll_141 : decode cX4_cutAll 141 = .ok (.iload_n 2, 1) := by decide +kernel
theorem dX4_cutAll_142 : decode cX4_cutAll 142 = .ok (.iaload, 1) := by decide +kernel
theorem dX4_cutAll_143 : decode cX4_cutAll 143 = .ok (.aload_n 0, 1) := by decide +kernel
theorem dX4_cutAll_144 : decode cX4_cutAll 144 = .ok (.getfield 84, 3) := by decide +kernel
theorem dX4_cutAll_147 : decode cX4_cutAll 147 = .ok (.iload_n 2, 1) := by decide +kernel
theorem dX4_cutAll_148 : decode cX4_cutAll 148 = .ok (.iaload, 1) := by decide +kernel
theorem dX4_cutAll_149 : decode cX4_cutAll 149 = .ok (.iconst 2, 1) := by decide +kernel
theorem dX4_cutAll_150 : decode cX4_cutAll 150 = .ok (.irem, 1) := by decide +kernel
theorem dX4_cutAll_151 : decode cX4_cutAll 151 = .ok (.ifCond .ne 7, 3) := by decide +kernel
theorem dX4_cutAll_154 : decode cX4_cutAll 154 = .ok (.iconst 1, 1) := by decide +kernel
theorem dX4_cutAll_155 : decode cX4_cutAll 155 = .ok (.goto 4, 3) := by decide +kernel
theorem dX4_cutAll_158 : decode cX4_cutAll 158 = .ok (.iconst 0, 1) := by decide +kernel
theorem dX4_cutAll_159 : decode cX4_cutAll 159 = .ok (.invokevirtual 164, 3) := by decide +kernel
theorem dX4_cutAll_162 : decode cX4_cutAll 162 = .ok (.aload_n 0, 1) := by decide +kernel
theorem dX4_cutAll_163 : decode cX4_cutAll 163 = .ok (.getfield 87, 3) := by decide +kernel
theorem dX4_cutAll_166 : decode cX4_cutAll 166 = .ok (.iload_n 2, 1) := by decide +kernel
theorem dX4_cutAll_167 : decode cX4_cutAll 167 = .ok (.iconst 1, 1) := by decide +kernel
theorem dX4_cutAll_168 : decode cX4_cutAll 168 = .ok (.iastore, 1) := by decide +kernel
theorem dX4_cutAll_169 : decode cX4_cutAll 169 = .ok (.aload_n 0, 1) := by decide +kernel
theorem dX4_cutAll_170 : decode cX4_cutAll 170 = .ok (.aload_n 0, 1) := by decide +kernel
theorem dX4_cutAll_171 : decode cX4_cutAll 171 = .ok (.getfield 78, 3) := by decide +kernel
theorem dX4_cutAll_174 : decode cX4_cutAll 174 = .ok (.iload_n 2, 1) := by decide +kernel
theorem dX4_cutAll_175 : decode cX4_cutAll 175 = .ok (.iaload, 1) := by decide +kernel
theorem dX4_cutAll_176 : decode cX4_cutAll 176 = .ok (.iload_n 3, 1) := by decide +kernel
theorem dX4_cutAll_177 : decode cX4_cutAll 177 = .ok (.aload_n 0, 1) := by decide +kernel
theorem dX4_cutAll_178 : decode cX4_cutAll 178 = .ok (.getfield 84, 3) := by decide +kernel
theorem dX4_cutAll_181 : decode cX4_cutAll 181 = .ok (.iload_n 2, 1) := by decide +kernel
theorem dX4_cutAll_182 : decode cX4_cutAll 182 = .ok (.iaload, 1) := by decide +kernel
theorem dX4_cutAll_183 : decode cX4_cutAll 183 = .ok (.iconst 1, 1) := by decide +kernel
theorem dX4_cutAll_184 : decode cX4_cutAll 184 = .ok (.iadd, 1) := by decide +kernel
theorem dX4_cutAll_185 : decode cX4_cutAll 185 = .ok (.invokevirtual 160, 3) := by decide +kernel
theorem dX4_cutAll_188 : decode cX4_cutAll 188 = .ok (.goto 71, 3) := by decide +kernel
theorem dX4_cutAll_191 : decode cX4_cutAll 191 = .ok (.aload_n 0, 1) := by decide +kernel
theorem dX4_cutAll_192 : decode cX4_cutAll 192 = .ok (.getfield 87, 3) := by decide +kernel
theorem dX4_cutAll_195 : decode cX4_cutAll 195 = .ok (.iload_n 2, 1) := by decide +kernel
theorem dX4_cutAll_196 : decode cX4_cutAll 196 = .ok (.iaload, 1) := by decide +kernel
theorem dX4_cutAll_197 : decode cX4_cutAll 197 = .ok (.iconst 1, 1) := by decide +kernel
theorem dX4_cutAll_198 : decode cX4_cutAll 198 = .ok (.if_icmp .ne 39, 3) := by decide +kernel
theorem dX4_cutAll_201 : decode cX4_cutAll 201 = .ok (.aload_n 0, 1) := by decide +kernel
theorem dX4_cutAll_202 : decode cX4_cutAll 202 = .ok (.getfield 90, 3) := by decide +kernel
theorem dX4_cutAll_205 : decode cX4_cutAll 205 = .ok (.iload_n 2, 1) := by decide +kernel
theorem dX4_cutAll_206 : decode cX4_cutAll 206 = .ok (.iload_n 1, 1) := by decide +kernel
theorem dX4_cutAll_207 : decode cX4_cutAll 207 = .ok (.iastore, 1) := by decide +kernel
theorem dX4_cutAll_208 : decode cX4_cutAll 208 = .ok (.aload_n 0, 1) := by decide +kernel
theorem dX4_cutAll_209 : decode cX4_cutAll 209 = .ok (.getfield 87, 3) := by decide +kernel
theorem dX4_cutAll_212 : decode cX4_cutAll 212 = .ok (.iload_n 2, 1) := by decide +kernel
theorem dX4_cutAll_213 : decode cX4_cutAll 213 = .ok (.iconst 2, 1) := by decide +kernel
theorem dX4_cutAll_214 : decode cX4_cutAll 214 = .ok (.iastore, 1) := by decide +kernel
theorem dX4_cutAll_215 : decode cX4_cutAll 215 = .ok (.aload_n 0, 1) := by decide +kernel
theorem dX4_cutAll_216 : decode cX4_cutAll 216 = .ok (.iload_n 3, 1) := by decide +kernel
theorem dX4_cutAll_217 : decode cX4_cutAll 217 = .ok (.aload_n 0, 1) := by decide +kernel
theorem dX4_cutAll_218 : decode cX4_cutAll 218 = .ok (.getfield 81, 3) := by decide +kernel
theorem dX4_cutAll_221 : decode cX4_cutAll 221 = .ok (.iload_n 2, 1) := by decide +kernel
theorem dX4_cutAll_222 : decode cX4_cutAll 222 = .ok (.iaload, 1) := by decide +kernel
theorem dX4_cutAll_223 : decode cX4_cutAll 223 = .ok (.aload_n 0, 1) := by decide +kernel
theorem dX4_cutAll_224 : decode cX4_cutAll 224 = .ok (.getfield 84, 3) := by decide +kernel
theorem dX4_cutAll_227 : decode cX4_cutAll 227 = .ok (.iload_n 2, 1) := by decide +kernel
theorem dX4_cutAll_228 : decode cX4_cutAll 228 = .ok (.iaload, 1) := by decide +kernel
theorem dX4_cutAll_229 : decode cX4_cutAll 229 = .ok (.iconst 1, 1) := by decide +kernel
theorem dX4_cutAll_230 : decode cX4_cutAll 230 = .ok (.iadd, 1) := by decide +kernel
theorem dX4_cutAll_231 : decode cX4_cutAll 231 = .ok (.invokevirtual 160, 3) := by decide +kernel
theorem dX4_cutAll_234 : decode cX4_cutAll 234 = .ok (.goto 25, 3) := by decide +kernel
theorem dX4_cutAll_237 : decode cX4_cutAll 237 = .ok (.aload_n 0, 1) := by decide +kernel
theorem dX4_cutAll_238 : decode cX4_cutAll 238 = .ok (.aload_n 0, 1) := by decide +kernel
theorem dX4_cutAll_239 : decode cX4_cutAll 239 = .ok (.getfield 90, 3) := by decide +kernel
theorem dX4_cutAll_242 : decode cX4_cutAll 242 = .ok (.iload_n 2, 1) := by decide +kernel
theorem dX4_cutAll_243 : decode cX4_cutAll 243 = .ok (.iaload, 1) := by decide +kernel
theorem dX4_cutAll_244 : decode cX4_cutAll 244 = .ok (.iload_n 1, 1) := by decide +kernel
theorem dX4_cutAll_245 : decode cX4_cutAll 245 = .ok (.invokevirtual 150, 3) := by decide +kernel
theorem dX4_cutAll_248 : decode cX4_cutAll 248 = .ok (.istore_n 1, 1) := by decide +kernel
theorem dX4_cutAll_249 : decode cX4_cutAll 249 = .ok (.aload_n 0, 1) := by decide +kernel
theorem dX4_cutAll_250 : decode cX4_cutAll 250 = .ok (.dup, 1) := by decide +kernel
theorem dX4_cutAll_251 : decode cX4_cutAll 251 = .ok (.getfield 157, 3) := by decide +kernel
theorem dX4_cutAll_254 : decode cX4_cutAll 254 = .ok (.iconst 1, 1) := by decide +kernel
theorem dX4_cutAll_255 : decode cX4_cutAll 255 = .ok (.isub, 1) := by decide +kernel
theorem dX4_cutAll_256 : decode cX4_cutAll 256 = .ok (.putfield 157, 3) := by decide +kernel
theorem dX4_cutAll_259 : decode cX4_cutAll 259 = .ok (.goto (-219), 3) := by decide +kernel
theorem dX4_cutAll_262 : decode cX4_cutAll 262 = .ok (.return_, 1) := by decide +kernel
theorem dX4_nearest_0 : decode cX4_nearest 0 = .ok (.iload_n 0, 1) := by decide +kernel
theorem dX4_nearest_1 : decode cX4_nearest 1 = .ok (.iload_n 1, 1) := by decide +kernel
theorem dX4_nearest_2 : decode cX4_nearest 2 = .ok (.if_icmp .ge 7, 3) := by decide +kernel
theorem dX4_nearest_5 : decode cX4_nearest 5 = .ok (.iload_n 1, 1) := by decide +kernel
theorem dX4_nearest_6 : decode cX4_nearest 6 = .ok (.goto 13, 3) := by decide +kernel
theorem dX4_nearest_9 : decode cX4_nearest 9 = .ok (.iload_n 0, 1) := by decide +kernel
theorem dX4_nearest_10 : decode cX4_nearest 10 = .ok (.iload_n 2, 1) := by decide +kernel
theorem dX4_nearest_11 : decode cX4_nearest 11 = .ok (.if_icmp .le 7, 3) := by decide +kernel
theorem dX4_nearest_14 : decode cX4_nearest 14 = .ok (.iload_n 2, 1) := by decide +kernel
theorem dX4_nearest_15 : decode cX4_nearest 15 = .ok (.goto 4, 3) := by decide +kernel
theorem dX4_nearest_18 : decode cX4_nearest 18 = .ok (.iload_n 0, 1) := by decide +kernel
theorem dX4_nearest_19 : decode cX4_nearest 19 = .ok (.ireturn, 1) := by decide +kernel
set_option maxRecDepth 20000 in
theorem ggX4_choose_X4_nearest : GoodIn wsX4_choose wsX4_nearest := goodIn_r _ [15] (by decide +kernel) (by decide +kernel)
set_option maxRecDepth 20000 in
theorem gX4_choose_X4_nearest : GoodIn wsX4_choose (va_wsS RX4 168 yX4_nearest wsX4_nearest) := goodIn_app (goodIn_of _ (by decide +kernel)) ggX4_choose_X4_nearest
set_option maxRecDepth 20000 in
theorem ggX4_choose_X4_gap : GoodIn wsX4_choose wsX4_gap := goodIn_r _ [18, 19, 20, 14, 21] (by decide +kernel) (by decide +kernel)
set_option maxRecDepth 20000 in
theorem gX4_choose_X4_gap : GoodIn wsX4_choose (va_wsS RX4 133 yX4_gap wsX4_gap) := goodIn_app (goodIn_of _ (by decide +kernel)) ggX4_choose_X4_gap
set_option maxRecDepth 20000 in
theorem ggX4_choose_X4_greater : GoodIn wsX4_choose wsX4_greater := goodIn_r _ [21] (by decide +kernel) (by decide +kernel)
